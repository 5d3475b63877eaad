section
set_option maxHeartbeats 4000000 in
set_option maxRecDepth 100000 in
theorem c_X8_changeValue (l : Launch) (D : va_G) (tc : Nat → ClassId) (base : Nat) (ad : Nat → Int → Nat) (cnt : Nat → Int) (X : Nat → Int → Int → Int) (Y : Nat → Int → Int → Option Int) (ln : Int → Int) (hR : Rng X) (hFx : Fx cnt) (hLn : LnOK ln) (hCI : CInv cnt X Y ln) (x k v : Int) (hx0 : 0 ≤ x ∧ x ≤ 29) (hk0 : 0 ≤ k ∧ k ≤ 4) (hv : -9223372036854775808 ≤ v ∧ v ≤ 9223372036854775807) : KI l D tc base yX8_changeValue wsX8_changeValue ({ frames := 3, cells := 0, slots := 0, locals := 68 } : Room) [.ref (ad 0 0), .ref (ad 15 x), .int (jI k), .long (jL v)] (ad, cnt, X, Y, ln) 0 0 (fun z u => ∃ (X1 : Nat → Int → Int → Int) (Y1 : Nat → Int → Int → Option Int), u = (ad, cnt, X1, Y1, ln) ∧ Rng X1 ∧ Frm [2802, 2803, 2902, 1600] X X1 ∧ Frm [2801, 2804] Y Y1 ∧ CInv cnt X1 Y1 ln ∧ (-2147483648 ≤ z ∧ z ≤ 2147483647) ∧ ((80 ≤ X 29 0 1 ∧ z = -4 ∧ X1 = X ∧ Y1 = Y) ∨ (X 29 0 1 ≤ 79 ∧ z = 1 ∧ eNoteC X X1 Y Y1 (some x) k (X 16 x k) (Y 17 x k) ∧ X1 16 x k = v ∧ (∀ y j, ¬ (y = x ∧ j = k) → X1 16 y j = X 16 y j) ∧ ∀ y j, Y1 17 y j = Y 17 y j))) := by
  refine K_of (cc := cX8_changeValue) (maxL := 5) (ret := (some .int)) (by decide) rfl (Nat.le_of_ble_eq_true rfl) ?_
  intro p e s m below meth c ls hx hb hr hml hown hts hlocks hl hK hw hS
  have hown : s.vm.findClass RX8 = some m.cls := hown
  obtain ⟨av9, hav9⟩ : ∃ a9 : Array Value, a9 = ([.ref (ad 0 0), .ref (ad 15 x), .int (jI k), .long (jL v)] : List Value).toArray := ⟨_, rfl⟩
  rw [← hav9] at hts ⊢
  obtain ⟨Q9, hQ9⟩ : ∃ q9Q : State → Prop, q9Q = MQ below (QI D tc base (fun z u => ∃ (X1 : Nat → Int → Int → Int) (Y1 : Nat → Int → Int → Option Int), u = (ad, cnt, X1, Y1, ln) ∧ Rng X1 ∧ Frm [2802, 2803, 2902, 1600] X X1 ∧ Frm [2801, 2804] Y Y1 ∧ CInv cnt X1 Y1 ln ∧ (-2147483648 ≤ z ∧ z ≤ 2147483647) ∧ ((80 ≤ X 29 0 1 ∧ z = -4 ∧ X1 = X ∧ Y1 = Y) ∨ (X 29 0 1 ≤ 79 ∧ z = 1 ∧ eNoteC X X1 Y Y1 (some x) k (X 16 x k) (Y 17 x k) ∧ X1 16 x k = v ∧ (∀ y j, ¬ (y = x ∧ j = k) → X1 16 y j = X 16 y j) ∧ ∀ y j, Y1 17 y j = Y 17 y j)))) av9 s 0 0 (frA base) := ⟨_, rfl⟩
  rw [← hQ9]
  have hi6 : ∀ w ∈ wsX60, w ∈ wsX8_changeValue := fun w h => List.mem_cons_of_mem _ (List.mem_append_left _ (List.mem_append_left _ (List.mem_append_right _ h)))
  have hf6 : fctx s m _ RX8 wsX8_changeValue D tc RX6 TX6 4 6 := ⟨hts, hi6, hown, hK.1, rfl⟩
  have hi8 : ∀ w ∈ wsX80, w ∈ wsX8_changeValue := fun w h => List.mem_cons_of_mem _ (List.mem_append_left _ (List.mem_append_left _ (List.mem_append_left _ (List.mem_append_right _ h))))
  have hf8 : fctx s m _ RX8 wsX8_changeValue D tc RX8 TX8 12 8 := ⟨hts, hi8, hown, hK.1, rfl⟩
  have lk51 := hts (.fieldLink RX8 51 (TX8 10).1 (TX8 10).2.1 (TX8 10).2.2.1) (gj_X8_changeValue_0 _ (gp_h))
  have lk193 := hts (.fieldLink RX8 193 (TX6 1).1 (TX6 1).2.1 (TX6 1).2.2.1) (gj_X8_changeValue_0 _ (gp_1 gp_h))
  have hc0 : cnt 0 = 1 := hFx.at 0 1 (by decide)
  have hc15 : cnt 15 = 30 := hFx.at 15 30 (by decide)
  have hc16 : cnt 16 = 30 := hFx.at 16 30 (by decide)
  have hc29 : cnt 29 = 1 := hFx.at 29 1 (by decide)
  have hl : lv_has ls 5 [(0, .ref (ad 0 0)), (1, .ref (ad 15 x)), (2, .int (jI k)), (3, .long (jL v))] := hl
  have ftc : 0 ≤ X 0 0 3 ∧ X 0 0 3 ≤ 30 := hR 0 0 3
  have fty : 0 ≤ X 0 0 1 ∧ X 0 0 1 ≤ 8 := hR 0 0 1
  have hct : cnt 19 = X 0 0 1 := hCI.2.2.2.1.1
  have hfj : 0 ≤ X 29 0 3 ∧ X 29 0 3 ≤ 4 := hR 29 0 3
  have hfn : 0 ≤ X 29 0 1 ∧ X 29 0 1 ≤ 80 := hR 29 0 1
  refine lv_aload_n hx hb dX8_changeValue_0 rfl (lv_at hl 0 rfl) ?_
  refine x_geto hx hb hf8 hw (by first | exact Int.le_refl 0 | omega) (by first | exact zlt hc0 | omega) sl_0_10 lk51 dX8_changeValue_1 ?_
  refine gos_i (run_V (As := []) (rest := []) hx hb hml hown hts (c_X2_isFull l D tc base ad cnt X Y ln hR hFx hLn hCI) (cwV 0 hts gX8_changeValue_X2_isFull rfl rfl rfl (by first | exact hd_X2_isFull | decide +kernel) ⟨Nat.le_of_ble_eq_true rfl, Nat.le_of_ble_eq_true rfl⟩) hK hw (by first | exact Int.le_refl 0 | omega) (by first | exact zlt hc29 | omega) sl_29_0 rfl rfl hl.1 rfl (Nat.le_of_ble_eq_true rfl) dX8_changeValue_4 ⟨Nat.le_of_ble_eq_true rfl, Nat.le_of_ble_eq_true rfl⟩) hS (fun z1 u2 H locs p3 hw hS => ?_)
  obtain ⟨eu2, p3⟩ := p3
  subst eu2
  rcases p3 with ⟨ez1, p3⟩ | ⟨ez1, p3⟩
  · subst ez1
    refine x_if_eqF (tgt := 13) hx hb (by omega) (by decide) dX8_changeValue_7 (by decide) ?_
    refine lv_bipush (v := jI (-4)) hx hb dX8_changeValue_10 (by decide) ?_
    rw [hQ9]
    refine ret_i (mc := 0) (ms := 0) hx hb hr hlocks hw hS (by first | exact Nat.le_of_ble_eq_true rfl | omega) (by first | exact Nat.le_of_ble_eq_true rfl | omega) dX8_changeValue_12 ?_
    exact ⟨X, Y, rfl, hR, Frm.rf, Frm.rf, hCI, by omega, Or.inl ⟨by omega, rfl, rfl, rfl⟩⟩
  · subst ez1
    refine x_if_eqT (tgt := 13) hx hb (by omega) (by decide) dX8_changeValue_7 (by decide) ?_
    refine lv_aload_n hx hb dX8_changeValue_13 rfl (lv_at hl 0 rfl) ?_
    refine x_geto hx hb hf8 hw (by first | exact Int.le_refl 0 | omega) (by first | exact zlt hc0 | omega) sl_0_10 lk51 dX8_changeValue_14 ?_
    refine lv_aload_n hx hb dX8_changeValue_17 rfl (lv_at hl 1 rfl) ?_
    refine lv_iload_n hx hb dX8_changeValue_18 rfl (lv_at hl 2 rfl) ?_
    refine gos_v (run_V (As := [.ref (ad 15 x), .int (jI k)]) (rest := []) hx hb hml hown hts (c_X2_noteField l D tc base ad cnt X Y ln hR hFx hLn hCI x k (by omega) (by omega) (by omega)) (cwV 2 hts gX8_changeValue_X2_noteField rfl rfl rfl (by first | exact hd_X2_noteField | decide +kernel) ⟨Nat.le_of_ble_eq_true rfl, Nat.le_of_ble_eq_true rfl⟩) hK hw (by first | exact Int.le_refl 0 | omega) (by first | exact zlt hc29 | omega) sl_29_0 rfl rfl hl.1 rfl (Nat.le_of_ble_eq_true rfl) dX8_changeValue_19 ⟨Nat.le_of_ble_eq_true rfl, Nat.le_of_ble_eq_true rfl⟩) hS (fun u5 H locs p6 hw hS => ?_)
    obtain ⟨X7, Y8, eu5, hRX7, hG9, hJ10, hCIX7, p6, hntX7⟩ := p6
    subst eu5
    have hFX7 : Frm [2802, 2803, 2902, 1600] X X7 := Frm.tr Frm.rf (Frm.mono hG9 (by first | exact nls_of rfl | decide))
    have hHY8 : Frm [2801, 2804] Y Y8 := Frm.tr Frm.rf (Frm.mono hJ10 (by first | exact nls_of rfl | decide))
    refine lv_aload_n hx hb dX8_changeValue_22 rfl (lv_at hl 1 rfl) ?_
    refine x_geto hx hb hf6 hw (by omega) (by omega) sl_15_1 lk193 dX8_changeValue_23 ?_
    refine lv_iload_n hx hb dX8_changeValue_26 rfl (lv_at hl 2 rfl) ?_
    refine lv_lload_n hx hb dX8_changeValue_27 rfl (lv_at hl 3 rfl) ?_
    refine x_last hx hb hK.1 hw hS (by omega) (by omega) ar_16 (len_E ar_16 (by first | exact Nat.ne_of_beq_eq_false rfl | decide)) (by omega) (by omega) (by omega) dX8_changeValue_28 (fun H locs hw hS => ?_)
    obtain ⟨X11, hX11⟩ : ∃ Xq, Xq = u3 X7 16 x k v := ⟨_, rfl⟩
    rw [← hX11] at hw
    have hRX11 : Rng X11 := by rw [hX11]; exact rng_set hRX7 (show (-9223372036854775808) ≤ v ∧ v ≤ 9223372036854775807 by omega)
    have hVX11 : X11 16 x k = v := by rw [hX11]; exact u3_s _ _ _ _ _
    have hFX11 : Frm [2802, 2803, 2902, 1600] X X11 := by rw [hX11]; exact Frm.set hFX7 (show 1600 ∈ [2802, 2803, 2902, 1600] by first | exact nlm_in rfl | decide)
    refine lv_iconst (v := jI 1) hx hb dX8_changeValue_29 rfl ?_
    rw [hQ9]
    refine ret_i (mc := 0) (ms := 0) hx hb hr hlocks hw hS (by first | exact Nat.le_of_ble_eq_true rfl | omega) (by first | exact Nat.le_of_ble_eq_true rfl | omega) dX8_changeValue_30 ?_
    have q12 : Frm [1600] X7 X11 := by rw [hX11]; exact Frm.set Frm.rf (show 1600 ∈ [1600] by first | exact nlm_in rfl | decide)
    have hCq13 : CInv cnt X11 Y8 ln := cinv_frm (M := [1600]) (N := []) hCIX7 q12 Frm.rf (by decide) (by decide)
    have q14 : Frm [1600] X7 X11 := by rw [hX11]; exact Frm.set Frm.rf (show 1600 ∈ [1600] by first | exact nlm_in rfl | decide)
    have h15 := eNoteC.to (M := [1600]) (N := []) hntX7 q14 Frm.rf (by decide) (by decide) (fun n j => (by rw [hX11, u3_k _ _ _ _ (by first | exact Nat.ne_of_beq_eq_false rfl | decide)])) (fun n j => rfl)
    exact ⟨X11, Y8, rfl, hRX11, hFX11, hHY8, hCq13, by omega, Or.inr ⟨by omega, rfl, h15, hVX11, fun y j hy => (by rw [hX11, u3_ij hy, hG9 16 y j (show 1600 ∉ [2802, 2803, 2902] by first | exact nlm_ni rfl | decide)]), fun y j => (by rw [hJ10 17 y j (show 1700 ∉ [2801, 2804] by first | exact nlm_ni rfl | decide)])⟩⟩

set_option maxHeartbeats 4000000 in
set_option maxRecDepth 100000 in
theorem c_X8_changeRow_r (l : Launch) (D : va_G) (tc : Nat → ClassId) (base : Nat) (ad : Nat → Int → Nat) (cnt : Nat → Int) (X : Nat → Int → Int → Int) (Y : Nat → Int → Int → Option Int) (ln : Int → Int) (hR : Rng X) (hFx : Fx cnt) (hLn : LnOK ln) (hCI : CInv cnt X Y ln) (x k g : Int) (hx0 : 0 ≤ x ∧ x ≤ 29) (hk0 : 0 ≤ k ∧ k ≤ 4) (hg : 0 ≤ g ∧ g < cnt 26) : KI l D tc base yX8_changeRow wsX8_changeRow ({ frames := 3, cells := 0, slots := 0, locals := 68 } : Room) [.ref (ad 0 0), .ref (ad 15 x), .int (jI k), .ref (ad 26 g)] (ad, cnt, X, Y, ln) 0 0 (fun z u => ∃ (X1 : Nat → Int → Int → Int) (Y1 : Nat → Int → Int → Option Int), u = (ad, cnt, X1, Y1, ln) ∧ Rng X1 ∧ Frm [2802, 2803, 2902] X X1 ∧ Frm [2801, 2804, 1700] Y Y1 ∧ CInv cnt X1 Y1 ln ∧ (-2147483648 ≤ z ∧ z ≤ 2147483647) ∧ ((80 ≤ X 29 0 1 ∧ z = -4 ∧ X1 = X ∧ Y1 = Y) ∨ (X 29 0 1 ≤ 79 ∧ z = 1 ∧ eNoteC X X1 Y Y1 (some x) k (X 16 x k) (Y 17 x k) ∧ Y1 17 x k = some g ∧ (∀ y j, ¬ (y = x ∧ j = k) → Y1 17 y j = Y 17 y j) ∧ ∀ y j, X1 16 y j = X 16 y j))) := by
  refine K_of (cc := cX8_changeRow) (maxL := 4) (ret := (some .int)) (by decide) rfl (Nat.le_of_ble_eq_true rfl) ?_
  intro p e s m below meth c ls hx hb hr hml hown hts hlocks hl hK hw hS
  have hown : s.vm.findClass RX8 = some m.cls := hown
  obtain ⟨av9, hav9⟩ : ∃ a9 : Array Value, a9 = ([.ref (ad 0 0), .ref (ad 15 x), .int (jI k), .ref (ad 26 g)] : List Value).toArray := ⟨_, rfl⟩
  rw [← hav9] at hts ⊢
  obtain ⟨Q9, hQ9⟩ : ∃ q9Q : State → Prop, q9Q = MQ below (QI D tc base (fun z u => ∃ (X1 : Nat → Int → Int → Int) (Y1 : Nat → Int → Int → Option Int), u = (ad, cnt, X1, Y1, ln) ∧ Rng X1 ∧ Frm [2802, 2803, 2902] X X1 ∧ Frm [2801, 2804, 1700] Y Y1 ∧ CInv cnt X1 Y1 ln ∧ (-2147483648 ≤ z ∧ z ≤ 2147483647) ∧ ((80 ≤ X 29 0 1 ∧ z = -4 ∧ X1 = X ∧ Y1 = Y) ∨ (X 29 0 1 ≤ 79 ∧ z = 1 ∧ eNoteC X X1 Y Y1 (some x) k (X 16 x k) (Y 17 x k) ∧ Y1 17 x k = some g ∧ (∀ y j, ¬ (y = x ∧ j = k) → Y1 17 y j = Y 17 y j) ∧ ∀ y j, X1 16 y j = X 16 y j)))) av9 s 0 0 (frA base) := ⟨_, rfl⟩
  rw [← hQ9]
  have hi6 : ∀ w ∈ wsX60, w ∈ wsX8_changeRow := fun w h => List.mem_cons_of_mem _ (List.mem_append_left _ (List.mem_append_left _ (List.mem_append_right _ h)))
  have hf6 : fctx s m _ RX8 wsX8_changeRow D tc RX6 TX6 4 6 := ⟨hts, hi6, hown, hK.1, rfl⟩
  have hi8 : ∀ w ∈ wsX80, w ∈ wsX8_changeRow := fun w h => List.mem_cons_of_mem _ (List.mem_append_left _ (List.mem_append_left _ (List.mem_append_left _ (List.mem_append_right _ h))))
  have hf8 : fctx s m _ RX8 wsX8_changeRow D tc RX8 TX8 12 8 := ⟨hts, hi8, hown, hK.1, rfl⟩
  have lk51 := hts (.fieldLink RX8 51 (TX8 10).1 (TX8 10).2.1 (TX8 10).2.2.1) (gj_X8_changeRow_0 _ (gp_h))
  have lk158 := hts (.fieldLink RX8 158 (TX6 2).1 (TX6 2).2.1 (TX6 2).2.2.1) (gj_X8_changeRow_0 _ (gp_1 gp_h))
  have hc0 : cnt 0 = 1 := hFx.at 0 1 (by decide)
  have hc15 : cnt 15 = 30 := hFx.at 15 30 (by decide)
  have hc17 : cnt 17 = 30 := hFx.at 17 30 (by decide)
  have hc29 : cnt 29 = 1 := hFx.at 29 1 (by decide)
  have hl : lv_has ls 4 [(0, .ref (ad 0 0)), (1, .ref (ad 15 x)), (2, .int (jI k)), (3, .ref (ad 26 g))] := hl
  have ftc : 0 ≤ X 0 0 3 ∧ X 0 0 3 ≤ 30 := hR 0 0 3
  have fty : 0 ≤ X 0 0 1 ∧ X 0 0 1 ≤ 8 := hR 0 0 1
  have hct : cnt 19 = X 0 0 1 := hCI.2.2.2.1.1
  have hfj : 0 ≤ X 29 0 3 ∧ X 29 0 3 ≤ 4 := hR 29 0 3
  have hfn : 0 ≤ X 29 0 1 ∧ X 29 0 1 ≤ 80 := hR 29 0 1
  refine lv_aload_n hx hb dX8_changeRow_0 rfl (lv_at hl 0 rfl) ?_
  refine x_geto hx hb hf8 hw (by first | exact Int.le_refl 0 | omega) (by first | exact zlt hc0 | omega) sl_0_10 lk51 dX8_changeRow_1 ?_
  refine gos_i (run_V (As := []) (rest := []) hx hb hml hown hts (c_X2_isFull l D tc base ad cnt X Y ln hR hFx hLn hCI) (cwV 0 hts gX8_changeRow_X2_isFull rfl rfl rfl (by first | exact hd_X2_isFull | decide +kernel) ⟨Nat.le_of_ble_eq_true rfl, Nat.le_of_ble_eq_true rfl⟩) hK hw (by first | exact Int.le_refl 0 | omega) (by first | exact zlt hc29 | omega) sl_29_0 rfl rfl hl.1 rfl (Nat.le_of_ble_eq_true rfl) dX8_changeRow_4 ⟨Nat.le_of_ble_eq_true rfl, Nat.le_of_ble_eq_true rfl⟩) hS (fun z1 u2 H locs p3 hw hS => ?_)
  obtain ⟨eu2, p3⟩ := p3
  subst eu2
  rcases p3 with ⟨ez1, p3⟩ | ⟨ez1, p3⟩
  · subst ez1
    refine x_if_eqF (tgt := 13) hx hb (by omega) (by decide) dX8_changeRow_7 (by decide) ?_
    refine lv_bipush (v := jI (-4)) hx hb dX8_changeRow_10 (by decide) ?_
    rw [hQ9]
    refine ret_i (mc := 0) (ms := 0) hx hb hr hlocks hw hS (by first | exact Nat.le_of_ble_eq_true rfl | omega) (by first | exact Nat.le_of_ble_eq_true rfl | omega) dX8_changeRow_12 ?_
    exact ⟨X, Y, rfl, hR, Frm.rf, Frm.rf, hCI, by omega, Or.inl ⟨by omega, rfl, rfl, rfl⟩⟩
  · subst ez1
    refine x_if_eqT (tgt := 13) hx hb (by omega) (by decide) dX8_changeRow_7 (by decide) ?_
    refine lv_aload_n hx hb dX8_changeRow_13 rfl (lv_at hl 0 rfl) ?_
    refine x_geto hx hb hf8 hw (by first | exact Int.le_refl 0 | omega) (by first | exact zlt hc0 | omega) sl_0_10 lk51 dX8_changeRow_14 ?_
    refine lv_aload_n hx hb dX8_changeRow_17 rfl (lv_at hl 1 rfl) ?_
    refine lv_iload_n hx hb dX8_changeRow_18 rfl (lv_at hl 2 rfl) ?_
    refine gos_v (run_V (As := [.ref (ad 15 x), .int (jI k)]) (rest := []) hx hb hml hown hts (c_X2_noteField l D tc base ad cnt X Y ln hR hFx hLn hCI x k (by omega) (by omega) (by omega)) (cwV 2 hts gX8_changeRow_X2_noteField rfl rfl rfl (by first | exact hd_X2_noteField | decide +kernel) ⟨Nat.le_of_ble_eq_true rfl, Nat.le_of_ble_eq_true rfl⟩) hK hw (by first | exact Int.le_refl 0 | omega) (by first | exact zlt hc29 | omega) sl_29_0 rfl rfl hl.1 rfl (Nat.le_of_ble_eq_true rfl) dX8_changeRow_19 ⟨Nat.le_of_ble_eq_true rfl, Nat.le_of_ble_eq_true rfl⟩) hS (fun u5 H locs p6 hw hS => ?_)
    obtain ⟨X7, Y8, eu5, hRX7, hG9, hJ10, hCIX7, p6, hntX7⟩ := p6
    subst eu5
    have hFX7 : Frm [2802, 2803, 2902] X X7 := Frm.tr Frm.rf (Frm.mono hG9 (by first | exact nls_of rfl | decide))
    have hHY8 : Frm [2801, 2804, 1700] Y Y8 := Frm.tr Frm.rf (Frm.mono hJ10 (by first | exact nls_of rfl | decide))
    refine lv_aload_n hx hb dX8_changeRow_22 rfl (lv_at hl 1 rfl) ?_
    refine x_geto hx hb hf6 hw (by omega) (by omega) sl_15_2 lk158 dX8_changeRow_23 ?_
    refine lv_iload_n hx hb dX8_changeRow_26 rfl (lv_at hl 2 rfl) ?_
    refine lv_aload_n hx hb dX8_changeRow_27 rfl (lv_at hl 3 rfl) ?_
    refine x_aast hx hb hK.1 hw hS (by omega) (by omega) ar_17 rfl rfl sl_26_0 (len_E ar_17 (by first | exact Nat.ne_of_beq_eq_false rfl | decide)) (by omega) (by omega) (by omega) (by omega) (by omega) dX8_changeRow_28 (fun H locs hw hS => ?_)
    obtain ⟨Y11, hY11⟩ : ∃ Yq, Yq = u3 Y8 17 x k (some g) := ⟨_, rfl⟩
    rw [← hY11] at hw
    have hVY11 : Y11 17 x k = (some g) := by rw [hY11]; exact u3_s _ _ _ _ _
    have hHY11 : Frm [2801, 2804, 1700] Y Y11 := by rw [hY11]; exact Frm.set hHY8 (show 1700 ∈ [2801, 2804, 1700] by first | exact nlm_in rfl | decide)
    refine lv_iconst (v := jI 1) hx hb dX8_changeRow_29 rfl ?_
    rw [hQ9]
    refine ret_i (mc := 0) (ms := 0) hx hb hr hlocks hw hS (by first | exact Nat.le_of_ble_eq_true rfl | omega) (by first | exact Nat.le_of_ble_eq_true rfl | omega) dX8_changeRow_30 ?_
    have q12 : Frm [1700] Y8 Y11 := by rw [hY11]; exact Frm.set Frm.rf (show 1700 ∈ [1700] by first | exact nlm_in rfl | decide)
    have hCq13 : CInv cnt X7 Y11 ln := cinv_frm (M := []) (N := [1700]) hCIX7 Frm.rf q12 (by decide) (by decide)
    have q14 : Frm [1700] Y8 Y11 := by rw [hY11]; exact Frm.set Frm.rf (show 1700 ∈ [1700] by first | exact nlm_in rfl | decide)
    have h15 := eNoteC.to (M := []) (N := [1700]) hntX7 Frm.rf q14 (by decide) (by decide) (fun n j => rfl) (fun n j => (by rw [hY11, u3_k _ _ _ _ (by first | exact Nat.ne_of_beq_eq_false rfl | decide)]))
    exact ⟨X7, Y11, rfl, hRX7, hFX7, hHY11, hCq13, by omega, Or.inr ⟨by omega, rfl, h15, hVY11, fun y j hy => (by rw [hY11, u3_ij hy, hJ10 17 y j (show 1700 ∉ [2801, 2804] by first | exact nlm_ni rfl | decide)]), fun y j => (by rw [hG9 16 y j (show 1600 ∉ [2802, 2803, 2902] by first | exact nlm_ni rfl | decide)])⟩⟩

set_option maxHeartbeats 4000000 in
set_option maxRecDepth 100000 in
theorem c_X8_changeRow_n (l : Launch) (D : va_G) (tc : Nat → ClassId) (base : Nat) (ad : Nat → Int → Nat) (cnt : Nat → Int) (X : Nat → Int → Int → Int) (Y : Nat → Int → Int → Option Int) (ln : Int → Int) (hR : Rng X) (hFx : Fx cnt) (hLn : LnOK ln) (hCI : CInv cnt X Y ln) (x k : Int) (hx0 : 0 ≤ x ∧ x ≤ 29) (hk0 : 0 ≤ k ∧ k ≤ 4) : KI l D tc base yX8_changeRow wsX8_changeRow ({ frames := 3, cells := 0, slots := 0, locals := 68 } : Room) [.ref (ad 0 0), .ref (ad 15 x), .int (jI k), .null] (ad, cnt, X, Y, ln) 0 0 (fun z u => ∃ (X1 : Nat → Int → Int → Int) (Y1 : Nat → Int → Int → Option Int), u = (ad, cnt, X1, Y1, ln) ∧ Rng X1 ∧ Frm [2802, 2803, 2902] X X1 ∧ Frm [2801, 2804, 1700] Y Y1 ∧ CInv cnt X1 Y1 ln ∧ (-2147483648 ≤ z ∧ z ≤ 2147483647) ∧ ((80 ≤ X 29 0 1 ∧ z = -4 ∧ X1 = X ∧ Y1 = Y) ∨ (X 29 0 1 ≤ 79 ∧ z = 1 ∧ eNoteC X X1 Y Y1 (some x) k (X 16 x k) (Y 17 x k) ∧ Y1 17 x k = none ∧ (∀ y j, ¬ (y = x ∧ j = k) → Y1 17 y j = Y 17 y j) ∧ ∀ y j, X1 16 y j = X 16 y j))) := by
  refine K_of (cc := cX8_changeRow) (maxL := 4) (ret := (some .int)) (by decide) rfl (Nat.le_of_ble_eq_true rfl) ?_
  intro p e s m below meth c ls hx hb hr hml hown hts hlocks hl hK hw hS
  have hown : s.vm.findClass RX8 = some m.cls := hown
  obtain ⟨av9, hav9⟩ : ∃ a9 : Array Value, a9 = ([.ref (ad 0 0), .ref (ad 15 x), .int (jI k), .null] : List Value).toArray := ⟨_, rfl⟩
  rw [← hav9] at hts ⊢
  obtain ⟨Q9, hQ9⟩ : ∃ q9Q : State → Prop, q9Q = MQ below (QI D tc base (fun z u => ∃ (X1 : Nat → Int → Int → Int) (Y1 : Nat → Int → Int → Option Int), u = (ad, cnt, X1, Y1, ln) ∧ Rng X1 ∧ Frm [2802, 2803, 2902] X X1 ∧ Frm [2801, 2804, 1700] Y Y1 ∧ CInv cnt X1 Y1 ln ∧ (-2147483648 ≤ z ∧ z ≤ 2147483647) ∧ ((80 ≤ X 29 0 1 ∧ z = -4 ∧ X1 = X ∧ Y1 = Y) ∨ (X 29 0 1 ≤ 79 ∧ z = 1 ∧ eNoteC X X1 Y Y1 (some x) k (X 16 x k) (Y 17 x k) ∧ Y1 17 x k = none ∧ (∀ y j, ¬ (y = x ∧ j = k) → Y1 17 y j = Y 17 y j) ∧ ∀ y j, X1 16 y j = X 16 y j)))) av9 s 0 0 (frA base) := ⟨_, rfl⟩
  rw [← hQ9]
  have hi6 : ∀ w ∈ wsX60, w ∈ wsX8_changeRow := fun w h => List.mem_cons_of_mem _ (List.mem_append_left _ (List.mem_append_left _ (List.mem_append_right _ h)))
  have hf6 : fctx s m _ RX8 wsX8_changeRow D tc RX6 TX6 4 6 := ⟨hts, hi6, hown, hK.1, rfl⟩
  have hi8 : ∀ w ∈ wsX80, w ∈ wsX8_changeRow := fun w h => List.mem_cons_of_mem _ (List.mem_append_left _ (List.mem_append_left _ (List.mem_append_left _ (List.mem_append_right _ h))))
  have hf8 : fctx s m _ RX8 wsX8_changeRow D tc RX8 TX8 12 8 := ⟨hts, hi8, hown, hK.1, rfl⟩
  have lk51 := hts (.fieldLink RX8 51 (TX8 10).1 (TX8 10).2.1 (TX8 10).2.2.1) (gj_X8_changeRow_0 _ (gp_h))
  have lk158 := hts (.fieldLink RX8 158 (TX6 2).1 (TX6 2).2.1 (TX6 2).2.2.1) (gj_X8_changeRow_0 _ (gp_1 gp_h))
  have hc0 : cnt 0 = 1 := hFx.at 0 1 (by decide)
  have hc15 : cnt 15 = 30 := hFx.at 15 30 (by decide)
  have hc17 : cnt 17 = 30 := hFx.at 17 30 (by decide)
  have hc29 : cnt 29 = 1 := hFx.at 29 1 (by decide)
  have hl : lv_has ls 4 [(0, .ref (ad 0 0)), (1, .ref (ad 15 x)), (2, .int (jI k)), (3, .null)] := hl
  have ftc : 0 ≤ X 0 0 3 ∧ X 0 0 3 ≤ 30 := hR 0 0 3
  have fty : 0 ≤ X 0 0 1 ∧ X 0 0 1 ≤ 8 := hR 0 0 1
  have hct : cnt 19 = X 0 0 1 := hCI.2.2.2.1.1
  have hfj : 0 ≤ X 29 0 3 ∧ X 29 0 3 ≤ 4 := hR 29 0 3
  have hfn : 0 ≤ X 29 0 1 ∧ X 29 0 1 ≤ 80 := hR 29 0 1
  refine lv_aload_n hx hb dX8_changeRow_0 rfl (lv_at hl 0 rfl) ?_
  refine x_geto hx hb hf8 hw (by first | exact Int.le_refl 0 | omega) (by first | exact zlt hc0 | omega) sl_0_10 lk51 dX8_changeRow_1 ?_
  refine gos_i (run_V (As := []) (rest := []) hx hb hml hown hts (c_X2_isFull l D tc base ad cnt X Y ln hR hFx hLn hCI) (cwV 0 hts gX8_changeRow_X2_isFull rfl rfl rfl (by first | exact hd_X2_isFull | decide +kernel) ⟨Nat.le_of_ble_eq_true rfl, Nat.le_of_ble_eq_true rfl⟩) hK hw (by first | exact Int.le_refl 0 | omega) (by first | exact zlt hc29 | omega) sl_29_0 rfl rfl hl.1 rfl (Nat.le_of_ble_eq_true rfl) dX8_changeRow_4 ⟨Nat.le_of_ble_eq_true rfl, Nat.le_of_ble_eq_true rfl⟩) hS (fun z1 u2 H locs p3 hw hS => ?_)
  obtain ⟨eu2, p3⟩ := p3
  subst eu2
  rcases p3 with ⟨ez1, p3⟩ | ⟨ez1, p3⟩
  · subst ez1
    refine x_if_eqF (tgt := 13) hx hb (by omega) (by decide) dX8_changeRow_7 (by decide) ?_
    refine lv_bipush (v := jI (-4)) hx hb dX8_changeRow_10 (by decide) ?_
    rw [hQ9]
    refine ret_i (mc := 0) (ms := 0) hx hb hr hlocks hw hS (by first | exact Nat.le_of_ble_eq_true rfl | omega) (by first | exact Nat.le_of_ble_eq_true rfl | omega) dX8_changeRow_12 ?_
    exact ⟨X, Y, rfl, hR, Frm.rf, Frm.rf, hCI, by omega, Or.inl ⟨by omega, rfl, rfl, rfl⟩⟩
  · subst ez1
    refine x_if_eqT (tgt := 13) hx hb (by omega) (by decide) dX8_changeRow_7 (by decide) ?_
    refine lv_aload_n hx hb dX8_changeRow_13 rfl (lv_at hl 0 rfl) ?_
    refine x_geto hx hb hf8 hw (by first | exact Int.le_refl 0 | omega) (by first | exact zlt hc0 | omega) sl_0_10 lk51 dX8_changeRow_14 ?_
    refine lv_aload_n hx hb dX8_changeRow_17 rfl (lv_at hl 1 rfl) ?_
    refine lv_iload_n hx hb dX8_changeRow_18 rfl (lv_at hl 2 rfl) ?_
    refine gos_v (run_V (As := [.ref (ad 15 x), .int (jI k)]) (rest := []) hx hb hml hown hts (c_X2_noteField l D tc base ad cnt X Y ln hR hFx hLn hCI x k (by omega) (by omega) (by omega)) (cwV 2 hts gX8_changeRow_X2_noteField rfl rfl rfl (by first | exact hd_X2_noteField | decide +kernel) ⟨Nat.le_of_ble_eq_true rfl, Nat.le_of_ble_eq_true rfl⟩) hK hw (by first | exact Int.le_refl 0 | omega) (by first | exact zlt hc29 | omega) sl_29_0 rfl rfl hl.1 rfl (Nat.le_of_ble_eq_true rfl) dX8_changeRow_19 ⟨Nat.le_of_ble_eq_true rfl, Nat.le_of_ble_eq_true rfl⟩) hS (fun u5 H locs p6 hw hS => ?_)
    obtain ⟨X7, Y8, eu5, hRX7, hG9, hJ10, hCIX7, p6, hntX7⟩ := p6
    subst eu5
    have hFX7 : Frm [2802, 2803, 2902] X X7 := Frm.tr Frm.rf (Frm.mono hG9 (by first | exact nls_of rfl | decide))
    have hHY8 : Frm [2801, 2804, 1700] Y Y8 := Frm.tr Frm.rf (Frm.mono hJ10 (by first | exact nls_of rfl | decide))
    refine lv_aload_n hx hb dX8_changeRow_22 rfl (lv_at hl 1 rfl) ?_
    refine x_geto hx hb hf6 hw (by omega) (by omega) sl_15_2 lk158 dX8_changeRow_23 ?_
    refine lv_iload_n hx hb dX8_changeRow_26 rfl (lv_at hl 2 rfl) ?_
    refine lv_aload_nN hx hb dX8_changeRow_27 rfl (lv_at hl 3 rfl) ?_
    refine x_aastn hx hb hK.1 hw hS (by omega) (by omega) ar_17 rfl (len_E ar_17 (by first | exact Nat.ne_of_beq_eq_false rfl | decide)) (by omega) (by omega) (by omega) dX8_changeRow_28 (fun H locs hw hS => ?_)
    obtain ⟨Y11, hY11⟩ : ∃ Yq, Yq = u3 Y8 17 x k none := ⟨_, rfl⟩
    rw [← hY11] at hw
    have hVY11 : Y11 17 x k = none := by rw [hY11]; exact u3_s _ _ _ _ _
    have hHY11 : Frm [2801, 2804, 1700] Y Y11 := by rw [hY11]; exact Frm.set hHY8 (show 1700 ∈ [2801, 2804, 1700] by first | exact nlm_in rfl | decide)
    refine lv_iconst (v := jI 1) hx hb dX8_changeRow_29 rfl ?_
    rw [hQ9]
    refine ret_i (mc := 0) (ms := 0) hx hb hr hlocks hw hS (by first | exact Nat.le_of_ble_eq_true rfl | omega) (by first | exact Nat.le_of_ble_eq_true rfl | omega) dX8_changeRow_30 ?_
    have q12 : Frm [1700] Y8 Y11 := by rw [hY11]; exact Frm.set Frm.rf (show 1700 ∈ [1700] by first | exact nlm_in rfl | decide)
    have hCq13 : CInv cnt X7 Y11 ln := cinv_frm (M := []) (N := [1700]) hCIX7 Frm.rf q12 (by decide) (by decide)
    have q14 : Frm [1700] Y8 Y11 := by rw [hY11]; exact Frm.set Frm.rf (show 1700 ∈ [1700] by first | exact nlm_in rfl | decide)
    have h15 := eNoteC.to (M := []) (N := [1700]) hntX7 Frm.rf q14 (by decide) (by decide) (fun n j => rfl) (fun n j => (by rw [hY11, u3_k _ _ _ _ (by first | exact Nat.ne_of_beq_eq_false rfl | decide)]))
    exact ⟨X7, Y11, rfl, hRX7, hFX7, hHY11, hCq13, by omega, Or.inr ⟨by omega, rfl, h15, hVY11, fun y j hy => (by rw [hY11, u3_ij hy, hJ10 17 y j (show 1700 ∉ [2801, 2804] by first | exact nlm_ni rfl | decide)]), fun y j => (by rw [hG9 16 y j (show 1600 ∉ [2802, 2803, 2902] by first | exact nlm_ni rfl | decide)])⟩⟩

set_option maxHeartbeats 4000000 in
set_option maxRecDepth 100000 in
theorem c_X8_lowestBits (l : Launch) (D : va_G) (tc : Nat → ClassId) (base : Nat) (ad : Nat → Int → Nat) (cnt : Nat → Int) (X : Nat → Int → Int → Int) (Y : Nat → Int → Int → Option Int) (ln : Int → Int) (v lane : Int) (hv : -9223372036854775808 ≤ v ∧ v ≤ 9223372036854775807) (hlane : 0 ≤ lane ∧ lane ≤ 5) : KL l D tc base yX8_lowestBits wsX8_lowestBits ({ frames := 0, cells := 0, slots := 0, locals := 0 } : Room) [.long (jL v), .int (jI lane)] (ad, cnt, X, Y, ln) 0 0 (fun z u => u = (ad, cnt, X, Y, ln) ∧ (-9223372036854775808 ≤ z ∧ z ≤ 9223372036854775807) ∧ z = cutZ lane v) := by
  refine K_of (cc := cX8_lowestBits) (maxL := 3) (ret := (some .long)) (by decide) rfl (Nat.le_of_ble_eq_true rfl) ?_
  intro p e s m below meth c ls hx hb hr hml hown hts hlocks hl hK hw hS
  have hown : s.vm.findClass RX8 = some m.cls := hown
  obtain ⟨av9, hav9⟩ : ∃ a9 : Array Value, a9 = ([.long (jL v), .int (jI lane)] : List Value).toArray := ⟨_, rfl⟩
  rw [← hav9] at hts ⊢
  obtain ⟨Q9, hQ9⟩ : ∃ q9Q : State → Prop, q9Q = MQ below (QL D tc base (fun z u => u = (ad, cnt, X, Y, ln) ∧ (-9223372036854775808 ≤ z ∧ z ≤ 9223372036854775807) ∧ z = cutZ lane v)) av9 s 0 0 (frA base) := ⟨_, rfl⟩
  rw [← hQ9]
  have hl : lv_has ls 3 [(0, .long (jL v)), (2, .int (jI lane))] := hl
  refine lv_iload_n hx hb dX8_lowestBits_0 rfl (lv_at hl 1 rfl) ?_
  refine lv_iconst (v := jI 3) hx hb dX8_lowestBits_1 rfl ?_
  refine x_icmp_ne (tgt := 10) hx hb (by omega) (by omega) dX8_lowestBits_2 (by decide) (fun c1 => ?_) (fun c1 => ?_)
  · refine lv_iload_n hx hb dX8_lowestBits_10 rfl (lv_at hl 1 rfl) ?_
    refine lv_iconst (v := jI 4) hx hb dX8_lowestBits_11 rfl ?_
    refine x_icmp_ne (tgt := 21) hx hb (by omega) (by omega) dX8_lowestBits_12 (by decide) (fun c2 => ?_) (fun c2 => ?_)
    · refine lv_lload_n hx hb dX8_lowestBits_21 rfl (lv_at hl 0 rfl) ?_
      rw [hQ9]
      refine ret_l (mc := 0) (ms := 0) hx hb hr hlocks hw hS (by first | exact Nat.le_of_ble_eq_true rfl | omega) (by first | exact Nat.le_of_ble_eq_true rfl | omega) dX8_lowestBits_22 ?_
      exact ⟨rfl, by omega, by first | (unfold cutZ; rw [if_pos (by omega)]; assumption) | (unfold cutZ; rw [if_neg (by omega), if_pos (by omega)]; assumption) | (unfold cutZ; rw [if_neg (by omega), if_neg (by omega)])⟩
    · refine lv_lload_n hx hb dX8_lowestBits_15 rfl (lv_at hl 0 rfl) ?_
      refine x_l2i hx hb dX8_lowestBits_16 ?_
      refine x_eqi (fun z3 hz3 ez3 => ?_)
      refine x_i2l hx hb (by omega) dX8_lowestBits_17 ?_
      refine lv_goto (tgt := 22) hx hb dX8_lowestBits_18 (by decide) ?_
      rw [hQ9]
      refine ret_l (mc := 0) (ms := 0) hx hb hr hlocks hw hS (by first | exact Nat.le_of_ble_eq_true rfl | omega) (by first | exact Nat.le_of_ble_eq_true rfl | omega) dX8_lowestBits_22 ?_
      exact ⟨rfl, by omega, by first | (unfold cutZ; rw [if_pos (by omega)]; assumption) | (unfold cutZ; rw [if_neg (by omega), if_pos (by omega)]; assumption) | (unfold cutZ; rw [if_neg (by omega), if_neg (by omega)])⟩
  · refine lv_lload_n hx hb dX8_lowestBits_5 rfl (lv_at hl 0 rfl) ?_
    refine x_l2i hx hb dX8_lowestBits_6 ?_
    refine lv_i2b hx hb dX8_lowestBits_7 rfl ?_
    refine x_eqi (fun z4 hz4 ez4 => ?_)
    refine x_i2l hx hb (by omega) dX8_lowestBits_8 ?_
    rw [hQ9]
    refine ret_l (mc := 0) (ms := 0) hx hb hr hlocks hw hS (by first | exact Nat.le_of_ble_eq_true rfl | omega) (by first | exact Nat.le_of_ble_eq_true rfl | omega) dX8_lowestBits_9 ?_
    exact ⟨rfl, by omega, by first | (unfold cutZ; rw [if_pos (by omega)]; assumption) | (unfold cutZ; rw [if_neg (by omega), if_pos (by omega)]; assumption) | (unfold cutZ; rw [if_neg (by omega), if_neg (by omega)])⟩

set_option maxHeartbeats 4000000 in
set_option maxRecDepth 100000 in
theorem c_X8_shut (l : Launch) (D : va_G) (tc : Nat → ClassId) (base : Nat) (ad : Nat → Int → Nat) (cnt : Nat → Int) (X : Nat → Int → Int → Int) (Y : Nat → Int → Int → Option Int) (ln : Int → Int) (hR : Rng X) (hFx : Fx cnt) (hLn : LnOK ln) (hCI : CInv cnt X Y ln) (t k on : Int) (ht : -2147483648 ≤ t ∧ t ≤ 2147483647) (hk : -2147483648 ≤ k ∧ k ≤ 2147483647) (hon : 0 ≤ on ∧ on ≤ 1) : KI l D tc base yX8_shut wsX8_shut ({ frames := 2, cells := 0, slots := 0, locals := 42 } : Room) [.ref (ad 0 0), .int (jI t), .int (jI k), .int (jI on)] (ad, cnt, X, Y, ln) 0 0 (fun z u => ∃ (X1 : Nat → Int → Int → Int), u = (ad, cnt, X1, Y, ln) ∧ Rng X1 ∧ Frm [2300] X X1 ∧ CInv cnt X1 Y ln ∧ (-2147483648 ≤ z ∧ z ≤ 2147483647) ∧ ((0 ≤ t ∧ t < X 0 0 1 ∧ 0 ≤ k ∧ k < X 19 t 1 ∧ z = X 23 t k ∧ X1 23 t k = on) ∨ (¬ (0 ≤ t ∧ t < X 0 0 1 ∧ 0 ≤ k ∧ k < X 19 t 1) ∧ z = -1 ∧ X1 23 t k = X 23 t k)) ∧ ∀ y j, ¬ (y = t ∧ j = k) → X1 23 y j = X 23 y j) := by
  refine K_of (cc := cX8_shut) (maxL := 6) (ret := (some .int)) (by decide) rfl (Nat.le_of_ble_eq_true rfl) ?_
  intro p e s m below meth c ls hx hb hr hml hown hts hlocks hl hK hw hS
  have hown : s.vm.findClass RX8 = some m.cls := hown
  obtain ⟨av9, hav9⟩ : ∃ a9 : Array Value, a9 = ([.ref (ad 0 0), .int (jI t), .int (jI k), .int (jI on)] : List Value).toArray := ⟨_, rfl⟩
  rw [← hav9] at hts ⊢
  obtain ⟨Q9, hQ9⟩ : ∃ q9Q : State → Prop, q9Q = MQ below (QI D tc base (fun z u => ∃ (X1 : Nat → Int → Int → Int), u = (ad, cnt, X1, Y, ln) ∧ Rng X1 ∧ Frm [2300] X X1 ∧ CInv cnt X1 Y ln ∧ (-2147483648 ≤ z ∧ z ≤ 2147483647) ∧ ((0 ≤ t ∧ t < X 0 0 1 ∧ 0 ≤ k ∧ k < X 19 t 1 ∧ z = X 23 t k ∧ X1 23 t k = on) ∨ (¬ (0 ≤ t ∧ t < X 0 0 1 ∧ 0 ≤ k ∧ k < X 19 t 1) ∧ z = -1 ∧ X1 23 t k = X 23 t k)) ∧ ∀ y j, ¬ (y = t ∧ j = k) → X1 23 y j = X 23 y j)) av9 s 0 0 (frA base) := ⟨_, rfl⟩
  rw [← hQ9]
  have hi7 : ∀ w ∈ wsX70, w ∈ wsX8_shut := fun w h => List.mem_cons_of_mem _ (List.mem_append_left _ (List.mem_append_right _ h))
  have hf7 : fctx s m _ RX8 wsX8_shut D tc RX7 TX7 8 7 := ⟨hts, hi7, hown, hK.1, rfl⟩
  have lk112 := hts (.fieldLink RX8 112 (TX7 5).1 (TX7 5).2.1 (TX7 5).2.2.1) (gj_X8_shut_0 _ (gp_h))
  have hc0 : cnt 0 = 1 := hFx.at 0 1 (by decide)
  have hc23 : cnt 23 = cnt 19 := hFx.2.1 23 (by decide)
  have hl : lv_has ls 6 [(0, .ref (ad 0 0)), (1, .int (jI t)), (2, .int (jI k)), (3, .int (jI on))] := hl
  have ftc : 0 ≤ X 0 0 3 ∧ X 0 0 3 ≤ 30 := hR 0 0 3
  have fty : 0 ≤ X 0 0 1 ∧ X 0 0 1 ≤ 8 := hR 0 0 1
  have hct : cnt 19 = X 0 0 1 := hCI.2.2.2.1.1
  have hfj : 0 ≤ X 29 0 3 ∧ X 29 0 3 ≤ 4 := hR 29 0 3
  have hfn : 0 ≤ X 29 0 1 ∧ X 29 0 1 ≤ 80 := hR 29 0 1
  refine lv_aload_n hx hb dX8_shut_0 rfl (lv_at hl 0 rfl) ?_
  refine lv_iload_n hx hb dX8_shut_1 rfl (lv_at hl 1 rfl) ?_
  refine gos_r (run_V (As := [.int (jI t)]) (rest := []) hx hb hml hown hts (c_X8_typeNumbered l D tc base ad cnt X Y ln hR hFx hLn hCI t (by omega)) (cwV 1 hts gX8_shut_X8_typeNumbered rfl rfl rfl (by first | exact hd_X8_typeNumbered | decide +kernel) ⟨Nat.le_of_ble_eq_true rfl, Nat.le_of_ble_eq_true rfl⟩) hK hw (by first | exact Int.le_refl 0 | omega) (by first | exact zlt hc0 | omega) sl_0_0 rfl rfl hl.1 rfl (Nat.le_of_ble_eq_true rfl) dX8_shut_2 ⟨Nat.le_of_ble_eq_true rfl, Nat.le_of_ble_eq_true rfl⟩) hS (fun u2 H locs p3 hw hS => ?_) (fun z1 u2 H locs p3 hw hS => ?_)
  · obtain ⟨eu2, hsp3, hnp3⟩ := p3
    subst eu2
    refine lv_astoreN (lv' := [(4, .null), (0, .ref (ad 0 0)), (1, .int (jI t)), (2, .int (jI k)), (3, .int (jI on))]) hx hb dX8_shut_5 hl (by decide) rfl (fun ls hl => ?_)
    refine lv_aloadN hx hb dX8_shut_7 (lv_at hl 0 rfl) ?_
    refine lv_ifnullN (tgt := 21) hx hb dX8_shut_9 (by decide) ?_
    refine lv_iconst (v := jI (-1)) hx hb dX8_shut_21 rfl ?_
    rw [hQ9]
    refine ret_i (mc := 0) (ms := 0) hx hb hr hlocks hw hS (by first | exact Nat.le_of_ble_eq_true rfl | omega) (by first | exact Nat.le_of_ble_eq_true rfl | omega) dX8_shut_22 ?_
    exact ⟨X, rfl, hR, Frm.rf, hCI, by omega, (by have h9n : ¬ (0 ≤ t ∧ t < X 0 0 1) := hnp3 rfl; (try delta Hid at *); first | exact Or.inr ((⟨(fun q => by omega), by omega, by omega⟩)) | exact Or.inl ⟨by omega, by omega, by omega, by omega, by omega, by omega⟩ | omega), fun y j h => (by rfl)⟩
  · obtain ⟨eu2, hsp3, hnp3⟩ := p3
    subst eu2
    obtain ⟨ezz1, p3⟩ := hsp3 z1 rfl
    refine lv_astore (lv' := [(4, .ref (ad 19 z1)), (0, .ref (ad 0 0)), (1, .int (jI t)), (2, .int (jI k)), (3, .int (jI on))]) hx hb dX8_shut_5 hl (by decide) rfl (fun ls hl => ?_)
    refine lv_aload hx hb dX8_shut_7 (lv_at hl 0 rfl) ?_
    refine lv_ifnull hx hb dX8_shut_9 ?_
    refine lv_aload hx hb dX8_shut_12 (lv_at hl 0 rfl) ?_
    refine lv_iload_n hx hb dX8_shut_14 rfl (lv_at hl 3 rfl) ?_
    refine gos_i (run_V (As := [.int (jI k)]) (rest := []) hx hb hml hown hts (c_X7_hasField l D tc base ad cnt X Y ln hR hFx hLn z1 k (by omega) (by omega)) (cwV 1 hts gX8_shut_X7_hasField rfl rfl rfl (by first | exact hd_X7_hasField | decide +kernel) ⟨Nat.le_of_ble_eq_true rfl, Nat.le_of_ble_eq_true rfl⟩) hK hw (by first | exact Int.le_refl 0 | omega) (by first | exact zlt hc19 | omega) sl_19_0 rfl rfl hl.1 rfl (Nat.le_of_ble_eq_true rfl) dX8_shut_15 ⟨Nat.le_of_ble_eq_true rfl, Nat.le_of_ble_eq_true rfl⟩) hS (fun z4 u5 H locs p6 hw hS => ?_)
    obtain ⟨eu5, p6⟩ := p6
    subst eu5
    rcases p6 with ⟨ez4, p6⟩ | ⟨ez4, p6⟩
    · subst ez4
      refine x_if_neT (tgt := 23) hx hb (by omega) (by decide) dX8_shut_18 (by decide) ?_
      refine lv_aload hx hb dX8_shut_23 (lv_at hl 0 rfl) ?_
      refine x_geto hx hb hf7 hw (by omega) (by omega) sl_19_5 lk112 dX8_shut_25 ?_
      refine lv_iload_n hx hb dX8_shut_28 rfl (lv_at hl 3 rfl) ?_
      refine x_zald hx hb hK.1 hw (by omega) (by omega) ar_23 (len_E ar_23 (by first | exact Nat.ne_of_beq_eq_false rfl | decide)) (by omega) (by omega) (by omega) dX8_shut_29 ?_
      have f7 : 0 ≤ X 23 z1 k ∧ X 23 z1 k ≤ 1 := hR 23 z1 k
      refine x_if_eq (tgt := 37) hx hb (by omega) dX8_shut_30 (by decide) (fun c8 => ?_) (fun c8 => ?_)
      · refine lv_iconst (v := jI 0) hx hb dX8_shut_37 rfl ?_
        refine lv_istore (lv' := [(5, .int (jI 0)), (4, .ref (ad 19 z1)), (0, .ref (ad 0 0)), (1, .int (jI t)), (2, .int (jI k)), (3, .int (jI on))]) hx hb dX8_shut_38 hl (by decide) rfl (fun ls hl => ?_)
        refine lv_aload hx hb dX8_shut_40 (lv_at hl 1 rfl) ?_
        refine x_geto hx hb hf7 hw (by omega) (by omega) sl_19_5 lk112 dX8_shut_42 ?_
        refine lv_iload_n hx hb dX8_shut_45 rfl (lv_at hl 4 rfl) ?_
        refine lv_iload_n hx hb dX8_shut_46 rfl (lv_at hl 5 rfl) ?_
        refine x_zast hx hb hK.1 hw hS (by omega) (by omega) ar_23 (len_E ar_23 (by first | exact Nat.ne_of_beq_eq_false rfl | decide)) (by omega) (by omega) (by omega) (by omega) (by omega) dX8_shut_47 (fun H locs hw hS => ?_)
        obtain ⟨X9, hX9⟩ : ∃ Xq, Xq = u3 X 23 z1 k on := ⟨_, rfl⟩
        rw [← hX9] at hw
        have hRX9 : Rng X9 := by rw [hX9]; exact rng_set hR (show 0 ≤ on ∧ on ≤ 1 by omega)
        have hVX9 : X9 23 z1 k = on := by rw [hX9]; exact u3_s _ _ _ _ _
        have hFX9 : Frm [2300] X X9 := by rw [hX9]; exact Frm.set Frm.rf (show 2300 ∈ [2300] by first | exact nlm_in rfl | decide)
        refine lv_iload hx hb dX8_shut_48 (lv_at hl 0 rfl) ?_
        rw [hQ9]
        refine ret_i (mc := 0) (ms := 0) hx hb hr hlocks hw hS (by first | exact Nat.le_of_ble_eq_true rfl | omega) (by first | exact Nat.le_of_ble_eq_true rfl | omega) dX8_shut_50 ?_
        have q10 : Frm [2300] X X9 := by rw [hX9]; exact Frm.set Frm.rf (show 2300 ∈ [2300] by first | exact nlm_in rfl | decide)
        have hCq11 : CInv cnt X9 Y ln := cinv_frm (M := [2300]) (N := []) hCI q10 Frm.rf (by decide) (by decide)
        exact ⟨X9, rfl, hRX9, hFX9, hCq11, by omega, (by rw [← ezz1]; (try delta Hid at *); first | exact Or.inl ⟨by omega, by omega, by omega, by omega, by omega, by omega⟩ | omega), fun y j h => (by rw [hX9, u3_ij (by omega)])⟩
      · refine lv_iconst (v := jI 1) hx hb dX8_shut_33 rfl ?_
        refine lv_goto (tgt := 38) hx hb dX8_shut_34 (by decide) ?_
        refine lv_istore (lv' := [(5, .int (jI 1)), (4, .ref (ad 19 z1)), (0, .ref (ad 0 0)), (1, .int (jI t)), (2, .int (jI k)), (3, .int (jI on))]) hx hb dX8_shut_38 hl (by decide) rfl (fun ls hl => ?_)
        refine lv_aload hx hb dX8_shut_40 (lv_at hl 1 rfl) ?_
        refine x_geto hx hb hf7 hw (by omega) (by omega) sl_19_5 lk112 dX8_shut_42 ?_
        refine lv_iload_n hx hb dX8_shut_45 rfl (lv_at hl 4 rfl) ?_
        refine lv_iload_n hx hb dX8_shut_46 rfl (lv_at hl 5 rfl) ?_
        refine x_zast hx hb hK.1 hw hS (by omega) (by omega) ar_23 (len_E ar_23 (by first | exact Nat.ne_of_beq_eq_false rfl | decide)) (by omega) (by omega) (by omega) (by omega) (by omega) dX8_shut_47 (fun H locs hw hS => ?_)
        obtain ⟨X12, hX12⟩ : ∃ Xq, Xq = u3 X 23 z1 k on := ⟨_, rfl⟩
        rw [← hX12] at hw
        have hRX12 : Rng X12 := by rw [hX12]; exact rng_set hR (show 0 ≤ on ∧ on ≤ 1 by omega)
        have hVX12 : X12 23 z1 k = on := by rw [hX12]; exact u3_s _ _ _ _ _
        have hFX12 : Frm [2300] X X12 := by rw [hX12]; exact Frm.set Frm.rf (show 2300 ∈ [2300] by first | exact nlm_in rfl | decide)
        refine lv_iload hx hb dX8_shut_48 (lv_at hl 0 rfl) ?_
        rw [hQ9]
        refine ret_i (mc := 0) (ms := 0) hx hb hr hlocks hw hS (by first | exact Nat.le_of_ble_eq_true rfl | omega) (by first | exact Nat.le_of_ble_eq_true rfl | omega) dX8_shut_50 ?_
        have q13 : Frm [2300] X X12 := by rw [hX12]; exact Frm.set Frm.rf (show 2300 ∈ [2300] by first | exact nlm_in rfl | decide)
        have hCq14 : CInv cnt X12 Y ln := cinv_frm (M := [2300]) (N := []) hCI q13 Frm.rf (by decide) (by decide)
        exact ⟨X12, rfl, hRX12, hFX12, hCq14, by omega, (by rw [← ezz1]; (try delta Hid at *); first | exact Or.inl ⟨by omega, by omega, by omega, by omega, by omega, by omega⟩ | omega), fun y j h => (by rw [hX12, u3_ij (by omega)])⟩
    · subst ez4
      refine x_if_neF (tgt := 23) hx hb (by omega) (by decide) dX8_shut_18 (by decide) ?_
      refine lv_iconst (v := jI (-1)) hx hb dX8_shut_21 rfl ?_
      rw [hQ9]
      refine ret_i (mc := 0) (ms := 0) hx hb hr hlocks hw hS (by first | exact Nat.le_of_ble_eq_true rfl | omega) (by first | exact Nat.le_of_ble_eq_true rfl | omega) dX8_shut_22 ?_
      exact ⟨X, rfl, hR, Frm.rf, hCI, by omega, (by rw [← ezz1]; (try delta Hid at *); first | exact Or.inr ((⟨(fun q => by omega), by omega, by omega⟩)) | exact Or.inl ⟨by omega, by omega, by omega, by omega, by omega, by omega⟩ | omega), fun y j h => (by rfl)⟩

set_option maxHeartbeats 4000000 in
set_option maxRecDepth 100000 in
theorem c_X8_unchecked (l : Launch) (D : va_G) (tc : Nat → ClassId) (base : Nat) (ad : Nat → Int → Nat) (cnt : Nat → Int) (X : Nat → Int → Int → Int) (Y : Nat → Int → Int → Option Int) (ln : Int → Int) (hR : Rng X) (hFx : Fx cnt) (hLn : LnOK ln) (hCI : CInv cnt X Y ln) (t : Int) (ht : -2147483648 ≤ t ∧ t ≤ 2147483647) : KI l D tc base yX8_unchecked wsX8_unchecked ({ frames := 2, cells := 0, slots := 0, locals := 42 } : Room) [.ref (ad 0 0), .int (jI t)] (ad, cnt, X, Y, ln) 0 0 (fun z u => ∃ (X1 : Nat → Int → Int → Int), u = (ad, cnt, X1, Y, ln) ∧ Rng X1 ∧ Frm [1907] X X1 ∧ CInv cnt X1 Y ln ∧ (-2147483648 ≤ z ∧ z ≤ 2147483647) ∧ ((0 ≤ t ∧ t < X 0 0 1 ∧ z = X 19 t 6 ∧ X1 19 t 6 = 0) ∨ (¬ (0 ≤ t ∧ t < X 0 0 1) ∧ z = -1 ∧ X1 19 t 6 = X 19 t 6)) ∧ ∀ y, y ≠ t → X1 19 y 6 = X 19 y 6) := by
  refine K_of (cc := cX8_unchecked) (maxL := 4) (ret := (some .int)) (by decide) rfl (Nat.le_of_ble_eq_true rfl) ?_
  intro p e s m below meth c ls hx hb hr hml hown hts hlocks hl hK hw hS
  have hown : s.vm.findClass RX8 = some m.cls := hown
  obtain ⟨av9, hav9⟩ : ∃ a9 : Array Value, a9 = ([.ref (ad 0 0), .int (jI t)] : List Value).toArray := ⟨_, rfl⟩
  rw [← hav9] at hts ⊢
  obtain ⟨Q9, hQ9⟩ : ∃ q9Q : State → Prop, q9Q = MQ below (QI D tc base (fun z u => ∃ (X1 : Nat → Int → Int → Int), u = (ad, cnt, X1, Y, ln) ∧ Rng X1 ∧ Frm [1907] X X1 ∧ CInv cnt X1 Y ln ∧ (-2147483648 ≤ z ∧ z ≤ 2147483647) ∧ ((0 ≤ t ∧ t < X 0 0 1 ∧ z = X 19 t 6 ∧ X1 19 t 6 = 0) ∨ (¬ (0 ≤ t ∧ t < X 0 0 1) ∧ z = -1 ∧ X1 19 t 6 = X 19 t 6)) ∧ ∀ y, y ≠ t → X1 19 y 6 = X 19 y 6)) av9 s 0 0 (frA base) := ⟨_, rfl⟩
  rw [← hQ9]
  have hi7 : ∀ w ∈ wsX70, w ∈ wsX8_unchecked := fun w h => List.mem_cons_of_mem _ (List.mem_append_left _ (List.mem_append_right _ h))
  have hf7 : fctx s m _ RX8 wsX8_unchecked D tc RX7 TX7 8 7 := ⟨hts, hi7, hown, hK.1, rfl⟩
  have lk115 := hts (.fieldLink RX8 115 (TX7 6).1 (TX7 6).2.1 (TX7 6).2.2.1) (gj_X8_unchecked_0 _ (gp_h))
  have hc0 : cnt 0 = 1 := hFx.at 0 1 (by decide)
  have hl : lv_has ls 4 [(0, .ref (ad 0 0)), (1, .int (jI t))] := hl
  have ftc : 0 ≤ X 0 0 3 ∧ X 0 0 3 ≤ 30 := hR 0 0 3
  have fty : 0 ≤ X 0 0 1 ∧ X 0 0 1 ≤ 8 := hR 0 0 1
  have hct : cnt 19 = X 0 0 1 := hCI.2.2.2.1.1
  have hfj : 0 ≤ X 29 0 3 ∧ X 29 0 3 ≤ 4 := hR 29 0 3
  have hfn : 0 ≤ X 29 0 1 ∧ X 29 0 1 ≤ 80 := hR 29 0 1
  refine lv_aload_n hx hb dX8_unchecked_0 rfl (lv_at hl 0 rfl) ?_
  refine lv_iload_n hx hb dX8_unchecked_1 rfl (lv_at hl 1 rfl) ?_
  refine gos_r (run_V (As := [.int (jI t)]) (rest := []) hx hb hml hown hts (c_X8_typeNumbered l D tc base ad cnt X Y ln hR hFx hLn hCI t (by omega)) (cwV 1 hts gX8_unchecked_X8_typeNumbered rfl rfl rfl (by first | exact hd_X8_typeNumbered | decide +kernel) ⟨Nat.le_of_ble_eq_true rfl, Nat.le_of_ble_eq_true rfl⟩) hK hw (by first | exact Int.le_refl 0 | omega) (by first | exact zlt hc0 | omega) sl_0_0 rfl rfl hl.1 rfl (Nat.le_of_ble_eq_true rfl) dX8_unchecked_2 ⟨Nat.le_of_ble_eq_true rfl, Nat.le_of_ble_eq_true rfl⟩) hS (fun u2 H locs p3 hw hS => ?_) (fun z1 u2 H locs p3 hw hS => ?_)
  · obtain ⟨eu2, hsp3, hnp3⟩ := p3
    subst eu2
    refine lv_astore_nN (lv' := [(2, .null), (0, .ref (ad 0 0)), (1, .int (jI t))]) hx hb dX8_unchecked_5 rfl hl (by decide) rfl (fun ls hl => ?_)
    refine lv_aload_nN hx hb dX8_unchecked_6 rfl (lv_at hl 0 rfl) ?_
    refine lv_ifnonnullN hx hb dX8_unchecked_7 ?_
    refine lv_iconst (v := jI (-1)) hx hb dX8_unchecked_10 rfl ?_
    rw [hQ9]
    refine ret_i (mc := 0) (ms := 0) hx hb hr hlocks hw hS (by first | exact Nat.le_of_ble_eq_true rfl | omega) (by first | exact Nat.le_of_ble_eq_true rfl | omega) dX8_unchecked_11 ?_
    exact ⟨X, rfl, hR, Frm.rf, hCI, by omega, (by have h9n : ¬ (0 ≤ t ∧ t < X 0 0 1) := hnp3 rfl; (try delta Hid at *); first | exact Or.inr ((⟨(fun q => by omega), by omega, by omega⟩)) | exact Or.inl ⟨by omega, by omega, by omega, by omega⟩ | omega), fun y hy => (by rfl)⟩
  · obtain ⟨eu2, hsp3, hnp3⟩ := p3
    subst eu2
    obtain ⟨ezz1, p3⟩ := hsp3 z1 rfl
    refine lv_astore_n (lv' := [(2, .ref (ad 19 z1)), (0, .ref (ad 0 0)), (1, .int (jI t))]) hx hb dX8_unchecked_5 rfl hl (by decide) rfl (fun ls hl => ?_)
    refine lv_aload_n hx hb dX8_unchecked_6 rfl (lv_at hl 0 rfl) ?_
    refine lv_ifnonnull (tgt := 12) hx hb dX8_unchecked_7 (by decide) ?_
    refine lv_aload_n hx hb dX8_unchecked_12 rfl (lv_at hl 0 rfl) ?_
    refine x_geti (jz := 6) hx hb hf7 hw (by omega) (by omega) sl_19_6 rfl lk115 dX8_unchecked_13 ?_
    have f4 : 0 ≤ X 19 z1 6 ∧ X 19 z1 6 ≤ 4 := hR 19 z1 6
    refine lv_istore_n (lv' := [(3, .int (jI (X 19 z1 6))), (2, .ref (ad 19 z1)), (0, .ref (ad 0 0)), (1, .int (jI t))]) hx hb dX8_unchecked_16 rfl hl (by decide) rfl (fun ls hl => ?_)
    refine lv_aload_n hx hb dX8_unchecked_17 rfl (lv_at hl 1 rfl) ?_
    refine lv_iconst (v := jI 0) hx hb dX8_unchecked_18 rfl ?_
    refine x_puti (jz := 6) hx hb hf7 ⟨tyX7_ok, nmX7⟩ hw hS (by omega) (by omega) sl_19_6 rfl lk115 rfl (tyX7_ok 6 (by decide)) rfl rfl dX8_unchecked_19 (fun H locs hw hS => ?_)
    obtain ⟨X5, hX5⟩ : ∃ Xq, Xq = u3 X 19 z1 6 0 := ⟨_, rfl⟩
    rw [← hX5] at hw
    have hRX5 : Rng X5 := by rw [hX5]; exact rng_set hR (show 0 ≤ 0 ∧ 0 ≤ 4 by omega)
    have hVX5 : X5 19 z1 6 = 0 := by rw [hX5]; exact u3_s _ _ _ _ _
    have hFX5 : Frm [1907] X X5 := by rw [hX5]; exact Frm.set Frm.rf (show 1907 ∈ [1907] by first | exact nlm_in rfl | decide)
    refine lv_iload_n hx hb dX8_unchecked_22 rfl (lv_at hl 0 rfl) ?_
    rw [hQ9]
    refine ret_i (mc := 0) (ms := 0) hx hb hr hlocks hw hS (by first | exact Nat.le_of_ble_eq_true rfl | omega) (by first | exact Nat.le_of_ble_eq_true rfl | omega) dX8_unchecked_23 ?_
    have q6 : Frm [1907] X X5 := by rw [hX5]; exact Frm.set Frm.rf (show 1907 ∈ [1907] by first | exact nlm_in rfl | decide)
    exact ⟨X5, rfl, hRX5, hFX5, cinv_checks (q := z1) hCI q6 Frm.rf (fun i hi => (by rw [hX5, u3_ij (by omega)])) (fun i j _ => rfl) (fun j a b c => by rw [hVX5] at b; omega), by omega, (by rw [← ezz1]; (try delta Hid at *); first | exact Or.inl ⟨by omega, by omega, by omega, by omega⟩ | omega), fun y hy => (by rw [hX5, u3_ij (by omega)])⟩

set_option maxHeartbeats 4000000 in
set_option maxRecDepth 100000 in
theorem c_X8_word (l : Launch) (D : va_G) (tc : Nat → ClassId) (base : Nat) (ad : Nat → Int → Nat) (cnt : Nat → Int) (X : Nat → Int → Int → Int) (Y : Nat → Int → Int → Option Int) (ln : Int → Int) (hR : Rng X) (hFx : Fx cnt) (hLn : LnOK ln) (hCI : CInv cnt X Y ln) (w on : Int) (hw : -2147483648 ≤ w ∧ w ≤ 2147483647) (hon : 0 ≤ on ∧ on ≤ 1) : KI l D tc base yX8_word wsX8_word ({ frames := 1, cells := 0, slots := 0, locals := 21 } : Room) [.ref (ad 0 0), .int (jI w), .int (jI on)] (ad, cnt, X, Y, ln) 0 0 (fun z u => ∃ (X1 : Nat → Int → Int → Int), u = (ad, cnt, X1, Y, ln) ∧ Rng X1 ∧ Frm [300] X X1 ∧ CInv cnt X1 Y ln ∧ (-2147483648 ≤ z ∧ z ≤ 2147483647) ∧ ((0 ≤ w ∧ w < 16 ∧ z = X 3 0 w ∧ X1 3 0 w = on) ∨ (¬ (0 ≤ w ∧ w < 16) ∧ z = -1 ∧ X1 3 0 w = X 3 0 w)) ∧ ∀ y, y ≠ w → X1 3 0 y = X 3 0 y) := by
  refine K_of (cc := cX8_word) (maxL := 4) (ret := (some .int)) (by decide) rfl (Nat.le_of_ble_eq_true rfl) ?_
  intro p e s m below meth c ls hx hb hr hml hown hts hlocks hl hK hw hS
  have hown : s.vm.findClass RX8 = some m.cls := hown
  obtain ⟨av9, hav9⟩ : ∃ a9 : Array Value, a9 = ([.ref (ad 0 0), .int (jI w), .int (jI on)] : List Value).toArray := ⟨_, rfl⟩
  rw [← hav9] at hts ⊢
  obtain ⟨Q9, hQ9⟩ : ∃ q9Q : State → Prop, q9Q = MQ below (QI D tc base (fun z u => ∃ (X1 : Nat → Int → Int → Int), u = (ad, cnt, X1, Y, ln) ∧ Rng X1 ∧ Frm [300] X X1 ∧ CInv cnt X1 Y ln ∧ (-2147483648 ≤ z ∧ z ≤ 2147483647) ∧ ((0 ≤ w ∧ w < 16 ∧ z = X 3 0 w ∧ X1 3 0 w = on) ∨ (¬ (0 ≤ w ∧ w < 16) ∧ z = -1 ∧ X1 3 0 w = X 3 0 w)) ∧ ∀ y, y ≠ w → X1 3 0 y = X 3 0 y)) av9 s 0 0 (frA base) := ⟨_, rfl⟩
  rw [← hQ9]
  have hi8 : ∀ w ∈ wsX80, w ∈ wsX8_word := fun w h => List.mem_cons_of_mem _ (List.mem_append_right _ h)
  have hf8 : fctx s m _ RX8 wsX8_word D tc RX8 TX8 12 8 := ⟨hts, hi8, hown, hK.1, rfl⟩
  have lk21 := hts (.fieldLink RX8 21 (TX8 4).1 (TX8 4).2.1 (TX8 4).2.2.1) (gj_X8_word_0 _ (gp_h))
  have hc0 : cnt 0 = 1 := hFx.at 0 1 (by decide)
  have hc3 : cnt 3 = 1 := hFx.at 3 1 (by decide)
  have hl : lv_has ls 4 [(0, .ref (ad 0 0)), (1, .int (jI w)), (2, .int (jI on))] := hl
  have ftc : 0 ≤ X 0 0 3 ∧ X 0 0 3 ≤ 30 := hR 0 0 3
  have fty : 0 ≤ X 0 0 1 ∧ X 0 0 1 ≤ 8 := hR 0 0 1
  have hct : cnt 19 = X 0 0 1 := hCI.2.2.2.1.1
  have hfj : 0 ≤ X 29 0 3 ∧ X 29 0 3 ≤ 4 := hR 29 0 3
  have hfn : 0 ≤ X 29 0 1 ∧ X 29 0 1 ≤ 80 := hR 29 0 1
  refine lv_iload_n hx hb dX8_word_0 rfl (lv_at hl 1 rfl) ?_
  refine lv_bipush (v := jI 16) hx hb dX8_word_1 (by decide) ?_
  refine gos_i (run_S (As := [.int (jI w), .int (jI 16)]) (rest := []) hx hb hml hown hts (c_X8_isBelow l D tc base ad cnt X Y ln w 16 (by omega) (by omega)) (cwS 2 hts gX8_word_X8_isBelow rfl rfl rfl (by first | exact hd_X8_isBelow | decide +kernel) ⟨Nat.le_of_ble_eq_true rfl, Nat.le_of_ble_eq_true rfl⟩) hK hw rfl hl.1 rfl (Nat.le_of_ble_eq_true rfl) dX8_word_3 ⟨Nat.le_of_ble_eq_true rfl, Nat.le_of_ble_eq_true rfl⟩) hS (fun z1 u2 H locs p3 hw hS => ?_)
  obtain ⟨eu2, p3⟩ := p3
  subst eu2
  rcases p3 with ⟨ez1, p3⟩ | ⟨ez1, p3⟩
  · subst ez1
    refine x_if_neT (tgt := 11) hx hb (by omega) (by decide) dX8_word_6 (by decide) ?_
    refine lv_aload_n hx hb dX8_word_11 rfl (lv_at hl 0 rfl) ?_
    refine x_geto hx hb hf8 hw (by first | exact Int.le_refl 0 | omega) (by first | exact zlt hc0 | omega) sl_0_4 lk21 dX8_word_12 ?_
    refine lv_iload_n hx hb dX8_word_15 rfl (lv_at hl 1 rfl) ?_
    refine x_zald hx hb hK.1 hw (by first | exact Int.le_refl 0 | omega) (by first | exact zlt hc3 | omega) ar_3 (len_E ar_3 (by first | exact Nat.ne_of_beq_eq_false rfl | decide)) (by omega) (by omega) (by omega) dX8_word_16 ?_
    have f4 : 0 ≤ X 3 0 w ∧ X 3 0 w ≤ 1 := hR 3 0 w
    refine x_if_eq (tgt := 24) hx hb (by omega) dX8_word_17 (by decide) (fun c5 => ?_) (fun c5 => ?_)
    · refine lv_iconst (v := jI 0) hx hb dX8_word_24 rfl ?_
      refine lv_istore_n (lv' := [(3, .int (jI 0)), (0, .ref (ad 0 0)), (1, .int (jI w)), (2, .int (jI on))]) hx hb dX8_word_25 rfl hl (by decide) rfl (fun ls hl => ?_)
      refine lv_aload_n hx hb dX8_word_26 rfl (lv_at hl 1 rfl) ?_
      refine x_geto hx hb hf8 hw (by first | exact Int.le_refl 0 | omega) (by first | exact zlt hc0 | omega) sl_0_4 lk21 dX8_word_27 ?_
      refine lv_iload_n hx hb dX8_word_30 rfl (lv_at hl 2 rfl) ?_
      refine lv_iload_n hx hb dX8_word_31 rfl (lv_at hl 3 rfl) ?_
      refine x_zast hx hb hK.1 hw hS (by first | exact Int.le_refl 0 | omega) (by first | exact zlt hc3 | omega) ar_3 (len_E ar_3 (by first | exact Nat.ne_of_beq_eq_false rfl | decide)) (by omega) (by omega) (by omega) (by omega) (by omega) dX8_word_32 (fun H locs hw hS => ?_)
      obtain ⟨X6, hX6⟩ : ∃ Xq, Xq = u3 X 3 0 w on := ⟨_, rfl⟩
      rw [← hX6] at hw
      have hRX6 : Rng X6 := by rw [hX6]; exact rng_set hR (show 0 ≤ on ∧ on ≤ 1 by omega)
      have hVX6 : X6 3 0 w = on := by rw [hX6]; exact u3_s _ _ _ _ _
      have hFX6 : Frm [300] X X6 := by rw [hX6]; exact Frm.set Frm.rf (show 300 ∈ [300] by first | exact nlm_in rfl | decide)
      refine lv_iload_n hx hb dX8_word_33 rfl (lv_at hl 0 rfl) ?_
      rw [hQ9]
      refine ret_i (mc := 0) (ms := 0) hx hb hr hlocks hw hS (by first | exact Nat.le_of_ble_eq_true rfl | omega) (by first | exact Nat.le_of_ble_eq_true rfl | omega) dX8_word_34 ?_
      have q7 : Frm [300] X X6 := by rw [hX6]; exact Frm.set Frm.rf (show 300 ∈ [300] by first | exact nlm_in rfl | decide)
      have hCq8 : CInv cnt X6 Y ln := cinv_frm (M := [300]) (N := []) hCI q7 Frm.rf (by decide) (by decide)
      exact ⟨X6, rfl, hRX6, hFX6, hCq8, by omega, (by (try delta Hid at *); first | exact Or.inl ⟨by omega, by omega, by omega, by omega⟩ | omega), fun y hy => (by rw [hX6, u3_ij (by omega)])⟩
    · refine lv_iconst (v := jI 1) hx hb dX8_word_20 rfl ?_
      refine lv_goto (tgt := 25) hx hb dX8_word_21 (by decide) ?_
      refine lv_istore_n (lv' := [(3, .int (jI 1)), (0, .ref (ad 0 0)), (1, .int (jI w)), (2, .int (jI on))]) hx hb dX8_word_25 rfl hl (by decide) rfl (fun ls hl => ?_)
      refine lv_aload_n hx hb dX8_word_26 rfl (lv_at hl 1 rfl) ?_
      refine x_geto hx hb hf8 hw (by first | exact Int.le_refl 0 | omega) (by first | exact zlt hc0 | omega) sl_0_4 lk21 dX8_word_27 ?_
      refine lv_iload_n hx hb dX8_word_30 rfl (lv_at hl 2 rfl) ?_
      refine lv_iload_n hx hb dX8_word_31 rfl (lv_at hl 3 rfl) ?_
      refine x_zast hx hb hK.1 hw hS (by first | exact Int.le_refl 0 | omega) (by first | exact zlt hc3 | omega) ar_3 (len_E ar_3 (by first | exact Nat.ne_of_beq_eq_false rfl | decide)) (by omega) (by omega) (by omega) (by omega) (by omega) dX8_word_32 (fun H locs hw hS => ?_)
      obtain ⟨X9, hX9⟩ : ∃ Xq, Xq = u3 X 3 0 w on := ⟨_, rfl⟩
      rw [← hX9] at hw
      have hRX9 : Rng X9 := by rw [hX9]; exact rng_set hR (show 0 ≤ on ∧ on ≤ 1 by omega)
      have hVX9 : X9 3 0 w = on := by rw [hX9]; exact u3_s _ _ _ _ _
      have hFX9 : Frm [300] X X9 := by rw [hX9]; exact Frm.set Frm.rf (show 300 ∈ [300] by first | exact nlm_in rfl | decide)
      refine lv_iload_n hx hb dX8_word_33 rfl (lv_at hl 0 rfl) ?_
      rw [hQ9]
      refine ret_i (mc := 0) (ms := 0) hx hb hr hlocks hw hS (by first | exact Nat.le_of_ble_eq_true rfl | omega) (by first | exact Nat.le_of_ble_eq_true rfl | omega) dX8_word_34 ?_
      have q10 : Frm [300] X X9 := by rw [hX9]; exact Frm.set Frm.rf (show 300 ∈ [300] by first | exact nlm_in rfl | decide)
      have hCq11 : CInv cnt X9 Y ln := cinv_frm (M := [300]) (N := []) hCI q10 Frm.rf (by decide) (by decide)
      exact ⟨X9, rfl, hRX9, hFX9, hCq11, by omega, (by (try delta Hid at *); first | exact Or.inl ⟨by omega, by omega, by omega, by omega⟩ | omega), fun y hy => (by rw [hX9, u3_ij (by omega)])⟩
  · subst ez1
    refine x_if_neF (tgt := 11) hx hb (by omega) (by decide) dX8_word_6 (by decide) ?_
    refine lv_iconst (v := jI (-1)) hx hb dX8_word_9 rfl ?_
    rw [hQ9]
    refine ret_i (mc := 0) (ms := 0) hx hb hr hlocks hw hS (by first | exact Nat.le_of_ble_eq_true rfl | omega) (by first | exact Nat.le_of_ble_eq_true rfl | omega) dX8_word_10 ?_
    exact ⟨X, rfl, hR, Frm.rf, hCI, by omega, (by (try delta Hid at *); first | exact Or.inr ((⟨(fun q => by omega), by omega, by omega⟩)) | exact Or.inl ⟨by omega, by omega, by omega, by omega⟩ | omega), fun y hy => (by rfl)⟩

set_option maxHeartbeats 4000000 in
set_option maxRecDepth 100000 in
theorem c_X8_thing (l : Launch) (D : va_G) (tc : Nat → ClassId) (base : Nat) (ad : Nat → Int → Nat) (cnt : Nat → Int) (X : Nat → Int → Int → Int) (Y : Nat → Int → Int → Option Int) (ln : Int → Int) (hR : Rng X) (hFx : Fx cnt) (hLn : LnOK ln) (hCI : CInv cnt X Y ln) (t : Int) (ht : -2147483648 ≤ t ∧ t ≤ 2147483647) : KI l D tc base yX8_thing wsX8_thing ({ frames := 2, cells := 0, slots := 0, locals := 43 } : Room) [.ref (ad 0 0), .int (jI t)] (ad, cnt, X, Y, ln) 0 0 (fun z u => ∃ (X1 : Nat → Int → Int → Int) (Y1 : Nat → Int → Int → Option Int), u = (ad, cnt, X1, Y1, ln) ∧ Rng X1 ∧ Frm [4, 1600] X X1 ∧ Frm [1501, 1700] Y Y1 ∧ CInv cnt X1 Y1 ln ∧ (-2147483648 ≤ z ∧ z ≤ 2147483647) ∧ ((¬ (0 ≤ t ∧ t < X 0 0 1) ∧ z = -1) ∨ ((0 ≤ t ∧ t < X 0 0 1) ∧ 30 ≤ X 0 0 3 ∧ z = -4) ∨ ((0 ≤ t ∧ t < X 0 0 1) ∧ X 0 0 3 < 30 ∧ z = X 0 0 3)) ∧ (z < 0 → X1 = X ∧ Y1 = Y) ∧ (0 ≤ z → X1 0 0 3 = X 0 0 3 + 1 ∧ Y1 15 (X 0 0 3) 0 = some t ∧ (∀ y, y ≠ X 0 0 3 → Y1 15 y 0 = Y 15 y 0) ∧ (∀ j, 0 ≤ j → j < X 19 t 1 → X1 16 (X 0 0 3) j = X 22 t j ∧ Y1 17 (X 0 0 3) j = none) ∧ ∀ y j, y ≠ X 0 0 3 → X1 16 y j = X 16 y j ∧ Y1 17 y j = Y 17 y j)) := by
  refine K_of (cc := cX8_thing) (maxL := 3) (ret := (some .int)) (by decide) rfl (Nat.le_of_ble_eq_true rfl) ?_
  intro p e s m below meth c ls hx hb hr hml hown hts hlocks hl hK hw hS
  have hown : s.vm.findClass RX8 = some m.cls := hown
  obtain ⟨av9, hav9⟩ : ∃ a9 : Array Value, a9 = ([.ref (ad 0 0), .int (jI t)] : List Value).toArray := ⟨_, rfl⟩
  rw [← hav9] at hts ⊢
  obtain ⟨Q9, hQ9⟩ : ∃ q9Q : State → Prop, q9Q = MQ below (QI D tc base (fun z u => ∃ (X1 : Nat → Int → Int → Int) (Y1 : Nat → Int → Int → Option Int), u = (ad, cnt, X1, Y1, ln) ∧ Rng X1 ∧ Frm [4, 1600] X X1 ∧ Frm [1501, 1700] Y Y1 ∧ CInv cnt X1 Y1 ln ∧ (-2147483648 ≤ z ∧ z ≤ 2147483647) ∧ ((¬ (0 ≤ t ∧ t < X 0 0 1) ∧ z = -1) ∨ ((0 ≤ t ∧ t < X 0 0 1) ∧ 30 ≤ X 0 0 3 ∧ z = -4) ∨ ((0 ≤ t ∧ t < X 0 0 1) ∧ X 0 0 3 < 30 ∧ z = X 0 0 3)) ∧ (z < 0 → X1 = X ∧ Y1 = Y) ∧ (0 ≤ z → X1 0 0 3 = X 0 0 3 + 1 ∧ Y1 15 (X 0 0 3) 0 = some t ∧ (∀ y, y ≠ X 0 0 3 → Y1 15 y 0 = Y 15 y 0) ∧ (∀ j, 0 ≤ j → j < X 19 t 1 → X1 16 (X 0 0 3) j = X 22 t j ∧ Y1 17 (X 0 0 3) j = none) ∧ ∀ y j, y ≠ X 0 0 3 → X1 16 y j = X 16 y j ∧ Y1 17 y j = Y 17 y j))) av9 s 0 0 (frA base) := ⟨_, rfl⟩
  rw [← hQ9]
  have hi8 : ∀ w ∈ wsX80, w ∈ wsX8_thing := fun w h => List.mem_cons_of_mem _ (List.mem_append_left _ (List.mem_append_left _ (List.mem_append_right _ h)))
  have hf8 : fctx s m _ RX8 wsX8_thing D tc RX8 TX8 12 8 := ⟨hts, hi8, hown, hK.1, rfl⟩
  have lk17 := hts (.fieldLink RX8 17 (TX8 2).1 (TX8 2).2.1 (TX8 2).2.2.1) (gj_X8_thing_0 _ (gp_1 gp_h))
  have lk94 := hts (.fieldLink RX8 94 (TX8 3).1 (TX8 3).2.1 (TX8 3).2.2.1) (gj_X8_thing_0 _ (gp_h))
  have hc0 : cnt 0 = 1 := hFx.at 0 1 (by decide)
  have hc2 : cnt 2 = 1 := hFx.at 2 1 (by decide)
  have hc15 : cnt 15 = 30 := hFx.at 15 30 (by decide)
  have hl : lv_has ls 3 [(0, .ref (ad 0 0)), (1, .int (jI t))] := hl
  have ftc : 0 ≤ X 0 0 3 ∧ X 0 0 3 ≤ 30 := hR 0 0 3
  have fty : 0 ≤ X 0 0 1 ∧ X 0 0 1 ≤ 8 := hR 0 0 1
  have hct : cnt 19 = X 0 0 1 := hCI.2.2.2.1.1
  have hfj : 0 ≤ X 29 0 3 ∧ X 29 0 3 ≤ 4 := hR 29 0 3
  have hfn : 0 ≤ X 29 0 1 ∧ X 29 0 1 ≤ 80 := hR 29 0 1
  refine lv_aload_n hx hb dX8_thing_0 rfl (lv_at hl 0 rfl) ?_
  refine lv_iload_n hx hb dX8_thing_1 rfl (lv_at hl 1 rfl) ?_
  refine gos_r (run_V (As := [.int (jI t)]) (rest := []) hx hb hml hown hts (c_X8_typeNumbered l D tc base ad cnt X Y ln hR hFx hLn hCI t (by omega)) (cwV 1 hts gX8_thing_X8_typeNumbered rfl rfl rfl (by first | exact hd_X8_typeNumbered | decide +kernel) ⟨Nat.le_of_ble_eq_true rfl, Nat.le_of_ble_eq_true rfl⟩) hK hw (by first | exact Int.le_refl 0 | omega) (by first | exact zlt hc0 | omega) sl_0_0 rfl rfl hl.1 rfl (Nat.le_of_ble_eq_true rfl) dX8_thing_2 ⟨Nat.le_of_ble_eq_true rfl, Nat.le_of_ble_eq_true rfl⟩) hS (fun u2 H locs p3 hw hS => ?_) (fun z1 u2 H locs p3 hw hS => ?_)
  · obtain ⟨eu2, hsp3, hnp3⟩ := p3
    subst eu2
    refine lv_astore_nN (lv' := [(2, .null), (0, .ref (ad 0 0)), (1, .int (jI t))]) hx hb dX8_thing_5 rfl hl (by decide) rfl (fun ls hl => ?_)
    refine lv_aload_nN hx hb dX8_thing_6 rfl (lv_at hl 0 rfl) ?_
    refine lv_ifnonnullN hx hb dX8_thing_7 ?_
    refine lv_iconst (v := jI (-1)) hx hb dX8_thing_10 rfl ?_
    rw [hQ9]
    refine ret_i (mc := 0) (ms := 0) hx hb hr hlocks hw hS (by first | exact Nat.le_of_ble_eq_true rfl | omega) (by first | exact Nat.le_of_ble_eq_true rfl | omega) dX8_thing_11 ?_
    exact ⟨X, Y, rfl, hR, Frm.rf, Frm.rf, hCI, by omega, (by have h9n : ¬ (0 ≤ t ∧ t < X 0 0 1) := hnp3 rfl; exact Or.inl ⟨h9n, by omega⟩), fun _ => ⟨rfl, rfl⟩, fun q => (by exfalso; omega)⟩
  · obtain ⟨eu2, hsp3, hnp3⟩ := p3
    subst eu2
    obtain ⟨ezz1, p3⟩ := hsp3 z1 rfl
    refine lv_astore_n (lv' := [(2, .ref (ad 19 z1)), (0, .ref (ad 0 0)), (1, .int (jI t))]) hx hb dX8_thing_5 rfl hl (by decide) rfl (fun ls hl => ?_)
    refine lv_aload_n hx hb dX8_thing_6 rfl (lv_at hl 0 rfl) ?_
    refine lv_ifnonnull (tgt := 12) hx hb dX8_thing_7 (by decide) ?_
    refine lv_aload_n hx hb dX8_thing_12 rfl (lv_at hl 1 rfl) ?_
    refine x_geti (jz := 3) hx hb hf8 hw (by first | exact Int.le_refl 0 | omega) (by first | exact zlt hc0 | omega) sl_0_3 rfl lk94 dX8_thing_13 ?_
    have f4 : 0 ≤ X 0 0 3 ∧ X 0 0 3 ≤ 30 := hR 0 0 3
    refine lv_bipush (v := jI 30) hx hb dX8_thing_16 (by decide) ?_
    refine x_icmp_lt (tgt := 24) hx hb (by omega) (by omega) dX8_thing_18 (by decide) (fun c5 => ?_) (fun c5 => ?_)
    · refine lv_aload_n hx hb dX8_thing_24 rfl (lv_at hl 1 rfl) ?_
      refine x_geto hx hb hf8 hw (by first | exact Int.le_refl 0 | omega) (by first | exact zlt hc0 | omega) sl_0_2 lk17 dX8_thing_25 ?_
      refine lv_aload_n hx hb dX8_thing_28 rfl (lv_at hl 1 rfl) ?_
      refine x_geti (jz := 3) hx hb hf8 hw (by first | exact Int.le_refl 0 | omega) (by first | exact zlt hc0 | omega) sl_0_3 rfl lk94 dX8_thing_29 ?_
      have f6 : 0 ≤ X 0 0 3 ∧ X 0 0 3 ≤ 30 := hR 0 0 3
      refine x_aald hx hb hK.1 hw (by first | exact Int.le_refl 0 | omega) (by first | exact zlt hc2 | omega) ar_2 rfl (len_E ar_2 (by first | exact Nat.ne_of_beq_eq_false rfl | decide)) (by omega) (by omega) (by omega) dX8_thing_32 (fun y7 => ?_) (fun r8 y7 gr8 lr8 => ?_)
      · exfalso
        have h9 := hCI.1 (X 0 0 3) (by omega) (by omega); rw [h9] at y7; cases y7
      · have er8 : r8 = (X 0 0 3) := by have h9 := hCI.1 (X 0 0 3) (by omega) (by omega); rw [h9] at y7; cases y7; rfl
        rw [er8]
        refine lv_aload_n hx hb dX8_thing_33 rfl (lv_at hl 0 rfl) ?_
        refine gos_v (run_V (As := [.ref (ad 19 z1)]) (rest := []) hx hb hml hown hts (c_X6_become l D tc base ad cnt X Y ln hR hFx hLn hCI (X 0 0 3) z1 (by omega) (by omega)) (cwV 1 hts gX8_thing_X6_become rfl rfl rfl (by first | exact hd_X6_become | decide +kernel) ⟨Nat.le_of_ble_eq_true rfl, Nat.le_of_ble_eq_true rfl⟩) hK hw (by first | exact Int.le_refl 0 | omega) (by first | exact zlt hc15 | omega) sl_15_0 rfl rfl hl.1 rfl (Nat.le_of_ble_eq_true rfl) dX8_thing_34 ⟨Nat.le_of_ble_eq_true rfl, Nat.le_of_ble_eq_true rfl⟩) hS (fun u10 H locs p11 hw hS => ?_)
        obtain ⟨X12, Y13, eu10, hRX12, hG14, hJ15, hCIX12, p11, hytX12, hyoX12, hbnX12, hboX12⟩ := p11
        subst eu10
        have hFX12 : Frm [4, 1600] X X12 := Frm.tr Frm.rf (Frm.mono hG14 (by first | exact nls_of rfl | decide))
        have hHY13 : Frm [1501, 1700] Y Y13 := Frm.tr Frm.rf (Frm.mono hJ15 (by first | exact nls_of rfl | decide))
        refine lv_aload_n hx hb dX8_thing_37 rfl (lv_at hl 1 rfl) ?_
        refine lv_dup hx hb dX8_thing_38 rfl ?_
        refine x_geti (jz := 3) hx hb hf8 hw (by first | exact Int.le_refl 0 | omega) (by first | exact zlt hc0 | omega) sl_0_3 rfl lk94 dX8_thing_39 ?_
        have e16 : X12 0 0 3 = X 0 0 3 := by rw [hG14 0 0 3 (show 4 ∉ [1600] by first | exact nlm_ni rfl | decide)]
        rw [e16]
        have f17 : 0 ≤ X 0 0 3 ∧ X 0 0 3 ≤ 30 := hR 0 0 3
        refine lv_iconst (v := jI 1) hx hb dX8_thing_42 rfl ?_
        refine x_iadd hx hb dX8_thing_43 ?_
        refine x_puti (jz := 3) hx hb hf8 ⟨tyX8_ok, nmX8⟩ hw hS (by first | exact Int.le_refl 0 | omega) (by first | exact zlt hc0 | omega) sl_0_3 rfl lk94 rfl (tyX8_ok 3 (by decide)) rfl rfl dX8_thing_44 (fun H locs hw hS => ?_)
        obtain ⟨X18, hX18⟩ : ∃ Xq, Xq = u3 X12 0 0 3 ((X 0 0 3) + 1) := ⟨_, rfl⟩
        rw [← hX18] at hw
        have hRX18 : Rng X18 := by rw [hX18]; exact rng_set hRX12 (show 0 ≤ ((X 0 0 3) + 1) ∧ ((X 0 0 3) + 1) ≤ 30 by omega)
        have hVX18 : X18 0 0 3 = ((X 0 0 3) + 1) := by rw [hX18]; exact u3_s _ _ _ _ _
        have hFX18 : Frm [4, 1600] X X18 := by rw [hX18]; exact Frm.set hFX12 (show 4 ∈ [4, 1600] by first | exact nlm_in rfl | decide)
        refine lv_aload_n hx hb dX8_thing_47 rfl (lv_at hl 1 rfl) ?_
        refine x_geti (jz := 3) hx hb hf8 hw (by first | exact Int.le_refl 0 | omega) (by first | exact zlt hc0 | omega) sl_0_3 rfl lk94 dX8_thing_48 ?_
        rw [hVX18]
        refine lv_iconst (v := jI 1) hx hb dX8_thing_51 rfl ?_
        refine x_isub hx hb dX8_thing_52 ?_
        rw [hQ9]
        refine ret_i (mc := 0) (ms := 0) hx hb hr hlocks hw hS (by first | exact Nat.le_of_ble_eq_true rfl | omega) (by first | exact Nat.le_of_ble_eq_true rfl | omega) dX8_thing_53 ?_
        have e19 : X12 0 0 3 = X 0 0 3 := (by rw [hG14 0 0 3 (show 4 ∉ [1600] by first | exact nlm_ni rfl | decide)])
        have q20 : Frm [4] X12 X18 := by rw [hX18]; exact Frm.set Frm.rf (show 4 ∈ [4] by first | exact nlm_in rfl | decide)
        exact ⟨X18, Y13, rfl, hRX18, hFX18, hHY13, cinv_things hCIX12 q20 (fun x9 a b c => by rw [hVX18] at b; rw [e19] at c; rw [show x9 = X 0 0 3 by omega, hytX12]; exact fun q => by cases q), by omega, (by rw [← ezz1]; exact Or.inr (Or.inr ⟨⟨by omega, by omega⟩, by omega, by omega⟩)), fun q => (by exfalso; omega), fun _ => (by rw [← ezz1]; exact ⟨(by rw [hVX18] <;> omega), hytX12, hyoX12, fun j a b => (by rw [hX18, u3_k _ _ _ _ (by first | exact Nat.ne_of_beq_eq_false rfl | decide)]; exact hbnX12 j a b), fun y j hy => (by rw [hX18, u3_k _ _ _ _ (by first | exact Nat.ne_of_beq_eq_false rfl | decide)]; exact hboX12 y j hy)⟩)⟩
    · refine lv_bipush (v := jI (-4)) hx hb dX8_thing_21 (by decide) ?_
      rw [hQ9]
      refine ret_i (mc := 0) (ms := 0) hx hb hr hlocks hw hS (by first | exact Nat.le_of_ble_eq_true rfl | omega) (by first | exact Nat.le_of_ble_eq_true rfl | omega) dX8_thing_23 ?_
      exact ⟨X, Y, rfl, hR, Frm.rf, Frm.rf, hCI, by omega, (by rw [← ezz1]; exact Or.inr (Or.inl ⟨⟨by omega, by omega⟩, by omega, by omega⟩)), fun _ => ⟨rfl, rfl⟩, fun q => (by exfalso; omega)⟩

set_option maxHeartbeats 4000000 in
set_option maxRecDepth 100000 in
theorem c_X8_put (l : Launch) (D : va_G) (tc : Nat → ClassId) (base : Nat) (ad : Nat → Int → Nat) (cnt : Nat → Int) (X : Nat → Int → Int → Int) (Y : Nat → Int → Int → Option Int) (ln : Int → Int) (hR : Rng X) (hFx : Fx cnt) (hLn : LnOK ln) (hCI : CInv cnt X Y ln) (x k v : Int) (hx : -2147483648 ≤ x ∧ x ≤ 2147483647) (hk : -2147483648 ≤ k ∧ k ≤ 2147483647) (hv : -9223372036854775808 ≤ v ∧ v ≤ 9223372036854775807) : KI l D tc base yX8_put wsX8_put ({ frames := 4, cells := 0, slots := 0, locals := 92 } : Room) [.ref (ad 0 0), .int (jI x), .int (jI k), .long (jL v)] (ad, cnt, X, Y, ln) 0 0 (fun z u => ∃ (X1 : Nat → Int → Int → Int) (Y1 : Nat → Int → Int → Option Int), u = (ad, cnt, X1, Y1, ln) ∧ Rng X1 ∧ Frm [2802, 2803, 2902, 1600] X X1 ∧ Frm [2801, 2804] Y Y1 ∧ CInv cnt X1 Y1 ln ∧ (-2147483648 ≤ z ∧ z ≤ 2147483647) ∧ ((¬ (0 ≤ x ∧ x < X 0 0 3 ∧ 0 ≤ k ∧ k < X 19 (tyo (Y 15 x 0)) 1) ∧ z = -1) ∨ ((0 ≤ x ∧ x < X 0 0 3 ∧ 0 ≤ k ∧ k < X 19 (tyo (Y 15 x 0)) 1) ∧ 1 < X 21 (tyo (Y 15 x 0)) k ∧ z = -14) ∨ ((0 ≤ x ∧ x < X 0 0 3 ∧ 0 ≤ k ∧ k < X 19 (tyo (Y 15 x 0)) 1) ∧ X 21 (tyo (Y 15 x 0)) k = 1 ∧ v ≠ -1 ∧ ¬ (0 ≤ v ∧ v < 16 ∧ X 3 0 v = 1) ∧ z = -17) ∨ ((0 ≤ x ∧ x < X 0 0 3 ∧ 0 ≤ k ∧ k < X 19 (tyo (Y 15 x 0)) 1) ∧ X 21 (tyo (Y 15 x 0)) k ≤ 1 ∧ (X 21 (tyo (Y 15 x 0)) k = 1 → v = -1 ∨ (0 ≤ v ∧ v < 16 ∧ X 3 0 v = 1)) ∧ 80 ≤ X 29 0 1 ∧ z = -4) ∨ ((0 ≤ x ∧ x < X 0 0 3 ∧ 0 ≤ k ∧ k < X 19 (tyo (Y 15 x 0)) 1) ∧ X 21 (tyo (Y 15 x 0)) k ≤ 1 ∧ (X 21 (tyo (Y 15 x 0)) k = 1 → v = -1 ∨ (0 ≤ v ∧ v < 16 ∧ X 3 0 v = 1)) ∧ X 29 0 1 ≤ 79 ∧ z = 1)) ∧ (z < 0 → X1 = X ∧ Y1 = Y) ∧ (z = 1 → eNoteC X X1 Y Y1 (some x) k (X 16 x k) (Y 17 x k) ∧ X1 16 x k = v ∧ (∀ y j, ¬ (y = x ∧ j = k) → X1 16 y j = X 16 y j) ∧ ∀ y j, Y1 17 y j = Y 17 y j)) := by
  refine K_of (cc := cX8_put) (maxL := 7) (ret := (some .int)) (by decide) rfl (Nat.le_of_ble_eq_true rfl) ?_
  intro p e s m below meth c ls hx hb hr hml hown hts hlocks hl hK hw hS
  have hown : s.vm.findClass RX8 = some m.cls := hown
  obtain ⟨av9, hav9⟩ : ∃ a9 : Array Value, a9 = ([.ref (ad 0 0), .int (jI x), .int (jI k), .long (jL v)] : List Value).toArray := ⟨_, rfl⟩
  rw [← hav9] at hts ⊢
  obtain ⟨Q9, hQ9⟩ : ∃ q9Q : State → Prop, q9Q = MQ below (QI D tc base (fun z u => ∃ (X1 : Nat → Int → Int → Int) (Y1 : Nat → Int → Int → Option Int), u = (ad, cnt, X1, Y1, ln) ∧ Rng X1 ∧ Frm [2802, 2803, 2902, 1600] X X1 ∧ Frm [2801, 2804] Y Y1 ∧ CInv cnt X1 Y1 ln ∧ (-2147483648 ≤ z ∧ z ≤ 2147483647) ∧ ((¬ (0 ≤ x ∧ x < X 0 0 3 ∧ 0 ≤ k ∧ k < X 19 (tyo (Y 15 x 0)) 1) ∧ z = -1) ∨ ((0 ≤ x ∧ x < X 0 0 3 ∧ 0 ≤ k ∧ k < X 19 (tyo (Y 15 x 0)) 1) ∧ 1 < X 21 (tyo (Y 15 x 0)) k ∧ z = -14) ∨ ((0 ≤ x ∧ x < X 0 0 3 ∧ 0 ≤ k ∧ k < X 19 (tyo (Y 15 x 0)) 1) ∧ X 21 (tyo (Y 15 x 0)) k = 1 ∧ v ≠ -1 ∧ ¬ (0 ≤ v ∧ v < 16 ∧ X 3 0 v = 1) ∧ z = -17) ∨ ((0 ≤ x ∧ x < X 0 0 3 ∧ 0 ≤ k ∧ k < X 19 (tyo (Y 15 x 0)) 1) ∧ X 21 (tyo (Y 15 x 0)) k ≤ 1 ∧ (X 21 (tyo (Y 15 x 0)) k = 1 → v = -1 ∨ (0 ≤ v ∧ v < 16 ∧ X 3 0 v = 1)) ∧ 80 ≤ X 29 0 1 ∧ z = -4) ∨ ((0 ≤ x ∧ x < X 0 0 3 ∧ 0 ≤ k ∧ k < X 19 (tyo (Y 15 x 0)) 1) ∧ X 21 (tyo (Y 15 x 0)) k ≤ 1 ∧ (X 21 (tyo (Y 15 x 0)) k = 1 → v = -1 ∨ (0 ≤ v ∧ v < 16 ∧ X 3 0 v = 1)) ∧ X 29 0 1 ≤ 79 ∧ z = 1)) ∧ (z < 0 → X1 = X ∧ Y1 = Y) ∧ (z = 1 → eNoteC X X1 Y Y1 (some x) k (X 16 x k) (Y 17 x k) ∧ X1 16 x k = v ∧ (∀ y j, ¬ (y = x ∧ j = k) → X1 16 y j = X 16 y j) ∧ ∀ y j, Y1 17 y j = Y 17 y j))) av9 s 0 0 (frA base) := ⟨_, rfl⟩
  rw [← hQ9]
  have hi6 : ∀ w ∈ wsX60, w ∈ wsX8_put := fun w h => List.mem_cons_of_mem _ (List.mem_append_left _ (List.mem_append_left _ (List.mem_append_left _ (List.mem_append_left _ (List.mem_append_right _ h)))))
  have hf6 : fctx s m _ RX8 wsX8_put D tc RX6 TX6 4 6 := ⟨hts, hi6, hown, hK.1, rfl⟩
  have hi7 : ∀ w ∈ wsX70, w ∈ wsX8_put := fun w h => List.mem_cons_of_mem _ (List.mem_append_left _ (List.mem_append_left _ (List.mem_append_left _ (List.mem_append_right _ h))))
  have hf7 : fctx s m _ RX8 wsX8_put D tc RX7 TX7 8 7 := ⟨hts, hi7, hown, hK.1, rfl⟩
  have lk97 := hts (.fieldLink RX8 97 (TX6 0).1 (TX6 0).2.1 (TX6 0).2.2.1) (gj_X8_put_0 _ (gp_h))
  have lk135 := hts (.fieldLink RX8 135 (TX7 3).1 (TX7 3).2.1 (TX7 3).2.2.1) (gj_X8_put_0 _ (gp_1 gp_h))
  have hc0 : cnt 0 = 1 := hFx.at 0 1 (by decide)
  have hc15 : cnt 15 = 30 := hFx.at 15 30 (by decide)
  have hc21 : cnt 21 = cnt 19 := hFx.2.1 21 (by decide)
  have hl : lv_has ls 7 [(0, .ref (ad 0 0)), (1, .int (jI x)), (2, .int (jI k)), (3, .long (jL v))] := hl
  have ftc : 0 ≤ X 0 0 3 ∧ X 0 0 3 ≤ 30 := hR 0 0 3
  have fty : 0 ≤ X 0 0 1 ∧ X 0 0 1 ≤ 8 := hR 0 0 1
  have hct : cnt 19 = X 0 0 1 := hCI.2.2.2.1.1
  have hfj : 0 ≤ X 29 0 3 ∧ X 29 0 3 ≤ 4 := hR 29 0 3
  have hfn : 0 ≤ X 29 0 1 ∧ X 29 0 1 ≤ 80 := hR 29 0 1
  refine lv_aload_n hx hb dX8_put_0 rfl (lv_at hl 0 rfl) ?_
  refine lv_iload_n hx hb dX8_put_1 rfl (lv_at hl 1 rfl) ?_
  refine lv_iload_n hx hb dX8_put_2 rfl (lv_at hl 2 rfl) ?_
  refine gos_r (run_V (As := [.int (jI x), .int (jI k)]) (rest := []) hx hb hml hown hts (c_X8_thingWithField l D tc base ad cnt X Y ln hR hFx hLn hCI x k (by omega) (by omega)) (cwV 2 hts gX8_put_X8_thingWithField rfl rfl rfl (by first | exact hd_X8_thingWithField | decide +kernel) ⟨Nat.le_of_ble_eq_true rfl, Nat.le_of_ble_eq_true rfl⟩) hK hw (by first | exact Int.le_refl 0 | omega) (by first | exact zlt hc0 | omega) sl_0_0 rfl rfl hl.1 rfl (Nat.le_of_ble_eq_true rfl) dX8_put_3 ⟨Nat.le_of_ble_eq_true rfl, Nat.le_of_ble_eq_true rfl⟩) hS (fun u2 H locs p3 hw hS => ?_) (fun z1 u2 H locs p3 hw hS => ?_)
  · obtain ⟨eu2, hsp3, hnp3⟩ := p3
    subst eu2
    refine lv_astoreN (lv' := [(5, .null), (0, .ref (ad 0 0)), (1, .int (jI x)), (2, .int (jI k)), (3, .long (jL v))]) hx hb dX8_put_6 hl (by decide) rfl (fun ls hl => ?_)
    refine lv_aloadN hx hb dX8_put_8 (lv_at hl 0 rfl) ?_
    refine lv_ifnonnullN hx hb dX8_put_10 ?_
    refine lv_iconst (v := jI (-1)) hx hb dX8_put_13 rfl ?_
    rw [hQ9]
    refine ret_i (mc := 0) (ms := 0) hx hb hr hlocks hw hS (by first | exact Nat.le_of_ble_eq_true rfl | omega) (by first | exact Nat.le_of_ble_eq_true rfl | omega) dX8_put_14 ?_
    have h9n4 : ¬ (0 ≤ x ∧ x < X 0 0 3 ∧ 0 ≤ k ∧ k < X 19 (tyo (Y 15 x 0)) 1) := hnp3 rfl
    exact ⟨X, Y, rfl, hR, Frm.rf, Frm.rf, hCI, by omega, (by exact Or.inl ⟨(fun q => by (try delta Hid at *); omega), by omega⟩), fun _ => ⟨rfl, rfl⟩, fun q => (by exfalso; omega)⟩
  · obtain ⟨eu2, hsp3, hnp3⟩ := p3
    subst eu2
    obtain ⟨ezz1, p3, h1p3, h2p3, h3p3, h4p3, h5p3⟩ := hsp3 z1 rfl
    refine lv_astore (lv' := [(5, .ref (ad 15 z1)), (0, .ref (ad 0 0)), (1, .int (jI x)), (2, .int (jI k)), (3, .long (jL v))]) hx hb dX8_put_6 hl (by decide) rfl (fun ls hl => ?_)
    refine lv_aload hx hb dX8_put_8 (lv_at hl 0 rfl) ?_
    refine lv_ifnonnull (tgt := 15) hx hb dX8_put_10 (by decide) ?_
    refine lv_aload hx hb dX8_put_15 (lv_at hl 0 rfl) ?_
    refine x_getr (jz := 0) hx hb hf6 hw (by omega) (by omega) sl_15_0 rfl lk97 dX8_put_17 (fun y5 => ?_) (fun r6 y5 gr6 lr6 => ?_)
    · exfalso
      exact absurd y5 (hCI.2.2.2.2.1 z1 (by omega) (by omega))
    · refine x_geto hx hb hf7 hw (by omega) (by omega) sl_19_3 lk135 dX8_put_20 ?_
      refine lv_iload_n hx hb dX8_put_23 rfl (lv_at hl 3 rfl) ?_
      refine x_iald hx hb hK.1 hw (by omega) (by omega) ar_21 (len_E ar_21 (by first | exact Nat.ne_of_beq_eq_false rfl | decide)) (by omega) (by omega) (by omega) dX8_put_24 ?_
      have f7 : 0 ≤ X 21 r6 k ∧ X 21 r6 k ≤ 5 := hR 21 r6 k
      refine lv_istore (lv' := [(6, .int (jI (X 21 r6 k))), (5, .ref (ad 15 z1)), (0, .ref (ad 0 0)), (1, .int (jI x)), (2, .int (jI k)), (3, .long (jL v))]) hx hb dX8_put_25 hl (by decide) rfl (fun ls hl => ?_)
      refine lv_iload hx hb dX8_put_27 (lv_at hl 0 rfl) ?_
      refine x_if_eq (tgt := 43) hx hb (by omega) dX8_put_29 (by decide) (fun c8 => ?_) (fun c8 => ?_)
      · refine lv_iload hx hb dX8_put_43 (lv_at hl 0 rfl) ?_
        refine lv_iconst (v := jI 1) hx hb dX8_put_45 rfl ?_
        refine x_icmp_ne (tgt := 71) hx hb (by omega) (by omega) dX8_put_46 (by decide) (fun c9 => ?_) (fun c9 => ?_)
        · refine lv_aload_n hx hb dX8_put_71 rfl (lv_at hl 2 rfl) ?_
          refine lv_aload hx hb dX8_put_72 (lv_at hl 1 rfl) ?_
          refine lv_iload_n hx hb dX8_put_74 rfl (lv_at hl 4 rfl) ?_
          refine lv_lload_n hx hb dX8_put_75 rfl (lv_at hl 5 rfl) ?_
          refine gos_i (run_V (As := [.ref (ad 15 z1), .int (jI k), .long (jL v)]) (rest := []) hx hb hml hown hts (c_X8_changeValue l D tc base ad cnt X Y ln hR hFx hLn hCI z1 k v (by omega) (by omega) (by omega)) (cwV 3 hts gX8_put_X8_changeValue rfl rfl rfl (by first | exact hd_X8_changeValue | decide +kernel) ⟨Nat.le_of_ble_eq_true rfl, Nat.le_of_ble_eq_true rfl⟩) hK hw (by first | exact Int.le_refl 0 | omega) (by first | exact zlt hc0 | omega) sl_0_0 rfl rfl hl.1 rfl (Nat.le_of_ble_eq_true rfl) dX8_put_76 ⟨Nat.le_of_ble_eq_true rfl, Nat.le_of_ble_eq_true rfl⟩) hS (fun z10 u11 H locs p12 hw hS => ?_)
          obtain ⟨X13, Y14, eu11, hRX13, hG15, hJ16, hCIX13, p12, hcvX13⟩ := p12
          subst eu11
          have hFX13 : Frm [2802, 2803, 2902, 1600] X X13 := Frm.tr Frm.rf (Frm.mono hG15 (by first | exact nls_of rfl | decide))
          have hHY14 : Frm [2801, 2804] Y Y14 := Frm.tr Frm.rf (Frm.mono hJ16 (by first | exact nls_of rfl | decide))
          rw [hQ9]
          refine ret_i (mc := 0) (ms := 0) hx hb hr hlocks hw hS (by first | exact Nat.le_of_ble_eq_true rfl | omega) (by first | exact Nat.le_of_ble_eq_true rfl | omega) dX8_put_79 ?_
          have hT17 : tyo (Y 15 x 0) = r6 := by rw [← ezz1]; exact tyo_some y5
          have hk18 : k < X 19 r6 1 := h5p3 r6 (by rw [← ezz1]; exact y5)
          rcases hcvX13 with ⟨c1, c2, c3, c4⟩ | ⟨c1, c2, c3, c4, c5, c6⟩
          · exact ⟨X13, Y14, rfl, hRX13, hFX13, hHY14, hCIX13, by omega, (by rw [hT17]; first | (have h9z : (z10 : Int) = -1 := (by omega); exact Or.inl ⟨(fun q => by (try delta Hid at *); omega), by omega⟩) | (have h9z : (z10 : Int) = -14 := (by omega); exact Or.inr (Or.inl ⟨(by (try delta Hid at *); omega), by omega, by omega⟩)) | (have h9z : (z10 : Int) = -17 := (by omega); exact Or.inr (Or.inr (Or.inl ⟨(by (try delta Hid at *); omega), by omega, by omega, (fun q => by (try delta Hid at *); omega), by omega⟩))) | (have h9z : (z10 : Int) = -4 := (by omega); exact Or.inr (Or.inr (Or.inr (Or.inl ⟨(by (try delta Hid at *); omega), by omega, (by (try delta Hid at *); omega), by omega, by omega⟩)))) | (have h9z : (z10 : Int) = 1 := (by omega); exact Or.inr (Or.inr (Or.inr (Or.inr (⟨(by (try delta Hid at *); omega), by omega, (by (try delta Hid at *); omega), by omega, by omega⟩))))) | exact Or.inl ⟨(fun q => by (try delta Hid at *); omega), by omega⟩ | exact Or.inr (Or.inl ⟨(by (try delta Hid at *); omega), by omega, by omega⟩) | exact Or.inr (Or.inr (Or.inl ⟨(by (try delta Hid at *); omega), by omega, by omega, (fun q => by (try delta Hid at *); omega), by omega⟩)) | exact Or.inr (Or.inr (Or.inr (Or.inl ⟨(by (try delta Hid at *); omega), by omega, (by (try delta Hid at *); omega), by omega, by omega⟩))) | exact Or.inr (Or.inr (Or.inr (Or.inr (⟨(by (try delta Hid at *); omega), by omega, (by (try delta Hid at *); omega), by omega, by omega⟩))))), fun _ => ⟨c3, c4⟩, fun q => (by exfalso; omega)⟩
          · exact ⟨X13, Y14, rfl, hRX13, hFX13, hHY14, hCIX13, by omega, (by rw [hT17]; first | (have h9z : (z10 : Int) = -1 := (by omega); exact Or.inl ⟨(fun q => by (try delta Hid at *); omega), by omega⟩) | (have h9z : (z10 : Int) = -14 := (by omega); exact Or.inr (Or.inl ⟨(by (try delta Hid at *); omega), by omega, by omega⟩)) | (have h9z : (z10 : Int) = -17 := (by omega); exact Or.inr (Or.inr (Or.inl ⟨(by (try delta Hid at *); omega), by omega, by omega, (fun q => by (try delta Hid at *); omega), by omega⟩))) | (have h9z : (z10 : Int) = -4 := (by omega); exact Or.inr (Or.inr (Or.inr (Or.inl ⟨(by (try delta Hid at *); omega), by omega, (by (try delta Hid at *); omega), by omega, by omega⟩)))) | (have h9z : (z10 : Int) = 1 := (by omega); exact Or.inr (Or.inr (Or.inr (Or.inr (⟨(by (try delta Hid at *); omega), by omega, (by (try delta Hid at *); omega), by omega, by omega⟩))))) | exact Or.inl ⟨(fun q => by (try delta Hid at *); omega), by omega⟩ | exact Or.inr (Or.inl ⟨(by (try delta Hid at *); omega), by omega, by omega⟩) | exact Or.inr (Or.inr (Or.inl ⟨(by (try delta Hid at *); omega), by omega, by omega, (fun q => by (try delta Hid at *); omega), by omega⟩)) | exact Or.inr (Or.inr (Or.inr (Or.inl ⟨(by (try delta Hid at *); omega), by omega, (by (try delta Hid at *); omega), by omega, by omega⟩))) | exact Or.inr (Or.inr (Or.inr (Or.inr (⟨(by (try delta Hid at *); omega), by omega, (by (try delta Hid at *); omega), by omega, by omega⟩))))), fun q => (by exfalso; omega), fun _ => (by rw [← ezz1]; exact ⟨c3, c4, c5, c6⟩)⟩
        · refine lv_lload_n hx hb dX8_put_49 rfl (lv_at hl 5 rfl) ?_
          refine lv_ldc2 (v := jL (-1)) hx hb hown (hts (.constantLong RX8 88 (-1)) (by first | exact gj_X8_put_0 _ (gp_1 (gp_1 gp_h)) | decide +kernel)) dX8_put_50 ?_
          refine x_lcmp hx hb (by omega) (by omega) dX8_put_53 ?_
          obtain ⟨z19, ez19⟩ : ∃ y : Int, y = cmpZ v (-1) := ⟨_, rfl⟩
          rw [← ez19]
          have gz19 : (z19 < 0 ↔ (v : Int) < (-1)) ∧ (z19 = 0 ↔ (v : Int) = (-1)) ∧ -1 ≤ z19 ∧ z19 ≤ 1 := by rw [ez19]; exact ⟨cmpZ_lt, cmpZ_eq, (cmpZ_r _ _).1, (cmpZ_r _ _).2⟩
          clear ez19
          refine x_if_eq (tgt := 71) hx hb (by omega) dX8_put_54 (by decide) (fun c20 => ?_) (fun c20 => ?_)
          · replace c20 := cz_eqT gz19 c20
            clear gz19
            refine lv_aload_n hx hb dX8_put_71 rfl (lv_at hl 2 rfl) ?_
            refine lv_aload hx hb dX8_put_72 (lv_at hl 1 rfl) ?_
            refine lv_iload_n hx hb dX8_put_74 rfl (lv_at hl 4 rfl) ?_
            refine lv_lload_n hx hb dX8_put_75 rfl (lv_at hl 5 rfl) ?_
            refine gos_i (run_V (As := [.ref (ad 15 z1), .int (jI k), .long (jL v)]) (rest := []) hx hb hml hown hts (c_X8_changeValue l D tc base ad cnt X Y ln hR hFx hLn hCI z1 k v (by omega) (by omega) (by omega)) (cwV 3 hts gX8_put_X8_changeValue rfl rfl rfl (by first | exact hd_X8_changeValue | decide +kernel) ⟨Nat.le_of_ble_eq_true rfl, Nat.le_of_ble_eq_true rfl⟩) hK hw (by first | exact Int.le_refl 0 | omega) (by first | exact zlt hc0 | omega) sl_0_0 rfl rfl hl.1 rfl (Nat.le_of_ble_eq_true rfl) dX8_put_76 ⟨Nat.le_of_ble_eq_true rfl, Nat.le_of_ble_eq_true rfl⟩) hS (fun z21 u22 H locs p23 hw hS => ?_)
            obtain ⟨X24, Y25, eu22, hRX24, hG26, hJ27, hCIX24, p23, hcvX24⟩ := p23
            subst eu22
            have hFX24 : Frm [2802, 2803, 2902, 1600] X X24 := Frm.tr Frm.rf (Frm.mono hG26 (by first | exact nls_of rfl | decide))
            have hHY25 : Frm [2801, 2804] Y Y25 := Frm.tr Frm.rf (Frm.mono hJ27 (by first | exact nls_of rfl | decide))
            rw [hQ9]
            refine ret_i (mc := 0) (ms := 0) hx hb hr hlocks hw hS (by first | exact Nat.le_of_ble_eq_true rfl | omega) (by first | exact Nat.le_of_ble_eq_true rfl | omega) dX8_put_79 ?_
            have hT28 : tyo (Y 15 x 0) = r6 := by rw [← ezz1]; exact tyo_some y5
            have hk29 : k < X 19 r6 1 := h5p3 r6 (by rw [← ezz1]; exact y5)
            rcases hcvX24 with ⟨c1, c2, c3, c4⟩ | ⟨c1, c2, c3, c4, c5, c6⟩
            · exact ⟨X24, Y25, rfl, hRX24, hFX24, hHY25, hCIX24, by omega, (by rw [hT28]; first | (have h9z : (z21 : Int) = -1 := (by omega); exact Or.inl ⟨(fun q => by (try delta Hid at *); omega), by omega⟩) | (have h9z : (z21 : Int) = -14 := (by omega); exact Or.inr (Or.inl ⟨(by (try delta Hid at *); omega), by omega, by omega⟩)) | (have h9z : (z21 : Int) = -17 := (by omega); exact Or.inr (Or.inr (Or.inl ⟨(by (try delta Hid at *); omega), by omega, by omega, (fun q => by (try delta Hid at *); omega), by omega⟩))) | (have h9z : (z21 : Int) = -4 := (by omega); exact Or.inr (Or.inr (Or.inr (Or.inl ⟨(by (try delta Hid at *); omega), by omega, (by (try delta Hid at *); omega), by omega, by omega⟩)))) | (have h9z : (z21 : Int) = 1 := (by omega); exact Or.inr (Or.inr (Or.inr (Or.inr (⟨(by (try delta Hid at *); omega), by omega, (by (try delta Hid at *); omega), by omega, by omega⟩))))) | exact Or.inl ⟨(fun q => by (try delta Hid at *); omega), by omega⟩ | exact Or.inr (Or.inl ⟨(by (try delta Hid at *); omega), by omega, by omega⟩) | exact Or.inr (Or.inr (Or.inl ⟨(by (try delta Hid at *); omega), by omega, by omega, (fun q => by (try delta Hid at *); omega), by omega⟩)) | exact Or.inr (Or.inr (Or.inr (Or.inl ⟨(by (try delta Hid at *); omega), by omega, (by (try delta Hid at *); omega), by omega, by omega⟩))) | exact Or.inr (Or.inr (Or.inr (Or.inr (⟨(by (try delta Hid at *); omega), by omega, (by (try delta Hid at *); omega), by omega, by omega⟩))))), fun _ => ⟨c3, c4⟩, fun q => (by exfalso; omega)⟩
            · exact ⟨X24, Y25, rfl, hRX24, hFX24, hHY25, hCIX24, by omega, (by rw [hT28]; first | (have h9z : (z21 : Int) = -1 := (by omega); exact Or.inl ⟨(fun q => by (try delta Hid at *); omega), by omega⟩) | (have h9z : (z21 : Int) = -14 := (by omega); exact Or.inr (Or.inl ⟨(by (try delta Hid at *); omega), by omega, by omega⟩)) | (have h9z : (z21 : Int) = -17 := (by omega); exact Or.inr (Or.inr (Or.inl ⟨(by (try delta Hid at *); omega), by omega, by omega, (fun q => by (try delta Hid at *); omega), by omega⟩))) | (have h9z : (z21 : Int) = -4 := (by omega); exact Or.inr (Or.inr (Or.inr (Or.inl ⟨(by (try delta Hid at *); omega), by omega, (by (try delta Hid at *); omega), by omega, by omega⟩)))) | (have h9z : (z21 : Int) = 1 := (by omega); exact Or.inr (Or.inr (Or.inr (Or.inr (⟨(by (try delta Hid at *); omega), by omega, (by (try delta Hid at *); omega), by omega, by omega⟩))))) | exact Or.inl ⟨(fun q => by (try delta Hid at *); omega), by omega⟩ | exact Or.inr (Or.inl ⟨(by (try delta Hid at *); omega), by omega, by omega⟩) | exact Or.inr (Or.inr (Or.inl ⟨(by (try delta Hid at *); omega), by omega, by omega, (fun q => by (try delta Hid at *); omega), by omega⟩)) | exact Or.inr (Or.inr (Or.inr (Or.inl ⟨(by (try delta Hid at *); omega), by omega, (by (try delta Hid at *); omega), by omega, by omega⟩))) | exact Or.inr (Or.inr (Or.inr (Or.inr (⟨(by (try delta Hid at *); omega), by omega, (by (try delta Hid at *); omega), by omega, by omega⟩))))), fun q => (by exfalso; omega), fun _ => (by rw [← ezz1]; exact ⟨c3, c4, c5, c6⟩)⟩
          · replace c20 := cz_eqF gz19 c20
            clear gz19
            refine lv_aload_n hx hb dX8_put_57 rfl (lv_at hl 2 rfl) ?_
            refine lv_lload_n hx hb dX8_put_58 rfl (lv_at hl 5 rfl) ?_
            refine gos_i (run_V (As := [.long (jL v)]) (rest := []) hx hb hml hown hts (c_X8_isWordInUse l D tc base ad cnt X Y ln hR hFx hLn v (by omega)) (cwV 1 hts gX8_put_X8_isWordInUse rfl rfl rfl (by first | exact hd_X8_isWordInUse | decide +kernel) ⟨Nat.le_of_ble_eq_true rfl, Nat.le_of_ble_eq_true rfl⟩) hK hw (by first | exact Int.le_refl 0 | omega) (by first | exact zlt hc0 | omega) sl_0_0 rfl rfl hl.1 rfl (Nat.le_of_ble_eq_true rfl) dX8_put_59 ⟨Nat.le_of_ble_eq_true rfl, Nat.le_of_ble_eq_true rfl⟩) hS (fun z30 u31 H locs p32 hw hS => ?_)
            obtain ⟨eu31, p32⟩ := p32
            subst eu31
            rcases p32 with ⟨ez30, p32⟩ | ⟨ez30, p32⟩
            · subst ez30
              refine x_if_neT (tgt := 71) hx hb (by omega) (by decide) dX8_put_62 (by decide) ?_
              refine lv_aload_n hx hb dX8_put_71 rfl (lv_at hl 2 rfl) ?_
              refine lv_aload hx hb dX8_put_72 (lv_at hl 1 rfl) ?_
              refine lv_iload_n hx hb dX8_put_74 rfl (lv_at hl 4 rfl) ?_
              refine lv_lload_n hx hb dX8_put_75 rfl (lv_at hl 5 rfl) ?_
              refine gos_i (run_V (As := [.ref (ad 15 z1), .int (jI k), .long (jL v)]) (rest := []) hx hb hml hown hts (c_X8_changeValue l D tc base ad cnt X Y ln hR hFx hLn hCI z1 k v (by omega) (by omega) (by omega)) (cwV 3 hts gX8_put_X8_changeValue rfl rfl rfl (by first | exact hd_X8_changeValue | decide +kernel) ⟨Nat.le_of_ble_eq_true rfl, Nat.le_of_ble_eq_true rfl⟩) hK hw (by first | exact Int.le_refl 0 | omega) (by first | exact zlt hc0 | omega) sl_0_0 rfl rfl hl.1 rfl (Nat.le_of_ble_eq_true rfl) dX8_put_76 ⟨Nat.le_of_ble_eq_true rfl, Nat.le_of_ble_eq_true rfl⟩) hS (fun z33 u34 H locs p35 hw hS => ?_)
              obtain ⟨X36, Y37, eu34, hRX36, hG38, hJ39, hCIX36, p35, hcvX36⟩ := p35
              subst eu34
              have hFX36 : Frm [2802, 2803, 2902, 1600] X X36 := Frm.tr Frm.rf (Frm.mono hG38 (by first | exact nls_of rfl | decide))
              have hHY37 : Frm [2801, 2804] Y Y37 := Frm.tr Frm.rf (Frm.mono hJ39 (by first | exact nls_of rfl | decide))
              rw [hQ9]
              refine ret_i (mc := 0) (ms := 0) hx hb hr hlocks hw hS (by first | exact Nat.le_of_ble_eq_true rfl | omega) (by first | exact Nat.le_of_ble_eq_true rfl | omega) dX8_put_79 ?_
              have hT40 : tyo (Y 15 x 0) = r6 := by rw [← ezz1]; exact tyo_some y5
              have hk41 : k < X 19 r6 1 := h5p3 r6 (by rw [← ezz1]; exact y5)
              rcases hcvX36 with ⟨c1, c2, c3, c4⟩ | ⟨c1, c2, c3, c4, c5, c6⟩
              · exact ⟨X36, Y37, rfl, hRX36, hFX36, hHY37, hCIX36, by omega, (by rw [hT40]; first | (have h9z : (z33 : Int) = -1 := (by omega); exact Or.inl ⟨(fun q => by (try delta Hid at *); omega), by omega⟩) | (have h9z : (z33 : Int) = -14 := (by omega); exact Or.inr (Or.inl ⟨(by (try delta Hid at *); omega), by omega, by omega⟩)) | (have h9z : (z33 : Int) = -17 := (by omega); exact Or.inr (Or.inr (Or.inl ⟨(by (try delta Hid at *); omega), by omega, by omega, (fun q => by (try delta Hid at *); omega), by omega⟩))) | (have h9z : (z33 : Int) = -4 := (by omega); exact Or.inr (Or.inr (Or.inr (Or.inl ⟨(by (try delta Hid at *); omega), by omega, (by (try delta Hid at *); omega), by omega, by omega⟩)))) | (have h9z : (z33 : Int) = 1 := (by omega); exact Or.inr (Or.inr (Or.inr (Or.inr (⟨(by (try delta Hid at *); omega), by omega, (by (try delta Hid at *); omega), by omega, by omega⟩))))) | exact Or.inl ⟨(fun q => by (try delta Hid at *); omega), by omega⟩ | exact Or.inr (Or.inl ⟨(by (try delta Hid at *); omega), by omega, by omega⟩) | exact Or.inr (Or.inr (Or.inl ⟨(by (try delta Hid at *); omega), by omega, by omega, (fun q => by (try delta Hid at *); omega), by omega⟩)) | exact Or.inr (Or.inr (Or.inr (Or.inl ⟨(by (try delta Hid at *); omega), by omega, (by (try delta Hid at *); omega), by omega, by omega⟩))) | exact Or.inr (Or.inr (Or.inr (Or.inr (⟨(by (try delta Hid at *); omega), by omega, (by (try delta Hid at *); omega), by omega, by omega⟩))))), fun _ => ⟨c3, c4⟩, fun q => (by exfalso; omega)⟩
              · exact ⟨X36, Y37, rfl, hRX36, hFX36, hHY37, hCIX36, by omega, (by rw [hT40]; first | (have h9z : (z33 : Int) = -1 := (by omega); exact Or.inl ⟨(fun q => by (try delta Hid at *); omega), by omega⟩) | (have h9z : (z33 : Int) = -14 := (by omega); exact Or.inr (Or.inl ⟨(by (try delta Hid at *); omega), by omega, by omega⟩)) | (have h9z : (z33 : Int) = -17 := (by omega); exact Or.inr (Or.inr (Or.inl ⟨(by (try delta Hid at *); omega), by omega, by omega, (fun q => by (try delta Hid at *); omega), by omega⟩))) | (have h9z : (z33 : Int) = -4 := (by omega); exact Or.inr (Or.inr (Or.inr (Or.inl ⟨(by (try delta Hid at *); omega), by omega, (by (try delta Hid at *); omega), by omega, by omega⟩)))) | (have h9z : (z33 : Int) = 1 := (by omega); exact Or.inr (Or.inr (Or.inr (Or.inr (⟨(by (try delta Hid at *); omega), by omega, (by (try delta Hid at *); omega), by omega, by omega⟩))))) | exact Or.inl ⟨(fun q => by (try delta Hid at *); omega), by omega⟩ | exact Or.inr (Or.inl ⟨(by (try delta Hid at *); omega), by omega, by omega⟩) | exact Or.inr (Or.inr (Or.inl ⟨(by (try delta Hid at *); omega), by omega, by omega, (fun q => by (try delta Hid at *); omega), by omega⟩)) | exact Or.inr (Or.inr (Or.inr (Or.inl ⟨(by (try delta Hid at *); omega), by omega, (by (try delta Hid at *); omega), by omega, by omega⟩))) | exact Or.inr (Or.inr (Or.inr (Or.inr (⟨(by (try delta Hid at *); omega), by omega, (by (try delta Hid at *); omega), by omega, by omega⟩))))), fun q => (by exfalso; omega), fun _ => (by rw [← ezz1]; exact ⟨c3, c4, c5, c6⟩)⟩
            · subst ez30
              refine x_if_neF (tgt := 71) hx hb (by omega) (by decide) dX8_put_62 (by decide) ?_
              refine lv_bipush (v := jI 7) hx hb dX8_put_65 (by decide) ?_
              refine gos_i (run_S (As := [.int (jI 7)]) (rest := []) hx hb hml hown hts (c_X8_failed l D tc base ad cnt X Y ln 7 (by omega)) (cwS 1 hts gX8_put_X8_failed rfl rfl rfl (by first | exact hd_X8_failed | decide +kernel) ⟨Nat.le_of_ble_eq_true rfl, Nat.le_of_ble_eq_true rfl⟩) hK hw rfl hl.1 rfl (Nat.le_of_ble_eq_true rfl) dX8_put_67 ⟨Nat.le_of_ble_eq_true rfl, Nat.le_of_ble_eq_true rfl⟩) hS (fun z42 u43 H locs p44 hw hS => ?_)
              obtain ⟨eu43, p44⟩ := p44
              subst eu43
              rw [hQ9]
              refine ret_i (mc := 0) (ms := 0) hx hb hr hlocks hw hS (by first | exact Nat.le_of_ble_eq_true rfl | omega) (by first | exact Nat.le_of_ble_eq_true rfl | omega) dX8_put_70 ?_
              have hT45 : tyo (Y 15 x 0) = r6 := by rw [← ezz1]; exact tyo_some y5
              have hk46 : k < X 19 r6 1 := h5p3 r6 (by rw [← ezz1]; exact y5)
              exact ⟨X, Y, rfl, hR, Frm.rf, Frm.rf, hCI, by omega, (by rw [hT45]; first | (have h9z : (z42 : Int) = -1 := (by omega); exact Or.inl ⟨(fun q => by (try delta Hid at *); omega), by omega⟩) | (have h9z : (z42 : Int) = -14 := (by omega); exact Or.inr (Or.inl ⟨(by (try delta Hid at *); omega), by omega, by omega⟩)) | (have h9z : (z42 : Int) = -17 := (by omega); exact Or.inr (Or.inr (Or.inl ⟨(by (try delta Hid at *); omega), by omega, by omega, (fun q => by (try delta Hid at *); omega), by omega⟩))) | (have h9z : (z42 : Int) = -4 := (by omega); exact Or.inr (Or.inr (Or.inr (Or.inl ⟨(by (try delta Hid at *); omega), by omega, (by (try delta Hid at *); omega), by omega, by omega⟩)))) | (have h9z : (z42 : Int) = 1 := (by omega); exact Or.inr (Or.inr (Or.inr (Or.inr (⟨(by (try delta Hid at *); omega), by omega, (by (try delta Hid at *); omega), by omega, by omega⟩))))) | exact Or.inl ⟨(fun q => by (try delta Hid at *); omega), by omega⟩ | exact Or.inr (Or.inl ⟨(by (try delta Hid at *); omega), by omega, by omega⟩) | exact Or.inr (Or.inr (Or.inl ⟨(by (try delta Hid at *); omega), by omega, by omega, (fun q => by (try delta Hid at *); omega), by omega⟩)) | exact Or.inr (Or.inr (Or.inr (Or.inl ⟨(by (try delta Hid at *); omega), by omega, (by (try delta Hid at *); omega), by omega, by omega⟩))) | exact Or.inr (Or.inr (Or.inr (Or.inr (⟨(by (try delta Hid at *); omega), by omega, (by (try delta Hid at *); omega), by omega, by omega⟩))))), fun _ => ⟨rfl, rfl⟩, fun q => (by exfalso; omega)⟩
      · refine lv_iload hx hb dX8_put_32 (lv_at hl 0 rfl) ?_
        refine lv_iconst (v := jI 1) hx hb dX8_put_34 rfl ?_
        refine x_icmp_eq (tgt := 43) hx hb (by omega) (by omega) dX8_put_35 (by decide) (fun c47 => ?_) (fun c47 => ?_)
        · refine lv_iload hx hb dX8_put_43 (lv_at hl 0 rfl) ?_
          refine lv_iconst (v := jI 1) hx hb dX8_put_45 rfl ?_
          refine x_icmp_ne (tgt := 71) hx hb (by omega) (by omega) dX8_put_46 (by decide) (fun c48 => ?_) (fun c48 => ?_)
          · refine lv_aload_n hx hb dX8_put_71 rfl (lv_at hl 2 rfl) ?_
            refine lv_aload hx hb dX8_put_72 (lv_at hl 1 rfl) ?_
            refine lv_iload_n hx hb dX8_put_74 rfl (lv_at hl 4 rfl) ?_
            refine lv_lload_n hx hb dX8_put_75 rfl (lv_at hl 5 rfl) ?_
            refine gos_i (run_V (As := [.ref (ad 15 z1), .int (jI k), .long (jL v)]) (rest := []) hx hb hml hown hts (c_X8_changeValue l D tc base ad cnt X Y ln hR hFx hLn hCI z1 k v (by omega) (by omega) (by omega)) (cwV 3 hts gX8_put_X8_changeValue rfl rfl rfl (by first | exact hd_X8_changeValue | decide +kernel) ⟨Nat.le_of_ble_eq_true rfl, Nat.le_of_ble_eq_true rfl⟩) hK hw (by first | exact Int.le_refl 0 | omega) (by first | exact zlt hc0 | omega) sl_0_0 rfl rfl hl.1 rfl (Nat.le_of_ble_eq_true rfl) dX8_put_76 ⟨Nat.le_of_ble_eq_true rfl, Nat.le_of_ble_eq_true rfl⟩) hS (fun z49 u50 H locs p51 hw hS => ?_)
            obtain ⟨X52, Y53, eu50, hRX52, hG54, hJ55, hCIX52, p51, hcvX52⟩ := p51
            subst eu50
            have hFX52 : Frm [2802, 2803, 2902, 1600] X X52 := Frm.tr Frm.rf (Frm.mono hG54 (by first | exact nls_of rfl | decide))
            have hHY53 : Frm [2801, 2804] Y Y53 := Frm.tr Frm.rf (Frm.mono hJ55 (by first | exact nls_of rfl | decide))
            rw [hQ9]
            refine ret_i (mc := 0) (ms := 0) hx hb hr hlocks hw hS (by first | exact Nat.le_of_ble_eq_true rfl | omega) (by first | exact Nat.le_of_ble_eq_true rfl | omega) dX8_put_79 ?_
            have hT56 : tyo (Y 15 x 0) = r6 := by rw [← ezz1]; exact tyo_some y5
            have hk57 : k < X 19 r6 1 := h5p3 r6 (by rw [← ezz1]; exact y5)
            rcases hcvX52 with ⟨c1, c2, c3, c4⟩ | ⟨c1, c2, c3, c4, c5, c6⟩
            · exact ⟨X52, Y53, rfl, hRX52, hFX52, hHY53, hCIX52, by omega, (by rw [hT56]; first | (have h9z : (z49 : Int) = -1 := (by omega); exact Or.inl ⟨(fun q => by (try delta Hid at *); omega), by omega⟩) | (have h9z : (z49 : Int) = -14 := (by omega); exact Or.inr (Or.inl ⟨(by (try delta Hid at *); omega), by omega, by omega⟩)) | (have h9z : (z49 : Int) = -17 := (by omega); exact Or.inr (Or.inr (Or.inl ⟨(by (try delta Hid at *); omega), by omega, by omega, (fun q => by (try delta Hid at *); omega), by omega⟩))) | (have h9z : (z49 : Int) = -4 := (by omega); exact Or.inr (Or.inr (Or.inr (Or.inl ⟨(by (try delta Hid at *); omega), by omega, (by (try delta Hid at *); omega), by omega, by omega⟩)))) | (have h9z : (z49 : Int) = 1 := (by omega); exact Or.inr (Or.inr (Or.inr (Or.inr (⟨(by (try delta Hid at *); omega), by omega, (by (try delta Hid at *); omega), by omega, by omega⟩))))) | exact Or.inl ⟨(fun q => by (try delta Hid at *); omega), by omega⟩ | exact Or.inr (Or.inl ⟨(by (try delta Hid at *); omega), by omega, by omega⟩) | exact Or.inr (Or.inr (Or.inl ⟨(by (try delta Hid at *); omega), by omega, by omega, (fun q => by (try delta Hid at *); omega), by omega⟩)) | exact Or.inr (Or.inr (Or.inr (Or.inl ⟨(by (try delta Hid at *); omega), by omega, (by (try delta Hid at *); omega), by omega, by omega⟩))) | exact Or.inr (Or.inr (Or.inr (Or.inr (⟨(by (try delta Hid at *); omega), by omega, (by (try delta Hid at *); omega), by omega, by omega⟩))))), fun _ => ⟨c3, c4⟩, fun q => (by exfalso; omega)⟩
            · exact ⟨X52, Y53, rfl, hRX52, hFX52, hHY53, hCIX52, by omega, (by rw [hT56]; first | (have h9z : (z49 : Int) = -1 := (by omega); exact Or.inl ⟨(fun q => by (try delta Hid at *); omega), by omega⟩) | (have h9z : (z49 : Int) = -14 := (by omega); exact Or.inr (Or.inl ⟨(by (try delta Hid at *); omega), by omega, by omega⟩)) | (have h9z : (z49 : Int) = -17 := (by omega); exact Or.inr (Or.inr (Or.inl ⟨(by (try delta Hid at *); omega), by omega, by omega, (fun q => by (try delta Hid at *); omega), by omega⟩))) | (have h9z : (z49 : Int) = -4 := (by omega); exact Or.inr (Or.inr (Or.inr (Or.inl ⟨(by (try delta Hid at *); omega), by omega, (by (try delta Hid at *); omega), by omega, by omega⟩)))) | (have h9z : (z49 : Int) = 1 := (by omega); exact Or.inr (Or.inr (Or.inr (Or.inr (⟨(by (try delta Hid at *); omega), by omega, (by (try delta Hid at *); omega), by omega, by omega⟩))))) | exact Or.inl ⟨(fun q => by (try delta Hid at *); omega), by omega⟩ | exact Or.inr (Or.inl ⟨(by (try delta Hid at *); omega), by omega, by omega⟩) | exact Or.inr (Or.inr (Or.inl ⟨(by (try delta Hid at *); omega), by omega, by omega, (fun q => by (try delta Hid at *); omega), by omega⟩)) | exact Or.inr (Or.inr (Or.inr (Or.inl ⟨(by (try delta Hid at *); omega), by omega, (by (try delta Hid at *); omega), by omega, by omega⟩))) | exact Or.inr (Or.inr (Or.inr (Or.inr (⟨(by (try delta Hid at *); omega), by omega, (by (try delta Hid at *); omega), by omega, by omega⟩))))), fun q => (by exfalso; omega), fun _ => (by rw [← ezz1]; exact ⟨c3, c4, c5, c6⟩)⟩
          · refine lv_lload_n hx hb dX8_put_49 rfl (lv_at hl 5 rfl) ?_
            refine lv_ldc2 (v := jL (-1)) hx hb hown (hts (.constantLong RX8 88 (-1)) (by first | exact gj_X8_put_0 _ (gp_1 (gp_1 gp_h)) | decide +kernel)) dX8_put_50 ?_
            refine x_lcmp hx hb (by omega) (by omega) dX8_put_53 ?_
            obtain ⟨z58, ez58⟩ : ∃ y : Int, y = cmpZ v (-1) := ⟨_, rfl⟩
            rw [← ez58]
            have gz58 : (z58 < 0 ↔ (v : Int) < (-1)) ∧ (z58 = 0 ↔ (v : Int) = (-1)) ∧ -1 ≤ z58 ∧ z58 ≤ 1 := by rw [ez58]; exact ⟨cmpZ_lt, cmpZ_eq, (cmpZ_r _ _).1, (cmpZ_r _ _).2⟩
            clear ez58
            refine x_if_eq (tgt := 71) hx hb (by omega) dX8_put_54 (by decide) (fun c59 => ?_) (fun c59 => ?_)
            · replace c59 := cz_eqT gz58 c59
              clear gz58
              refine lv_aload_n hx hb dX8_put_71 rfl (lv_at hl 2 rfl) ?_
              refine lv_aload hx hb dX8_put_72 (lv_at hl 1 rfl) ?_
              refine lv_iload_n hx hb dX8_put_74 rfl (lv_at hl 4 rfl) ?_
              refine lv_lload_n hx hb dX8_put_75 rfl (lv_at hl 5 rfl) ?_
              refine gos_i (run_V (As := [.ref (ad 15 z1), .int (jI k), .long (jL v)]) (rest := []) hx hb hml hown hts (c_X8_changeValue l D tc base ad cnt X Y ln hR hFx hLn hCI z1 k v (by omega) (by omega) (by omega)) (cwV 3 hts gX8_put_X8_changeValue rfl rfl rfl (by first | exact hd_X8_changeValue | decide +kernel) ⟨Nat.le_of_ble_eq_true rfl, Nat.le_of_ble_eq_true rfl⟩) hK hw (by first | exact Int.le_refl 0 | omega) (by first | exact zlt hc0 | omega) sl_0_0 rfl rfl hl.1 rfl (Nat.le_of_ble_eq_true rfl) dX8_put_76 ⟨Nat.le_of_ble_eq_true rfl, Nat.le_of_ble_eq_true rfl⟩) hS (fun z60 u61 H locs p62 hw hS => ?_)
              obtain ⟨X63, Y64, eu61, hRX63, hG65, hJ66, hCIX63, p62, hcvX63⟩ := p62
              subst eu61
              have hFX63 : Frm [2802, 2803, 2902, 1600] X X63 := Frm.tr Frm.rf (Frm.mono hG65 (by first | exact nls_of rfl | decide))
              have hHY64 : Frm [2801, 2804] Y Y64 := Frm.tr Frm.rf (Frm.mono hJ66 (by first | exact nls_of rfl | decide))
              rw [hQ9]
              refine ret_i (mc := 0) (ms := 0) hx hb hr hlocks hw hS (by first | exact Nat.le_of_ble_eq_true rfl | omega) (by first | exact Nat.le_of_ble_eq_true rfl | omega) dX8_put_79 ?_
              have hT67 : tyo (Y 15 x 0) = r6 := by rw [← ezz1]; exact tyo_some y5
              have hk68 : k < X 19 r6 1 := h5p3 r6 (by rw [← ezz1]; exact y5)
              rcases hcvX63 with ⟨c1, c2, c3, c4⟩ | ⟨c1, c2, c3, c4, c5, c6⟩
              · exact ⟨X63, Y64, rfl, hRX63, hFX63, hHY64, hCIX63, by omega, (by rw [hT67]; first | (have h9z : (z60 : Int) = -1 := (by omega); exact Or.inl ⟨(fun q => by (try delta Hid at *); omega), by omega⟩) | (have h9z : (z60 : Int) = -14 := (by omega); exact Or.inr (Or.inl ⟨(by (try delta Hid at *); omega), by omega, by omega⟩)) | (have h9z : (z60 : Int) = -17 := (by omega); exact Or.inr (Or.inr (Or.inl ⟨(by (try delta Hid at *); omega), by omega, by omega, (fun q => by (try delta Hid at *); omega), by omega⟩))) | (have h9z : (z60 : Int) = -4 := (by omega); exact Or.inr (Or.inr (Or.inr (Or.inl ⟨(by (try delta Hid at *); omega), by omega, (by (try delta Hid at *); omega), by omega, by omega⟩)))) | (have h9z : (z60 : Int) = 1 := (by omega); exact Or.inr (Or.inr (Or.inr (Or.inr (⟨(by (try delta Hid at *); omega), by omega, (by (try delta Hid at *); omega), by omega, by omega⟩))))) | exact Or.inl ⟨(fun q => by (try delta Hid at *); omega), by omega⟩ | exact Or.inr (Or.inl ⟨(by (try delta Hid at *); omega), by omega, by omega⟩) | exact Or.inr (Or.inr (Or.inl ⟨(by (try delta Hid at *); omega), by omega, by omega, (fun q => by (try delta Hid at *); omega), by omega⟩)) | exact Or.inr (Or.inr (Or.inr (Or.inl ⟨(by (try delta Hid at *); omega), by omega, (by (try delta Hid at *); omega), by omega, by omega⟩))) | exact Or.inr (Or.inr (Or.inr (Or.inr (⟨(by (try delta Hid at *); omega), by omega, (by (try delta Hid at *); omega), by omega, by omega⟩))))), fun _ => ⟨c3, c4⟩, fun q => (by exfalso; omega)⟩
              · exact ⟨X63, Y64, rfl, hRX63, hFX63, hHY64, hCIX63, by omega, (by rw [hT67]; first | (have h9z : (z60 : Int) = -1 := (by omega); exact Or.inl ⟨(fun q => by (try delta Hid at *); omega), by omega⟩) | (have h9z : (z60 : Int) = -14 := (by omega); exact Or.inr (Or.inl ⟨(by (try delta Hid at *); omega), by omega, by omega⟩)) | (have h9z : (z60 : Int) = -17 := (by omega); exact Or.inr (Or.inr (Or.inl ⟨(by (try delta Hid at *); omega), by omega, by omega, (fun q => by (try delta Hid at *); omega), by omega⟩))) | (have h9z : (z60 : Int) = -4 := (by omega); exact Or.inr (Or.inr (Or.inr (Or.inl ⟨(by (try delta Hid at *); omega), by omega, (by (try delta Hid at *); omega), by omega, by omega⟩)))) | (have h9z : (z60 : Int) = 1 := (by omega); exact Or.inr (Or.inr (Or.inr (Or.inr (⟨(by (try delta Hid at *); omega), by omega, (by (try delta Hid at *); omega), by omega, by omega⟩))))) | exact Or.inl ⟨(fun q => by (try delta Hid at *); omega), by omega⟩ | exact Or.inr (Or.inl ⟨(by (try delta Hid at *); omega), by omega, by omega⟩) | exact Or.inr (Or.inr (Or.inl ⟨(by (try delta Hid at *); omega), by omega, by omega, (fun q => by (try delta Hid at *); omega), by omega⟩)) | exact Or.inr (Or.inr (Or.inr (Or.inl ⟨(by (try delta Hid at *); omega), by omega, (by (try delta Hid at *); omega), by omega, by omega⟩))) | exact Or.inr (Or.inr (Or.inr (Or.inr (⟨(by (try delta Hid at *); omega), by omega, (by (try delta Hid at *); omega), by omega, by omega⟩))))), fun q => (by exfalso; omega), fun _ => (by rw [← ezz1]; exact ⟨c3, c4, c5, c6⟩)⟩
            · replace c59 := cz_eqF gz58 c59
              clear gz58
              refine lv_aload_n hx hb dX8_put_57 rfl (lv_at hl 2 rfl) ?_
              refine lv_lload_n hx hb dX8_put_58 rfl (lv_at hl 5 rfl) ?_
              refine gos_i (run_V (As := [.long (jL v)]) (rest := []) hx hb hml hown hts (c_X8_isWordInUse l D tc base ad cnt X Y ln hR hFx hLn v (by omega)) (cwV 1 hts gX8_put_X8_isWordInUse rfl rfl rfl (by first | exact hd_X8_isWordInUse | decide +kernel) ⟨Nat.le_of_ble_eq_true rfl, Nat.le_of_ble_eq_true rfl⟩) hK hw (by first | exact Int.le_refl 0 | omega) (by first | exact zlt hc0 | omega) sl_0_0 rfl rfl hl.1 rfl (Nat.le_of_ble_eq_true rfl) dX8_put_59 ⟨Nat.le_of_ble_eq_true rfl, Nat.le_of_ble_eq_true rfl⟩) hS (fun z69 u70 H locs p71 hw hS => ?_)
              obtain ⟨eu70, p71⟩ := p71
              subst eu70
              rcases p71 with ⟨ez69, p71⟩ | ⟨ez69, p71⟩
              · subst ez69
                refine x_if_neT (tgt := 71) hx hb (by omega) (by decide) dX8_put_62 (by decide) ?_
                refine lv_aload_n hx hb dX8_put_71 rfl (lv_at hl 2 rfl) ?_
                refine lv_aload hx hb dX8_put_72 (lv_at hl 1 rfl) ?_
                refine lv_iload_n hx hb dX8_put_74 rfl (lv_at hl 4 rfl) ?_
                refine lv_lload_n hx hb dX8_put_75 rfl (lv_at hl 5 rfl) ?_
                refine gos_i (run_V (As := [.ref (ad 15 z1), .int (jI k), .long (jL v)]) (rest := []) hx hb hml hown hts (c_X8_changeValue l D tc base ad cnt X Y ln hR hFx hLn hCI z1 k v (by omega) (by omega) (by omega)) (cwV 3 hts gX8_put_X8_changeValue rfl rfl rfl (by first | exact hd_X8_changeValue | decide +kernel) ⟨Nat.le_of_ble_eq_true rfl, Nat.le_of_ble_eq_true rfl⟩) hK hw (by first | exact Int.le_refl 0 | omega) (by first | exact zlt hc0 | omega) sl_0_0 rfl rfl hl.1 rfl (Nat.le_of_ble_eq_true rfl) dX8_put_76 ⟨Nat.le_of_ble_eq_true rfl, Nat.le_of_ble_eq_true rfl⟩) hS (fun z72 u73 H locs p74 hw hS => ?_)
                obtain ⟨X75, Y76, eu73, hRX75, hG77, hJ78, hCIX75, p74, hcvX75⟩ := p74
                subst eu73
                have hFX75 : Frm [2802, 2803, 2902, 1600] X X75 := Frm.tr Frm.rf (Frm.mono hG77 (by first | exact nls_of rfl | decide))
                have hHY76 : Frm [2801, 2804] Y Y76 := Frm.tr Frm.rf (Frm.mono hJ78 (by first | exact nls_of rfl | decide))
                rw [hQ9]
                refine ret_i (mc := 0) (ms := 0) hx hb hr hlocks hw hS (by first | exact Nat.le_of_ble_eq_true rfl | omega) (by first | exact Nat.le_of_ble_eq_true rfl | omega) dX8_put_79 ?_
                have hT79 : tyo (Y 15 x 0) = r6 := by rw [← ezz1]; exact tyo_some y5
                have hk80 : k < X 19 r6 1 := h5p3 r6 (by rw [← ezz1]; exact y5)
                rcases hcvX75 with ⟨c1, c2, c3, c4⟩ | ⟨c1, c2, c3, c4, c5, c6⟩
                · exact ⟨X75, Y76, rfl, hRX75, hFX75, hHY76, hCIX75, by omega, (by rw [hT79]; first | (have h9z : (z72 : Int) = -1 := (by omega); exact Or.inl ⟨(fun q => by (try delta Hid at *); omega), by omega⟩) | (have h9z : (z72 : Int) = -14 := (by omega); exact Or.inr (Or.inl ⟨(by (try delta Hid at *); omega), by omega, by omega⟩)) | (have h9z : (z72 : Int) = -17 := (by omega); exact Or.inr (Or.inr (Or.inl ⟨(by (try delta Hid at *); omega), by omega, by omega, (fun q => by (try delta Hid at *); omega), by omega⟩))) | (have h9z : (z72 : Int) = -4 := (by omega); exact Or.inr (Or.inr (Or.inr (Or.inl ⟨(by (try delta Hid at *); omega), by omega, (by (try delta Hid at *); omega), by omega, by omega⟩)))) | (have h9z : (z72 : Int) = 1 := (by omega); exact Or.inr (Or.inr (Or.inr (Or.inr (⟨(by (try delta Hid at *); omega), by omega, (by (try delta Hid at *); omega), by omega, by omega⟩))))) | exact Or.inl ⟨(fun q => by (try delta Hid at *); omega), by omega⟩ | exact Or.inr (Or.inl ⟨(by (try delta Hid at *); omega), by omega, by omega⟩) | exact Or.inr (Or.inr (Or.inl ⟨(by (try delta Hid at *); omega), by omega, by omega, (fun q => by (try delta Hid at *); omega), by omega⟩)) | exact Or.inr (Or.inr (Or.inr (Or.inl ⟨(by (try delta Hid at *); omega), by omega, (by (try delta Hid at *); omega), by omega, by omega⟩))) | exact Or.inr (Or.inr (Or.inr (Or.inr (⟨(by (try delta Hid at *); omega), by omega, (by (try delta Hid at *); omega), by omega, by omega⟩))))), fun _ => ⟨c3, c4⟩, fun q => (by exfalso; omega)⟩
                · exact ⟨X75, Y76, rfl, hRX75, hFX75, hHY76, hCIX75, by omega, (by rw [hT79]; first | (have h9z : (z72 : Int) = -1 := (by omega); exact Or.inl ⟨(fun q => by (try delta Hid at *); omega), by omega⟩) | (have h9z : (z72 : Int) = -14 := (by omega); exact Or.inr (Or.inl ⟨(by (try delta Hid at *); omega), by omega, by omega⟩)) | (have h9z : (z72 : Int) = -17 := (by omega); exact Or.inr (Or.inr (Or.inl ⟨(by (try delta Hid at *); omega), by omega, by omega, (fun q => by (try delta Hid at *); omega), by omega⟩))) | (have h9z : (z72 : Int) = -4 := (by omega); exact Or.inr (Or.inr (Or.inr (Or.inl ⟨(by (try delta Hid at *); omega), by omega, (by (try delta Hid at *); omega), by omega, by omega⟩)))) | (have h9z : (z72 : Int) = 1 := (by omega); exact Or.inr (Or.inr (Or.inr (Or.inr (⟨(by (try delta Hid at *); omega), by omega, (by (try delta Hid at *); omega), by omega, by omega⟩))))) | exact Or.inl ⟨(fun q => by (try delta Hid at *); omega), by omega⟩ | exact Or.inr (Or.inl ⟨(by (try delta Hid at *); omega), by omega, by omega⟩) | exact Or.inr (Or.inr (Or.inl ⟨(by (try delta Hid at *); omega), by omega, by omega, (fun q => by (try delta Hid at *); omega), by omega⟩)) | exact Or.inr (Or.inr (Or.inr (Or.inl ⟨(by (try delta Hid at *); omega), by omega, (by (try delta Hid at *); omega), by omega, by omega⟩))) | exact Or.inr (Or.inr (Or.inr (Or.inr (⟨(by (try delta Hid at *); omega), by omega, (by (try delta Hid at *); omega), by omega, by omega⟩))))), fun q => (by exfalso; omega), fun _ => (by rw [← ezz1]; exact ⟨c3, c4, c5, c6⟩)⟩
              · subst ez69
                refine x_if_neF (tgt := 71) hx hb (by omega) (by decide) dX8_put_62 (by decide) ?_
                refine lv_bipush (v := jI 7) hx hb dX8_put_65 (by decide) ?_
                refine gos_i (run_S (As := [.int (jI 7)]) (rest := []) hx hb hml hown hts (c_X8_failed l D tc base ad cnt X Y ln 7 (by omega)) (cwS 1 hts gX8_put_X8_failed rfl rfl rfl (by first | exact hd_X8_failed | decide +kernel) ⟨Nat.le_of_ble_eq_true rfl, Nat.le_of_ble_eq_true rfl⟩) hK hw rfl hl.1 rfl (Nat.le_of_ble_eq_true rfl) dX8_put_67 ⟨Nat.le_of_ble_eq_true rfl, Nat.le_of_ble_eq_true rfl⟩) hS (fun z81 u82 H locs p83 hw hS => ?_)
                obtain ⟨eu82, p83⟩ := p83
                subst eu82
                rw [hQ9]
                refine ret_i (mc := 0) (ms := 0) hx hb hr hlocks hw hS (by first | exact Nat.le_of_ble_eq_true rfl | omega) (by first | exact Nat.le_of_ble_eq_true rfl | omega) dX8_put_70 ?_
                have hT84 : tyo (Y 15 x 0) = r6 := by rw [← ezz1]; exact tyo_some y5
                have hk85 : k < X 19 r6 1 := h5p3 r6 (by rw [← ezz1]; exact y5)
                exact ⟨X, Y, rfl, hR, Frm.rf, Frm.rf, hCI, by omega, (by rw [hT84]; first | (have h9z : (z81 : Int) = -1 := (by omega); exact Or.inl ⟨(fun q => by (try delta Hid at *); omega), by omega⟩) | (have h9z : (z81 : Int) = -14 := (by omega); exact Or.inr (Or.inl ⟨(by (try delta Hid at *); omega), by omega, by omega⟩)) | (have h9z : (z81 : Int) = -17 := (by omega); exact Or.inr (Or.inr (Or.inl ⟨(by (try delta Hid at *); omega), by omega, by omega, (fun q => by (try delta Hid at *); omega), by omega⟩))) | (have h9z : (z81 : Int) = -4 := (by omega); exact Or.inr (Or.inr (Or.inr (Or.inl ⟨(by (try delta Hid at *); omega), by omega, (by (try delta Hid at *); omega), by omega, by omega⟩)))) | (have h9z : (z81 : Int) = 1 := (by omega); exact Or.inr (Or.inr (Or.inr (Or.inr (⟨(by (try delta Hid at *); omega), by omega, (by (try delta Hid at *); omega), by omega, by omega⟩))))) | exact Or.inl ⟨(fun q => by (try delta Hid at *); omega), by omega⟩ | exact Or.inr (Or.inl ⟨(by (try delta Hid at *); omega), by omega, by omega⟩) | exact Or.inr (Or.inr (Or.inl ⟨(by (try delta Hid at *); omega), by omega, by omega, (fun q => by (try delta Hid at *); omega), by omega⟩)) | exact Or.inr (Or.inr (Or.inr (Or.inl ⟨(by (try delta Hid at *); omega), by omega, (by (try delta Hid at *); omega), by omega, by omega⟩))) | exact Or.inr (Or.inr (Or.inr (Or.inr (⟨(by (try delta Hid at *); omega), by omega, (by (try delta Hid at *); omega), by omega, by omega⟩))))), fun _ => ⟨rfl, rfl⟩, fun q => (by exfalso; omega)⟩
        · refine lv_iconst (v := jI 4) hx hb dX8_put_38 rfl ?_
          refine gos_i (run_S (As := [.int (jI 4)]) (rest := []) hx hb hml hown hts (c_X8_failed l D tc base ad cnt X Y ln 4 (by omega)) (cwS 1 hts gX8_put_X8_failed rfl rfl rfl (by first | exact hd_X8_failed | decide +kernel) ⟨Nat.le_of_ble_eq_true rfl, Nat.le_of_ble_eq_true rfl⟩) hK hw rfl hl.1 rfl (Nat.le_of_ble_eq_true rfl) dX8_put_39 ⟨Nat.le_of_ble_eq_true rfl, Nat.le_of_ble_eq_true rfl⟩) hS (fun z86 u87 H locs p88 hw hS => ?_)
          obtain ⟨eu87, p88⟩ := p88
          subst eu87
          rw [hQ9]
          refine ret_i (mc := 0) (ms := 0) hx hb hr hlocks hw hS (by first | exact Nat.le_of_ble_eq_true rfl | omega) (by first | exact Nat.le_of_ble_eq_true rfl | omega) dX8_put_42 ?_
          have hT89 : tyo (Y 15 x 0) = r6 := by rw [← ezz1]; exact tyo_some y5
          have hk90 : k < X 19 r6 1 := h5p3 r6 (by rw [← ezz1]; exact y5)
          exact ⟨X, Y, rfl, hR, Frm.rf, Frm.rf, hCI, by omega, (by rw [hT89]; first | (have h9z : (z86 : Int) = -1 := (by omega); exact Or.inl ⟨(fun q => by (try delta Hid at *); omega), by omega⟩) | (have h9z : (z86 : Int) = -14 := (by omega); exact Or.inr (Or.inl ⟨(by (try delta Hid at *); omega), by omega, by omega⟩)) | (have h9z : (z86 : Int) = -17 := (by omega); exact Or.inr (Or.inr (Or.inl ⟨(by (try delta Hid at *); omega), by omega, by omega, (fun q => by (try delta Hid at *); omega), by omega⟩))) | (have h9z : (z86 : Int) = -4 := (by omega); exact Or.inr (Or.inr (Or.inr (Or.inl ⟨(by (try delta Hid at *); omega), by omega, (by (try delta Hid at *); omega), by omega, by omega⟩)))) | (have h9z : (z86 : Int) = 1 := (by omega); exact Or.inr (Or.inr (Or.inr (Or.inr (⟨(by (try delta Hid at *); omega), by omega, (by (try delta Hid at *); omega), by omega, by omega⟩))))) | exact Or.inl ⟨(fun q => by (try delta Hid at *); omega), by omega⟩ | exact Or.inr (Or.inl ⟨(by (try delta Hid at *); omega), by omega, by omega⟩) | exact Or.inr (Or.inr (Or.inl ⟨(by (try delta Hid at *); omega), by omega, by omega, (fun q => by (try delta Hid at *); omega), by omega⟩)) | exact Or.inr (Or.inr (Or.inr (Or.inl ⟨(by (try delta Hid at *); omega), by omega, (by (try delta Hid at *); omega), by omega, by omega⟩))) | exact Or.inr (Or.inr (Or.inr (Or.inr (⟨(by (try delta Hid at *); omega), by omega, (by (try delta Hid at *); omega), by omega, by omega⟩))))), fun _ => ⟨rfl, rfl⟩, fun q => (by exfalso; omega)⟩

set_option maxHeartbeats 4000000 in
set_option maxRecDepth 100000 in
theorem c_X8_refer (l : Launch) (D : va_G) (tc : Nat → ClassId) (base : Nat) (ad : Nat → Int → Nat) (cnt : Nat → Int) (X : Nat → Int → Int → Int) (Y : Nat → Int → Int → Option Int) (ln : Int → Int) (hR : Rng X) (hFx : Fx cnt) (hLn : LnOK ln) (hCI : CInv cnt X Y ln) (x k y : Int) (hx : -2147483648 ≤ x ∧ x ≤ 2147483647) (hk : -2147483648 ≤ k ∧ k ≤ 2147483647) (hy : -2147483648 ≤ y ∧ y ≤ 2147483647) : KI l D tc base yX8_refer wsX8_refer ({ frames := 4, cells := 0, slots := 0, locals := 92 } : Room) [.ref (ad 0 0), .int (jI x), .int (jI k), .int (jI y)] (ad, cnt, X, Y, ln) 0 0 (fun z u => ∃ (X1 : Nat → Int → Int → Int) (Y1 : Nat → Int → Int → Option Int), u = (ad, cnt, X1, Y1, ln) ∧ Rng X1 ∧ Frm [2802, 2803, 2902, 1600] X X1 ∧ Frm [2801, 2804] Y Y1 ∧ CInv cnt X1 Y1 ln ∧ (-2147483648 ≤ z ∧ z ≤ 2147483647) ∧ ((¬ ((0 ≤ x ∧ x < X 0 0 3 ∧ 0 ≤ k ∧ k < X 19 (tyo (Y 15 x 0)) 1) ∧ (y = -1 ∨ (0 ≤ y ∧ y < X 0 0 3))) ∧ z = -1) ∨ ((0 ≤ x ∧ x < X 0 0 3 ∧ 0 ≤ k ∧ k < X 19 (tyo (Y 15 x 0)) 1) ∧ (y = -1 ∨ (0 ≤ y ∧ y < X 0 0 3)) ∧ X 21 (tyo (Y 15 x 0)) k ≠ 2 ∧ z = -14) ∨ ((0 ≤ x ∧ x < X 0 0 3 ∧ 0 ≤ k ∧ k < X 19 (tyo (Y 15 x 0)) 1) ∧ (y = -1 ∨ (0 ≤ y ∧ y < X 0 0 3)) ∧ X 21 (tyo (Y 15 x 0)) k = 2 ∧ 80 ≤ X 29 0 1 ∧ z = -4) ∨ ((0 ≤ x ∧ x < X 0 0 3 ∧ 0 ≤ k ∧ k < X 19 (tyo (Y 15 x 0)) 1) ∧ (y = -1 ∨ (0 ≤ y ∧ y < X 0 0 3)) ∧ X 21 (tyo (Y 15 x 0)) k = 2 ∧ X 29 0 1 ≤ 79 ∧ z = 1)) ∧ (z < 0 → X1 = X ∧ Y1 = Y) ∧ (z = 1 → eNoteC X X1 Y Y1 (some x) k (X 16 x k) (Y 17 x k) ∧ X1 16 x k = y ∧ (∀ p j, ¬ (p = x ∧ j = k) → X1 16 p j = X 16 p j) ∧ ∀ p j, Y1 17 p j = Y 17 p j)) := by
  refine K_of (cc := cX8_refer) (maxL := 5) (ret := (some .int)) (by decide) rfl (Nat.le_of_ble_eq_true rfl) ?_
  intro p e s m below meth c ls hx hb hr hml hown hts hlocks hl hK hw hS
  have hown : s.vm.findClass RX8 = some m.cls := hown
  obtain ⟨av9, hav9⟩ : ∃ a9 : Array Value, a9 = ([.ref (ad 0 0), .int (jI x), .int (jI k), .int (jI y)] : List Value).toArray := ⟨_, rfl⟩
  rw [← hav9] at hts ⊢
  obtain ⟨Q9, hQ9⟩ : ∃ q9Q : State → Prop, q9Q = MQ below (QI D tc base (fun z u => ∃ (X1 : Nat → Int → Int → Int) (Y1 : Nat → Int → Int → Option Int), u = (ad, cnt, X1, Y1, ln) ∧ Rng X1 ∧ Frm [2802, 2803, 2902, 1600] X X1 ∧ Frm [2801, 2804] Y Y1 ∧ CInv cnt X1 Y1 ln ∧ (-2147483648 ≤ z ∧ z ≤ 2147483647) ∧ ((¬ ((0 ≤ x ∧ x < X 0 0 3 ∧ 0 ≤ k ∧ k < X 19 (tyo (Y 15 x 0)) 1) ∧ (y = -1 ∨ (0 ≤ y ∧ y < X 0 0 3))) ∧ z = -1) ∨ ((0 ≤ x ∧ x < X 0 0 3 ∧ 0 ≤ k ∧ k < X 19 (tyo (Y 15 x 0)) 1) ∧ (y = -1 ∨ (0 ≤ y ∧ y < X 0 0 3)) ∧ X 21 (tyo (Y 15 x 0)) k ≠ 2 ∧ z = -14) ∨ ((0 ≤ x ∧ x < X 0 0 3 ∧ 0 ≤ k ∧ k < X 19 (tyo (Y 15 x 0)) 1) ∧ (y = -1 ∨ (0 ≤ y ∧ y < X 0 0 3)) ∧ X 21 (tyo (Y 15 x 0)) k = 2 ∧ 80 ≤ X 29 0 1 ∧ z = -4) ∨ ((0 ≤ x ∧ x < X 0 0 3 ∧ 0 ≤ k ∧ k < X 19 (tyo (Y 15 x 0)) 1) ∧ (y = -1 ∨ (0 ≤ y ∧ y < X 0 0 3)) ∧ X 21 (tyo (Y 15 x 0)) k = 2 ∧ X 29 0 1 ≤ 79 ∧ z = 1)) ∧ (z < 0 → X1 = X ∧ Y1 = Y) ∧ (z = 1 → eNoteC X X1 Y Y1 (some x) k (X 16 x k) (Y 17 x k) ∧ X1 16 x k = y ∧ (∀ p j, ¬ (p = x ∧ j = k) → X1 16 p j = X 16 p j) ∧ ∀ p j, Y1 17 p j = Y 17 p j))) av9 s 0 0 (frA base) := ⟨_, rfl⟩
  rw [← hQ9]
  have hi6 : ∀ w ∈ wsX60, w ∈ wsX8_refer := fun w h => List.mem_cons_of_mem _ (List.mem_append_left _ (List.mem_append_left _ (List.mem_append_left _ (List.mem_append_right _ h))))
  have hf6 : fctx s m _ RX8 wsX8_refer D tc RX6 TX6 4 6 := ⟨hts, hi6, hown, hK.1, rfl⟩
  have hi7 : ∀ w ∈ wsX70, w ∈ wsX8_refer := fun w h => List.mem_cons_of_mem _ (List.mem_append_left _ (List.mem_append_left _ (List.mem_append_right _ h)))
  have hf7 : fctx s m _ RX8 wsX8_refer D tc RX7 TX7 8 7 := ⟨hts, hi7, hown, hK.1, rfl⟩
  have hi8 : ∀ w ∈ wsX80, w ∈ wsX8_refer := fun w h => List.mem_cons_of_mem _ (List.mem_append_left _ (List.mem_append_left _ (List.mem_append_left _ (List.mem_append_left _ (List.mem_append_right _ h)))))
  have hf8 : fctx s m _ RX8 wsX8_refer D tc RX8 TX8 12 8 := ⟨hts, hi8, hown, hK.1, rfl⟩
  have lk94 := hts (.fieldLink RX8 94 (TX8 3).1 (TX8 3).2.1 (TX8 3).2.2.1) (gj_X8_refer_0 _ (gp_h))
  have lk97 := hts (.fieldLink RX8 97 (TX6 0).1 (TX6 0).2.1 (TX6 0).2.2.1) (gj_X8_refer_0 _ (gp_1 gp_h))
  have lk135 := hts (.fieldLink RX8 135 (TX7 3).1 (TX7 3).2.1 (TX7 3).2.2.1) (gj_X8_refer_0 _ (gp_1 (gp_1 gp_h)))
  have hc0 : cnt 0 = 1 := hFx.at 0 1 (by decide)
  have hc15 : cnt 15 = 30 := hFx.at 15 30 (by decide)
  have hc21 : cnt 21 = cnt 19 := hFx.2.1 21 (by decide)
  have hl : lv_has ls 5 [(0, .ref (ad 0 0)), (1, .int (jI x)), (2, .int (jI k)), (3, .int (jI y))] := hl
  have ftc : 0 ≤ X 0 0 3 ∧ X 0 0 3 ≤ 30 := hR 0 0 3
  have fty : 0 ≤ X 0 0 1 ∧ X 0 0 1 ≤ 8 := hR 0 0 1
  have hct : cnt 19 = X 0 0 1 := hCI.2.2.2.1.1
  have hfj : 0 ≤ X 29 0 3 ∧ X 29 0 3 ≤ 4 := hR 29 0 3
  have hfn : 0 ≤ X 29 0 1 ∧ X 29 0 1 ≤ 80 := hR 29 0 1
  refine lv_aload_n hx hb dX8_refer_0 rfl (lv_at hl 0 rfl) ?_
  refine lv_iload_n hx hb dX8_refer_1 rfl (lv_at hl 1 rfl) ?_
  refine lv_iload_n hx hb dX8_refer_2 rfl (lv_at hl 2 rfl) ?_
  refine gos_r (run_V (As := [.int (jI x), .int (jI k)]) (rest := []) hx hb hml hown hts (c_X8_thingWithField l D tc base ad cnt X Y ln hR hFx hLn hCI x k (by omega) (by omega)) (cwV 2 hts gX8_refer_X8_thingWithField rfl rfl rfl (by first | exact hd_X8_thingWithField | decide +kernel) ⟨Nat.le_of_ble_eq_true rfl, Nat.le_of_ble_eq_true rfl⟩) hK hw (by first | exact Int.le_refl 0 | omega) (by first | exact zlt hc0 | omega) sl_0_0 rfl rfl hl.1 rfl (Nat.le_of_ble_eq_true rfl) dX8_refer_3 ⟨Nat.le_of_ble_eq_true rfl, Nat.le_of_ble_eq_true rfl⟩) hS (fun u2 H locs p3 hw hS => ?_) (fun z1 u2 H locs p3 hw hS => ?_)
  · obtain ⟨eu2, hsp3, hnp3⟩ := p3
    subst eu2
    refine lv_astoreN (lv' := [(4, .null), (0, .ref (ad 0 0)), (1, .int (jI x)), (2, .int (jI k)), (3, .int (jI y))]) hx hb dX8_refer_6 hl (by decide) rfl (fun ls hl => ?_)
    refine lv_aloadN hx hb dX8_refer_8 (lv_at hl 0 rfl) ?_
    refine lv_ifnullN (tgt := 29) hx hb dX8_refer_10 (by decide) ?_
    refine lv_iconst (v := jI (-1)) hx hb dX8_refer_29 rfl ?_
    rw [hQ9]
    refine ret_i (mc := 0) (ms := 0) hx hb hr hlocks hw hS (by first | exact Nat.le_of_ble_eq_true rfl | omega) (by first | exact Nat.le_of_ble_eq_true rfl | omega) dX8_refer_30 ?_
    have h9n4 : ¬ (0 ≤ x ∧ x < X 0 0 3 ∧ 0 ≤ k ∧ k < X 19 (tyo (Y 15 x 0)) 1) := hnp3 rfl
    exact ⟨X, Y, rfl, hR, Frm.rf, Frm.rf, hCI, by omega, (by exact Or.inl ⟨(fun q => by (try delta Hid at *); omega), by omega⟩), fun _ => ⟨rfl, rfl⟩, fun q => (by exfalso; omega)⟩
  · obtain ⟨eu2, hsp3, hnp3⟩ := p3
    subst eu2
    obtain ⟨ezz1, p3, h1p3, h2p3, h3p3, h4p3, h5p3⟩ := hsp3 z1 rfl
    refine lv_astore (lv' := [(4, .ref (ad 15 z1)), (0, .ref (ad 0 0)), (1, .int (jI x)), (2, .int (jI k)), (3, .int (jI y))]) hx hb dX8_refer_6 hl (by decide) rfl (fun ls hl => ?_)
    refine lv_aload hx hb dX8_refer_8 (lv_at hl 0 rfl) ?_
    refine lv_ifnull hx hb dX8_refer_10 ?_
    refine lv_iload_n hx hb dX8_refer_13 rfl (lv_at hl 4 rfl) ?_
    refine lv_iconst (v := jI (-1)) hx hb dX8_refer_14 rfl ?_
    refine x_icmp_eq (tgt := 31) hx hb (by omega) (by omega) dX8_refer_15 (by decide) (fun c5 => ?_) (fun c5 => ?_)
    · refine lv_aload hx hb dX8_refer_31 (lv_at hl 0 rfl) ?_
      refine x_getr (jz := 0) hx hb hf6 hw (by omega) (by omega) sl_15_0 rfl lk97 dX8_refer_33 (fun y6 => ?_) (fun r7 y6 gr7 lr7 => ?_)
      · exfalso
        exact absurd y6 (hCI.2.2.2.2.1 z1 (by omega) (by omega))
      · refine x_geto hx hb hf7 hw (by omega) (by omega) sl_19_3 lk135 dX8_refer_36 ?_
        refine lv_iload_n hx hb dX8_refer_39 rfl (lv_at hl 3 rfl) ?_
        refine x_iald hx hb hK.1 hw (by omega) (by omega) ar_21 (len_E ar_21 (by first | exact Nat.ne_of_beq_eq_false rfl | decide)) (by omega) (by omega) (by omega) dX8_refer_40 ?_
        have f8 : 0 ≤ X 21 r7 k ∧ X 21 r7 k ≤ 5 := hR 21 r7 k
        refine lv_iconst (v := jI 2) hx hb dX8_refer_41 rfl ?_
        refine x_icmp_eq (tgt := 50) hx hb (by omega) (by omega) dX8_refer_42 (by decide) (fun c9 => ?_) (fun c9 => ?_)
        · refine lv_aload_n hx hb dX8_refer_50 rfl (lv_at hl 1 rfl) ?_
          refine lv_aload hx hb dX8_refer_51 (lv_at hl 0 rfl) ?_
          refine lv_iload_n hx hb dX8_refer_53 rfl (lv_at hl 3 rfl) ?_
          refine lv_iload_n hx hb dX8_refer_54 rfl (lv_at hl 4 rfl) ?_
          refine x_i2l hx hb (by omega) dX8_refer_55 ?_
          refine gos_i (run_V (As := [.ref (ad 15 z1), .int (jI k), .long (jL y)]) (rest := []) hx hb hml hown hts (c_X8_changeValue l D tc base ad cnt X Y ln hR hFx hLn hCI z1 k y (by omega) (by omega) (by omega)) (cwV 3 hts gX8_refer_X8_changeValue rfl rfl rfl (by first | exact hd_X8_changeValue | decide +kernel) ⟨Nat.le_of_ble_eq_true rfl, Nat.le_of_ble_eq_true rfl⟩) hK hw (by first | exact Int.le_refl 0 | omega) (by first | exact zlt hc0 | omega) sl_0_0 rfl rfl hl.1 rfl (Nat.le_of_ble_eq_true rfl) dX8_refer_56 ⟨Nat.le_of_ble_eq_true rfl, Nat.le_of_ble_eq_true rfl⟩) hS (fun z10 u11 H locs p12 hw hS => ?_)
          obtain ⟨X13, Y14, eu11, hRX13, hG15, hJ16, hCIX13, p12, hcvX13⟩ := p12
          subst eu11
          have hFX13 : Frm [2802, 2803, 2902, 1600] X X13 := Frm.tr Frm.rf (Frm.mono hG15 (by first | exact nls_of rfl | decide))
          have hHY14 : Frm [2801, 2804] Y Y14 := Frm.tr Frm.rf (Frm.mono hJ16 (by first | exact nls_of rfl | decide))
          rw [hQ9]
          refine ret_i (mc := 0) (ms := 0) hx hb hr hlocks hw hS (by first | exact Nat.le_of_ble_eq_true rfl | omega) (by first | exact Nat.le_of_ble_eq_true rfl | omega) dX8_refer_59 ?_
          have hT17 : tyo (Y 15 x 0) = r7 := by rw [← ezz1]; exact tyo_some y6
          have hk18 : k < X 19 r7 1 := h5p3 r7 (by rw [← ezz1]; exact y6)
          rcases hcvX13 with ⟨c1, c2, c3, c4⟩ | ⟨c1, c2, c3, c4, c5, c6⟩
          · exact ⟨X13, Y14, rfl, hRX13, hFX13, hHY14, hCIX13, by omega, (by rw [hT17]; first | (have h9z : (z10 : Int) = -1 := (by omega); exact Or.inl ⟨(fun q => by (try delta Hid at *); omega), by omega⟩) | (have h9z : (z10 : Int) = -14 := (by omega); exact Or.inr (Or.inl ⟨(by (try delta Hid at *); omega), (by (try delta Hid at *); omega), by omega, by omega⟩)) | (have h9z : (z10 : Int) = -4 := (by omega); exact Or.inr (Or.inr (Or.inl ⟨(by (try delta Hid at *); omega), (by (try delta Hid at *); omega), by omega, by omega, by omega⟩))) | (have h9z : (z10 : Int) = 1 := (by omega); exact Or.inr (Or.inr (Or.inr (⟨(by (try delta Hid at *); omega), (by (try delta Hid at *); omega), by omega, by omega, by omega⟩)))) | exact Or.inl ⟨(fun q => by (try delta Hid at *); omega), by omega⟩ | exact Or.inr (Or.inl ⟨(by (try delta Hid at *); omega), (by (try delta Hid at *); omega), by omega, by omega⟩) | exact Or.inr (Or.inr (Or.inl ⟨(by (try delta Hid at *); omega), (by (try delta Hid at *); omega), by omega, by omega, by omega⟩)) | exact Or.inr (Or.inr (Or.inr (⟨(by (try delta Hid at *); omega), (by (try delta Hid at *); omega), by omega, by omega, by omega⟩)))), fun _ => ⟨c3, c4⟩, fun q => (by exfalso; omega)⟩
          · exact ⟨X13, Y14, rfl, hRX13, hFX13, hHY14, hCIX13, by omega, (by rw [hT17]; first | (have h9z : (z10 : Int) = -1 := (by omega); exact Or.inl ⟨(fun q => by (try delta Hid at *); omega), by omega⟩) | (have h9z : (z10 : Int) = -14 := (by omega); exact Or.inr (Or.inl ⟨(by (try delta Hid at *); omega), (by (try delta Hid at *); omega), by omega, by omega⟩)) | (have h9z : (z10 : Int) = -4 := (by omega); exact Or.inr (Or.inr (Or.inl ⟨(by (try delta Hid at *); omega), (by (try delta Hid at *); omega), by omega, by omega, by omega⟩))) | (have h9z : (z10 : Int) = 1 := (by omega); exact Or.inr (Or.inr (Or.inr (⟨(by (try delta Hid at *); omega), (by (try delta Hid at *); omega), by omega, by omega, by omega⟩)))) | exact Or.inl ⟨(fun q => by (try delta Hid at *); omega), by omega⟩ | exact Or.inr (Or.inl ⟨(by (try delta Hid at *); omega), (by (try delta Hid at *); omega), by omega, by omega⟩) | exact Or.inr (Or.inr (Or.inl ⟨(by (try delta Hid at *); omega), (by (try delta Hid at *); omega), by omega, by omega, by omega⟩)) | exact Or.inr (Or.inr (Or.inr (⟨(by (try delta Hid at *); omega), (by (try delta Hid at *); omega), by omega, by omega, by omega⟩)))), fun q => (by exfalso; omega), fun _ => (by rw [← ezz1]; exact ⟨c3, c4, c5, c6⟩)⟩
        · refine lv_iconst (v := jI 4) hx hb dX8_refer_45 rfl ?_
          refine gos_i (run_S (As := [.int (jI 4)]) (rest := []) hx hb hml hown hts (c_X8_failed l D tc base ad cnt X Y ln 4 (by omega)) (cwS 1 hts gX8_refer_X8_failed rfl rfl rfl (by first | exact hd_X8_failed | decide +kernel) ⟨Nat.le_of_ble_eq_true rfl, Nat.le_of_ble_eq_true rfl⟩) hK hw rfl hl.1 rfl (Nat.le_of_ble_eq_true rfl) dX8_refer_46 ⟨Nat.le_of_ble_eq_true rfl, Nat.le_of_ble_eq_true rfl⟩) hS (fun z19 u20 H locs p21 hw hS => ?_)
          obtain ⟨eu20, p21⟩ := p21
          subst eu20
          rw [hQ9]
          refine ret_i (mc := 0) (ms := 0) hx hb hr hlocks hw hS (by first | exact Nat.le_of_ble_eq_true rfl | omega) (by first | exact Nat.le_of_ble_eq_true rfl | omega) dX8_refer_49 ?_
          have hT22 : tyo (Y 15 x 0) = r7 := by rw [← ezz1]; exact tyo_some y6
          have hk23 : k < X 19 r7 1 := h5p3 r7 (by rw [← ezz1]; exact y6)
          exact ⟨X, Y, rfl, hR, Frm.rf, Frm.rf, hCI, by omega, (by rw [hT22]; first | (have h9z : (z19 : Int) = -1 := (by omega); exact Or.inl ⟨(fun q => by (try delta Hid at *); omega), by omega⟩) | (have h9z : (z19 : Int) = -14 := (by omega); exact Or.inr (Or.inl ⟨(by (try delta Hid at *); omega), (by (try delta Hid at *); omega), by omega, by omega⟩)) | (have h9z : (z19 : Int) = -4 := (by omega); exact Or.inr (Or.inr (Or.inl ⟨(by (try delta Hid at *); omega), (by (try delta Hid at *); omega), by omega, by omega, by omega⟩))) | (have h9z : (z19 : Int) = 1 := (by omega); exact Or.inr (Or.inr (Or.inr (⟨(by (try delta Hid at *); omega), (by (try delta Hid at *); omega), by omega, by omega, by omega⟩)))) | exact Or.inl ⟨(fun q => by (try delta Hid at *); omega), by omega⟩ | exact Or.inr (Or.inl ⟨(by (try delta Hid at *); omega), (by (try delta Hid at *); omega), by omega, by omega⟩) | exact Or.inr (Or.inr (Or.inl ⟨(by (try delta Hid at *); omega), (by (try delta Hid at *); omega), by omega, by omega, by omega⟩)) | exact Or.inr (Or.inr (Or.inr (⟨(by (try delta Hid at *); omega), (by (try delta Hid at *); omega), by omega, by omega, by omega⟩)))), fun _ => ⟨rfl, rfl⟩, fun q => (by exfalso; omega)⟩
    · refine lv_iload_n hx hb dX8_refer_18 rfl (lv_at hl 4 rfl) ?_
      refine lv_aload_n hx hb dX8_refer_19 rfl (lv_at hl 1 rfl) ?_
      refine x_geti (jz := 3) hx hb hf8 hw (by first | exact Int.le_refl 0 | omega) (by first | exact zlt hc0 | omega) sl_0_3 rfl lk94 dX8_refer_20 ?_
      have f24 : 0 ≤ X 0 0 3 ∧ X 0 0 3 ≤ 30 := hR 0 0 3
      refine gos_i (run_S (As := [.int (jI y), .int (jI (X 0 0 3))]) (rest := []) hx hb hml hown hts (c_X8_isBelow l D tc base ad cnt X Y ln y (X 0 0 3) (by omega) (by omega)) (cwS 2 hts gX8_refer_X8_isBelow rfl rfl rfl (by first | exact hd_X8_isBelow | decide +kernel) ⟨Nat.le_of_ble_eq_true rfl, Nat.le_of_ble_eq_true rfl⟩) hK hw rfl hl.1 rfl (Nat.le_of_ble_eq_true rfl) dX8_refer_23 ⟨Nat.le_of_ble_eq_true rfl, Nat.le_of_ble_eq_true rfl⟩) hS (fun z25 u26 H locs p27 hw hS => ?_)
      obtain ⟨eu26, p27⟩ := p27
      subst eu26
      rcases p27 with ⟨ez25, p27⟩ | ⟨ez25, p27⟩
      · subst ez25
        refine x_if_neT (tgt := 31) hx hb (by omega) (by decide) dX8_refer_26 (by decide) ?_
        refine lv_aload hx hb dX8_refer_31 (lv_at hl 0 rfl) ?_
        refine x_getr (jz := 0) hx hb hf6 hw (by omega) (by omega) sl_15_0 rfl lk97 dX8_refer_33 (fun y28 => ?_) (fun r29 y28 gr29 lr29 => ?_)
        · exfalso
          exact absurd y28 (hCI.2.2.2.2.1 z1 (by omega) (by omega))
        · refine x_geto hx hb hf7 hw (by omega) (by omega) sl_19_3 lk135 dX8_refer_36 ?_
          refine lv_iload_n hx hb dX8_refer_39 rfl (lv_at hl 3 rfl) ?_
          refine x_iald hx hb hK.1 hw (by omega) (by omega) ar_21 (len_E ar_21 (by first | exact Nat.ne_of_beq_eq_false rfl | decide)) (by omega) (by omega) (by omega) dX8_refer_40 ?_
          have f30 : 0 ≤ X 21 r29 k ∧ X 21 r29 k ≤ 5 := hR 21 r29 k
          refine lv_iconst (v := jI 2) hx hb dX8_refer_41 rfl ?_
          refine x_icmp_eq (tgt := 50) hx hb (by omega) (by omega) dX8_refer_42 (by decide) (fun c31 => ?_) (fun c31 => ?_)
          · refine lv_aload_n hx hb dX8_refer_50 rfl (lv_at hl 1 rfl) ?_
            refine lv_aload hx hb dX8_refer_51 (lv_at hl 0 rfl) ?_
            refine lv_iload_n hx hb dX8_refer_53 rfl (lv_at hl 3 rfl) ?_
            refine lv_iload_n hx hb dX8_refer_54 rfl (lv_at hl 4 rfl) ?_
            refine x_i2l hx hb (by omega) dX8_refer_55 ?_
            refine gos_i (run_V (As := [.ref (ad 15 z1), .int (jI k), .long (jL y)]) (rest := []) hx hb hml hown hts (c_X8_changeValue l D tc base ad cnt X Y ln hR hFx hLn hCI z1 k y (by omega) (by omega) (by omega)) (cwV 3 hts gX8_refer_X8_changeValue rfl rfl rfl (by first | exact hd_X8_changeValue | decide +kernel) ⟨Nat.le_of_ble_eq_true rfl, Nat.le_of_ble_eq_true rfl⟩) hK hw (by first | exact Int.le_refl 0 | omega) (by first | exact zlt hc0 | omega) sl_0_0 rfl rfl hl.1 rfl (Nat.le_of_ble_eq_true rfl) dX8_refer_56 ⟨Nat.le_of_ble_eq_true rfl, Nat.le_of_ble_eq_true rfl⟩) hS (fun z32 u33 H locs p34 hw hS => ?_)
            obtain ⟨X35, Y36, eu33, hRX35, hG37, hJ38, hCIX35, p34, hcvX35⟩ := p34
            subst eu33
            have hFX35 : Frm [2802, 2803, 2902, 1600] X X35 := Frm.tr Frm.rf (Frm.mono hG37 (by first | exact nls_of rfl | decide))
            have hHY36 : Frm [2801, 2804] Y Y36 := Frm.tr Frm.rf (Frm.mono hJ38 (by first | exact nls_of rfl | decide))
            rw [hQ9]
            refine ret_i (mc := 0) (ms := 0) hx hb hr hlocks hw hS (by first | exact Nat.le_of_ble_eq_true rfl | omega) (by first | exact Nat.le_of_ble_eq_true rfl | omega) dX8_refer_59 ?_
            have hT39 : tyo (Y 15 x 0) = r29 := by rw [← ezz1]; exact tyo_some y28
            have hk40 : k < X 19 r29 1 := h5p3 r29 (by rw [← ezz1]; exact y28)
            rcases hcvX35 with ⟨c1, c2, c3, c4⟩ | ⟨c1, c2, c3, c4, c5, c6⟩
            · exact ⟨X35, Y36, rfl, hRX35, hFX35, hHY36, hCIX35, by omega, (by rw [hT39]; first | (have h9z : (z32 : Int) = -1 := (by omega); exact Or.inl ⟨(fun q => by (try delta Hid at *); omega), by omega⟩) | (have h9z : (z32 : Int) = -14 := (by omega); exact Or.inr (Or.inl ⟨(by (try delta Hid at *); omega), (by (try delta Hid at *); omega), by omega, by omega⟩)) | (have h9z : (z32 : Int) = -4 := (by omega); exact Or.inr (Or.inr (Or.inl ⟨(by (try delta Hid at *); omega), (by (try delta Hid at *); omega), by omega, by omega, by omega⟩))) | (have h9z : (z32 : Int) = 1 := (by omega); exact Or.inr (Or.inr (Or.inr (⟨(by (try delta Hid at *); omega), (by (try delta Hid at *); omega), by omega, by omega, by omega⟩)))) | exact Or.inl ⟨(fun q => by (try delta Hid at *); omega), by omega⟩ | exact Or.inr (Or.inl ⟨(by (try delta Hid at *); omega), (by (try delta Hid at *); omega), by omega, by omega⟩) | exact Or.inr (Or.inr (Or.inl ⟨(by (try delta Hid at *); omega), (by (try delta Hid at *); omega), by omega, by omega, by omega⟩)) | exact Or.inr (Or.inr (Or.inr (⟨(by (try delta Hid at *); omega), (by (try delta Hid at *); omega), by omega, by omega, by omega⟩)))), fun _ => ⟨c3, c4⟩, fun q => (by exfalso; omega)⟩
            · exact ⟨X35, Y36, rfl, hRX35, hFX35, hHY36, hCIX35, by omega, (by rw [hT39]; first | (have h9z : (z32 : Int) = -1 := (by omega); exact Or.inl ⟨(fun q => by (try delta Hid at *); omega), by omega⟩) | (have h9z : (z32 : Int) = -14 := (by omega); exact Or.inr (Or.inl ⟨(by (try delta Hid at *); omega), (by (try delta Hid at *); omega), by omega, by omega⟩)) | (have h9z : (z32 : Int) = -4 := (by omega); exact Or.inr (Or.inr (Or.inl ⟨(by (try delta Hid at *); omega), (by (try delta Hid at *); omega), by omega, by omega, by omega⟩))) | (have h9z : (z32 : Int) = 1 := (by omega); exact Or.inr (Or.inr (Or.inr (⟨(by (try delta Hid at *); omega), (by (try delta Hid at *); omega), by omega, by omega, by omega⟩)))) | exact Or.inl ⟨(fun q => by (try delta Hid at *); omega), by omega⟩ | exact Or.inr (Or.inl ⟨(by (try delta Hid at *); omega), (by (try delta Hid at *); omega), by omega, by omega⟩) | exact Or.inr (Or.inr (Or.inl ⟨(by (try delta Hid at *); omega), (by (try delta Hid at *); omega), by omega, by omega, by omega⟩)) | exact Or.inr (Or.inr (Or.inr (⟨(by (try delta Hid at *); omega), (by (try delta Hid at *); omega), by omega, by omega, by omega⟩)))), fun q => (by exfalso; omega), fun _ => (by rw [← ezz1]; exact ⟨c3, c4, c5, c6⟩)⟩
          · refine lv_iconst (v := jI 4) hx hb dX8_refer_45 rfl ?_
            refine gos_i (run_S (As := [.int (jI 4)]) (rest := []) hx hb hml hown hts (c_X8_failed l D tc base ad cnt X Y ln 4 (by omega)) (cwS 1 hts gX8_refer_X8_failed rfl rfl rfl (by first | exact hd_X8_failed | decide +kernel) ⟨Nat.le_of_ble_eq_true rfl, Nat.le_of_ble_eq_true rfl⟩) hK hw rfl hl.1 rfl (Nat.le_of_ble_eq_true rfl) dX8_refer_46 ⟨Nat.le_of_ble_eq_true rfl, Nat.le_of_ble_eq_true rfl⟩) hS (fun z41 u42 H locs p43 hw hS => ?_)
            obtain ⟨eu42, p43⟩ := p43
            subst eu42
            rw [hQ9]
            refine ret_i (mc := 0) (ms := 0) hx hb hr hlocks hw hS (by first | exact Nat.le_of_ble_eq_true rfl | omega) (by first | exact Nat.le_of_ble_eq_true rfl | omega) dX8_refer_49 ?_
            have hT44 : tyo (Y 15 x 0) = r29 := by rw [← ezz1]; exact tyo_some y28
            have hk45 : k < X 19 r29 1 := h5p3 r29 (by rw [← ezz1]; exact y28)
            exact ⟨X, Y, rfl, hR, Frm.rf, Frm.rf, hCI, by omega, (by rw [hT44]; first | (have h9z : (z41 : Int) = -1 := (by omega); exact Or.inl ⟨(fun q => by (try delta Hid at *); omega), by omega⟩) | (have h9z : (z41 : Int) = -14 := (by omega); exact Or.inr (Or.inl ⟨(by (try delta Hid at *); omega), (by (try delta Hid at *); omega), by omega, by omega⟩)) | (have h9z : (z41 : Int) = -4 := (by omega); exact Or.inr (Or.inr (Or.inl ⟨(by (try delta Hid at *); omega), (by (try delta Hid at *); omega), by omega, by omega, by omega⟩))) | (have h9z : (z41 : Int) = 1 := (by omega); exact Or.inr (Or.inr (Or.inr (⟨(by (try delta Hid at *); omega), (by (try delta Hid at *); omega), by omega, by omega, by omega⟩)))) | exact Or.inl ⟨(fun q => by (try delta Hid at *); omega), by omega⟩ | exact Or.inr (Or.inl ⟨(by (try delta Hid at *); omega), (by (try delta Hid at *); omega), by omega, by omega⟩) | exact Or.inr (Or.inr (Or.inl ⟨(by (try delta Hid at *); omega), (by (try delta Hid at *); omega), by omega, by omega, by omega⟩)) | exact Or.inr (Or.inr (Or.inr (⟨(by (try delta Hid at *); omega), (by (try delta Hid at *); omega), by omega, by omega, by omega⟩)))), fun _ => ⟨rfl, rfl⟩, fun q => (by exfalso; omega)⟩
      · subst ez25
        refine x_if_neF (tgt := 31) hx hb (by omega) (by decide) dX8_refer_26 (by decide) ?_
        refine lv_iconst (v := jI (-1)) hx hb dX8_refer_29 rfl ?_
        rw [hQ9]
        refine ret_i (mc := 0) (ms := 0) hx hb hr hlocks hw hS (by first | exact Nat.le_of_ble_eq_true rfl | omega) (by first | exact Nat.le_of_ble_eq_true rfl | omega) dX8_refer_30 ?_
        exact ⟨X, Y, rfl, hR, Frm.rf, Frm.rf, hCI, by omega, (by exact Or.inl ⟨(fun q => by (try delta Hid at *); omega), by omega⟩), fun _ => ⟨rfl, rfl⟩, fun q => (by exfalso; omega)⟩

set_option maxHeartbeats 4000000 in
set_option maxRecDepth 100000 in
theorem c_X8_share (l : Launch) (D : va_G) (tc : Nat → ClassId) (base : Nat) (ad : Nat → Int → Nat) (cnt : Nat → Int) (X : Nat → Int → Int → Int) (Y : Nat → Int → Int → Option Int) (ln : Int → Int) (hR : Rng X) (hFx : Fx cnt) (hLn : LnOK ln) (hCI : CInv cnt X Y ln) (x k y j : Int) (hx : -2147483648 ≤ x ∧ x ≤ 2147483647) (hk : -2147483648 ≤ k ∧ k ≤ 2147483647) (hy : -2147483648 ≤ y ∧ y ≤ 2147483647) (hj : -2147483648 ≤ j ∧ j ≤ 2147483647) : KI l D tc base yX8_share wsX8_share ({ frames := 4, cells := 0, slots := 0, locals := 91 } : Room) [.ref (ad 0 0), .int (jI x), .int (jI k), .int (jI y), .int (jI j)] (ad, cnt, X, Y, ln) 0 0 (fun z u => ∃ (X1 : Nat → Int → Int → Int) (Y1 : Nat → Int → Int → Option Int), u = (ad, cnt, X1, Y1, ln) ∧ Rng X1 ∧ Frm [2802, 2803, 2902] X X1 ∧ Frm [2801, 2804, 1700] Y Y1 ∧ CInv cnt X1 Y1 ln ∧ (-2147483648 ≤ z ∧ z ≤ 2147483647) ∧ ((¬ ((0 ≤ x ∧ x < X 0 0 3 ∧ 0 ≤ k ∧ k < X 19 (tyo (Y 15 x 0)) 1) ∧ (0 ≤ y ∧ y < X 0 0 3 ∧ 0 ≤ j ∧ j < X 19 (tyo (Y 15 y 0)) 1)) ∧ z = -1) ∨ (((0 ≤ x ∧ x < X 0 0 3 ∧ 0 ≤ k ∧ k < X 19 (tyo (Y 15 x 0)) 1) ∧ (0 ≤ y ∧ y < X 0 0 3 ∧ 0 ≤ j ∧ j < X 19 (tyo (Y 15 y 0)) 1)) ∧ (X 21 (tyo (Y 15 x 0)) k < 3 ∨ X 21 (tyo (Y 15 x 0)) k ≠ X 21 (tyo (Y 15 y 0)) j) ∧ z = -14) ∨ (((0 ≤ x ∧ x < X 0 0 3 ∧ 0 ≤ k ∧ k < X 19 (tyo (Y 15 x 0)) 1) ∧ (0 ≤ y ∧ y < X 0 0 3 ∧ 0 ≤ j ∧ j < X 19 (tyo (Y 15 y 0)) 1)) ∧ 3 ≤ X 21 (tyo (Y 15 x 0)) k ∧ X 21 (tyo (Y 15 x 0)) k = X 21 (tyo (Y 15 y 0)) j ∧ 80 ≤ X 29 0 1 ∧ z = -4) ∨ (((0 ≤ x ∧ x < X 0 0 3 ∧ 0 ≤ k ∧ k < X 19 (tyo (Y 15 x 0)) 1) ∧ (0 ≤ y ∧ y < X 0 0 3 ∧ 0 ≤ j ∧ j < X 19 (tyo (Y 15 y 0)) 1)) ∧ 3 ≤ X 21 (tyo (Y 15 x 0)) k ∧ X 21 (tyo (Y 15 x 0)) k = X 21 (tyo (Y 15 y 0)) j ∧ X 29 0 1 ≤ 79 ∧ z = 1)) ∧ (z < 0 → X1 = X ∧ Y1 = Y) ∧ (z = 1 → eNoteC X X1 Y Y1 (some x) k (X 16 x k) (Y 17 x k) ∧ Y1 17 x k = Y 17 y j ∧ (∀ p q, ¬ (p = x ∧ q = k) → Y1 17 p q = Y 17 p q) ∧ ∀ p q, X1 16 p q = X 16 p q)) := by
  refine K_of (cc := cX8_share) (maxL := 8) (ret := (some .int)) (by decide) rfl (Nat.le_of_ble_eq_true rfl) ?_
  intro p e s m below meth c ls hx hb hr hml hown hts hlocks hl hK hw hS
  have hown : s.vm.findClass RX8 = some m.cls := hown
  obtain ⟨av9, hav9⟩ : ∃ a9 : Array Value, a9 = ([.ref (ad 0 0), .int (jI x), .int (jI k), .int (jI y), .int (jI j)] : List Value).toArray := ⟨_, rfl⟩
  rw [← hav9] at hts ⊢
  obtain ⟨Q9, hQ9⟩ : ∃ q9Q : State → Prop, q9Q = MQ below (QI D tc base (fun z u => ∃ (X1 : Nat → Int → Int → Int) (Y1 : Nat → Int → Int → Option Int), u = (ad, cnt, X1, Y1, ln) ∧ Rng X1 ∧ Frm [2802, 2803, 2902] X X1 ∧ Frm [2801, 2804, 1700] Y Y1 ∧ CInv cnt X1 Y1 ln ∧ (-2147483648 ≤ z ∧ z ≤ 2147483647) ∧ ((¬ ((0 ≤ x ∧ x < X 0 0 3 ∧ 0 ≤ k ∧ k < X 19 (tyo (Y 15 x 0)) 1) ∧ (0 ≤ y ∧ y < X 0 0 3 ∧ 0 ≤ j ∧ j < X 19 (tyo (Y 15 y 0)) 1)) ∧ z = -1) ∨ (((0 ≤ x ∧ x < X 0 0 3 ∧ 0 ≤ k ∧ k < X 19 (tyo (Y 15 x 0)) 1) ∧ (0 ≤ y ∧ y < X 0 0 3 ∧ 0 ≤ j ∧ j < X 19 (tyo (Y 15 y 0)) 1)) ∧ (X 21 (tyo (Y 15 x 0)) k < 3 ∨ X 21 (tyo (Y 15 x 0)) k ≠ X 21 (tyo (Y 15 y 0)) j) ∧ z = -14) ∨ (((0 ≤ x ∧ x < X 0 0 3 ∧ 0 ≤ k ∧ k < X 19 (tyo (Y 15 x 0)) 1) ∧ (0 ≤ y ∧ y < X 0 0 3 ∧ 0 ≤ j ∧ j < X 19 (tyo (Y 15 y 0)) 1)) ∧ 3 ≤ X 21 (tyo (Y 15 x 0)) k ∧ X 21 (tyo (Y 15 x 0)) k = X 21 (tyo (Y 15 y 0)) j ∧ 80 ≤ X 29 0 1 ∧ z = -4) ∨ (((0 ≤ x ∧ x < X 0 0 3 ∧ 0 ≤ k ∧ k < X 19 (tyo (Y 15 x 0)) 1) ∧ (0 ≤ y ∧ y < X 0 0 3 ∧ 0 ≤ j ∧ j < X 19 (tyo (Y 15 y 0)) 1)) ∧ 3 ≤ X 21 (tyo (Y 15 x 0)) k ∧ X 21 (tyo (Y 15 x 0)) k = X 21 (tyo (Y 15 y 0)) j ∧ X 29 0 1 ≤ 79 ∧ z = 1)) ∧ (z < 0 → X1 = X ∧ Y1 = Y) ∧ (z = 1 → eNoteC X X1 Y Y1 (some x) k (X 16 x k) (Y 17 x k) ∧ Y1 17 x k = Y 17 y j ∧ (∀ p q, ¬ (p = x ∧ q = k) → Y1 17 p q = Y 17 p q) ∧ ∀ p q, X1 16 p q = X 16 p q))) av9 s 0 0 (frA base) := ⟨_, rfl⟩
  rw [← hQ9]
  have hi6 : ∀ w ∈ wsX60, w ∈ wsX8_share := fun w h => List.mem_cons_of_mem _ (List.mem_append_left _ (List.mem_append_left _ (List.mem_append_left _ (List.mem_append_left _ (List.mem_append_right _ h)))))
  have hf6 : fctx s m _ RX8 wsX8_share D tc RX6 TX6 4 6 := ⟨hts, hi6, hown, hK.1, rfl⟩
  have hi7 : ∀ w ∈ wsX70, w ∈ wsX8_share := fun w h => List.mem_cons_of_mem _ (List.mem_append_left _ (List.mem_append_left _ (List.mem_append_left _ (List.mem_append_right _ h))))
  have hf7 : fctx s m _ RX8 wsX8_share D tc RX7 TX7 8 7 := ⟨hts, hi7, hown, hK.1, rfl⟩
  have lk97 := hts (.fieldLink RX8 97 (TX6 0).1 (TX6 0).2.1 (TX6 0).2.2.1) (gj_X8_share_0 _ (gp_h))
  have lk135 := hts (.fieldLink RX8 135 (TX7 3).1 (TX7 3).2.1 (TX7 3).2.2.1) (gj_X8_share_0 _ (gp_1 gp_h))
  have lk158 := hts (.fieldLink RX8 158 (TX6 2).1 (TX6 2).2.1 (TX6 2).2.2.1) (gj_X8_share_0 _ (gp_1 (gp_1 gp_h)))
  have hc0 : cnt 0 = 1 := hFx.at 0 1 (by decide)
  have hc15 : cnt 15 = 30 := hFx.at 15 30 (by decide)
  have hc17 : cnt 17 = 30 := hFx.at 17 30 (by decide)
  have hc21 : cnt 21 = cnt 19 := hFx.2.1 21 (by decide)
  have hl : lv_has ls 8 [(0, .ref (ad 0 0)), (1, .int (jI x)), (2, .int (jI k)), (3, .int (jI y)), (4, .int (jI j))] := hl
  have ftc : 0 ≤ X 0 0 3 ∧ X 0 0 3 ≤ 30 := hR 0 0 3
  have fty : 0 ≤ X 0 0 1 ∧ X 0 0 1 ≤ 8 := hR 0 0 1
  have hct : cnt 19 = X 0 0 1 := hCI.2.2.2.1.1
  have hfj : 0 ≤ X 29 0 3 ∧ X 29 0 3 ≤ 4 := hR 29 0 3
  have hfn : 0 ≤ X 29 0 1 ∧ X 29 0 1 ≤ 80 := hR 29 0 1
  refine lv_aload_n hx hb dX8_share_0 rfl (lv_at hl 0 rfl) ?_
  refine lv_iload_n hx hb dX8_share_1 rfl (lv_at hl 1 rfl) ?_
  refine lv_iload_n hx hb dX8_share_2 rfl (lv_at hl 2 rfl) ?_
  refine gos_r (run_V (As := [.int (jI x), .int (jI k)]) (rest := []) hx hb hml hown hts (c_X8_thingWithField l D tc base ad cnt X Y ln hR hFx hLn hCI x k (by omega) (by omega)) (cwV 2 hts gX8_share_X8_thingWithField rfl rfl rfl (by first | exact hd_X8_thingWithField | decide +kernel) ⟨Nat.le_of_ble_eq_true rfl, Nat.le_of_ble_eq_true rfl⟩) hK hw (by first | exact Int.le_refl 0 | omega) (by first | exact zlt hc0 | omega) sl_0_0 rfl rfl hl.1 rfl (Nat.le_of_ble_eq_true rfl) dX8_share_3 ⟨Nat.le_of_ble_eq_true rfl, Nat.le_of_ble_eq_true rfl⟩) hS (fun u2 H locs p3 hw hS => ?_) (fun z1 u2 H locs p3 hw hS => ?_)
  · obtain ⟨eu2, hsp3, hnp3⟩ := p3
    subst eu2
    refine lv_astoreN (lv' := [(5, .null), (0, .ref (ad 0 0)), (1, .int (jI x)), (2, .int (jI k)), (3, .int (jI y)), (4, .int (jI j))]) hx hb dX8_share_6 hl (by decide) rfl (fun ls hl => ?_)
    refine lv_aload_n hx hb dX8_share_8 rfl (lv_at hl 1 rfl) ?_
    refine lv_iload_n hx hb dX8_share_9 rfl (lv_at hl 4 rfl) ?_
    refine lv_iload hx hb dX8_share_10 (lv_at hl 5 rfl) ?_
    refine gos_r (run_V (As := [.int (jI y), .int (jI j)]) (rest := []) hx hb hml hown hts (c_X8_thingWithField l D tc base ad cnt X Y ln hR hFx hLn hCI y j (by omega) (by omega)) (cwV 2 hts gX8_share_X8_thingWithField rfl rfl rfl (by first | exact hd_X8_thingWithField | decide +kernel) ⟨Nat.le_of_ble_eq_true rfl, Nat.le_of_ble_eq_true rfl⟩) hK hw (by first | exact Int.le_refl 0 | omega) (by first | exact zlt hc0 | omega) sl_0_0 rfl rfl hl.1 rfl (Nat.le_of_ble_eq_true rfl) dX8_share_12 ⟨Nat.le_of_ble_eq_true rfl, Nat.le_of_ble_eq_true rfl⟩) hS (fun u5 H locs p6 hw hS => ?_) (fun z4 u5 H locs p6 hw hS => ?_)
    · obtain ⟨eu5, hsp6, hnp6⟩ := p6
      subst eu5
      refine lv_astoreN (lv' := [(6, .null), (5, .null), (0, .ref (ad 0 0)), (1, .int (jI x)), (2, .int (jI k)), (3, .int (jI y)), (4, .int (jI j))]) hx hb dX8_share_15 hl (by decide) rfl (fun ls hl => ?_)
      refine lv_aloadN hx hb dX8_share_17 (lv_at hl 1 rfl) ?_
      refine lv_ifnullN (tgt := 27) hx hb dX8_share_19 (by decide) ?_
      refine lv_iconst (v := jI (-1)) hx hb dX8_share_27 rfl ?_
      rw [hQ9]
      refine ret_i (mc := 0) (ms := 0) hx hb hr hlocks hw hS (by first | exact Nat.le_of_ble_eq_true rfl | omega) (by first | exact Nat.le_of_ble_eq_true rfl | omega) dX8_share_28 ?_
      have h9n7 : ¬ (0 ≤ x ∧ x < X 0 0 3 ∧ 0 ≤ k ∧ k < X 19 (tyo (Y 15 x 0)) 1) := hnp3 rfl
      have h9n8 : ¬ (0 ≤ y ∧ y < X 0 0 3 ∧ 0 ≤ j ∧ j < X 19 (tyo (Y 15 y 0)) 1) := hnp6 rfl
      exact ⟨X, Y, rfl, hR, Frm.rf, Frm.rf, hCI, by omega, (by exact Or.inl ⟨(fun q => by (try delta Hid at *); omega), by omega⟩), fun _ => ⟨rfl, rfl⟩, fun q => (by exfalso; omega)⟩
    · obtain ⟨eu5, hsp6, hnp6⟩ := p6
      subst eu5
      obtain ⟨ezz4, p6, h1p6, h2p6, h3p6, h4p6, h5p6⟩ := hsp6 z4 rfl
      refine lv_astore (lv' := [(6, .ref (ad 15 z4)), (5, .null), (0, .ref (ad 0 0)), (1, .int (jI x)), (2, .int (jI k)), (3, .int (jI y)), (4, .int (jI j))]) hx hb dX8_share_15 hl (by decide) rfl (fun ls hl => ?_)
      refine lv_aloadN hx hb dX8_share_17 (lv_at hl 1 rfl) ?_
      refine lv_ifnullN (tgt := 27) hx hb dX8_share_19 (by decide) ?_
      refine lv_iconst (v := jI (-1)) hx hb dX8_share_27 rfl ?_
      rw [hQ9]
      refine ret_i (mc := 0) (ms := 0) hx hb hr hlocks hw hS (by first | exact Nat.le_of_ble_eq_true rfl | omega) (by first | exact Nat.le_of_ble_eq_true rfl | omega) dX8_share_28 ?_
      have h9n9 : ¬ (0 ≤ x ∧ x < X 0 0 3 ∧ 0 ≤ k ∧ k < X 19 (tyo (Y 15 x 0)) 1) := hnp3 rfl
      obtain ⟨r10, y11⟩ := Option.ne_none_iff_exists'.mp (hCI.2.2.2.2.1 z4 (by omega) (by omega))
      have hT12 : tyo (Y 15 y 0) = r10 := by rw [← ezz4]; exact tyo_some y11
      have hk13 : j < X 19 r10 1 := h5p6 r10 (by rw [← ezz4]; exact y11)
      exact ⟨X, Y, rfl, hR, Frm.rf, Frm.rf, hCI, by omega, (by rw [hT12]; exact Or.inl ⟨(fun q => by (try delta Hid at *); omega), by omega⟩), fun _ => ⟨rfl, rfl⟩, fun q => (by exfalso; omega)⟩
  · obtain ⟨eu2, hsp3, hnp3⟩ := p3
    subst eu2
    obtain ⟨ezz1, p3, h1p3, h2p3, h3p3, h4p3, h5p3⟩ := hsp3 z1 rfl
    refine lv_astore (lv' := [(5, .ref (ad 15 z1)), (0, .ref (ad 0 0)), (1, .int (jI x)), (2, .int (jI k)), (3, .int (jI y)), (4, .int (jI j))]) hx hb dX8_share_6 hl (by decide) rfl (fun ls hl => ?_)
    refine lv_aload_n hx hb dX8_share_8 rfl (lv_at hl 1 rfl) ?_
    refine lv_iload_n hx hb dX8_share_9 rfl (lv_at hl 4 rfl) ?_
    refine lv_iload hx hb dX8_share_10 (lv_at hl 5 rfl) ?_
    refine gos_r (run_V (As := [.int (jI y), .int (jI j)]) (rest := []) hx hb hml hown hts (c_X8_thingWithField l D tc base ad cnt X Y ln hR hFx hLn hCI y j (by omega) (by omega)) (cwV 2 hts gX8_share_X8_thingWithField rfl rfl rfl (by first | exact hd_X8_thingWithField | decide +kernel) ⟨Nat.le_of_ble_eq_true rfl, Nat.le_of_ble_eq_true rfl⟩) hK hw (by first | exact Int.le_refl 0 | omega) (by first | exact zlt hc0 | omega) sl_0_0 rfl rfl hl.1 rfl (Nat.le_of_ble_eq_true rfl) dX8_share_12 ⟨Nat.le_of_ble_eq_true rfl, Nat.le_of_ble_eq_true rfl⟩) hS (fun u15 H locs p16 hw hS => ?_) (fun z14 u15 H locs p16 hw hS => ?_)
    · obtain ⟨eu15, hsp16, hnp16⟩ := p16
      subst eu15
      refine lv_astoreN (lv' := [(6, .null), (5, .ref (ad 15 z1)), (0, .ref (ad 0 0)), (1, .int (jI x)), (2, .int (jI k)), (3, .int (jI y)), (4, .int (jI j))]) hx hb dX8_share_15 hl (by decide) rfl (fun ls hl => ?_)
      refine lv_aload hx hb dX8_share_17 (lv_at hl 1 rfl) ?_
      refine lv_ifnull hx hb dX8_share_19 ?_
      refine lv_aloadN hx hb dX8_share_22 (lv_at hl 0 rfl) ?_
      refine lv_ifnonnullN hx hb dX8_share_24 ?_
      refine lv_iconst (v := jI (-1)) hx hb dX8_share_27 rfl ?_
      rw [hQ9]
      refine ret_i (mc := 0) (ms := 0) hx hb hr hlocks hw hS (by first | exact Nat.le_of_ble_eq_true rfl | omega) (by first | exact Nat.le_of_ble_eq_true rfl | omega) dX8_share_28 ?_
      obtain ⟨r17, y18⟩ := Option.ne_none_iff_exists'.mp (hCI.2.2.2.2.1 z1 (by omega) (by omega))
      have hT19 : tyo (Y 15 x 0) = r17 := by rw [← ezz1]; exact tyo_some y18
      have hk20 : k < X 19 r17 1 := h5p3 r17 (by rw [← ezz1]; exact y18)
      have h9n21 : ¬ (0 ≤ y ∧ y < X 0 0 3 ∧ 0 ≤ j ∧ j < X 19 (tyo (Y 15 y 0)) 1) := hnp16 rfl
      exact ⟨X, Y, rfl, hR, Frm.rf, Frm.rf, hCI, by omega, (by rw [hT19]; exact Or.inl ⟨(fun q => by (try delta Hid at *); omega), by omega⟩), fun _ => ⟨rfl, rfl⟩, fun q => (by exfalso; omega)⟩
    · obtain ⟨eu15, hsp16, hnp16⟩ := p16
      subst eu15
      obtain ⟨ezz14, p16, h1p16, h2p16, h3p16, h4p16, h5p16⟩ := hsp16 z14 rfl
      refine lv_astore (lv' := [(6, .ref (ad 15 z14)), (5, .ref (ad 15 z1)), (0, .ref (ad 0 0)), (1, .int (jI x)), (2, .int (jI k)), (3, .int (jI y)), (4, .int (jI j))]) hx hb dX8_share_15 hl (by decide) rfl (fun ls hl => ?_)
      refine lv_aload hx hb dX8_share_17 (lv_at hl 1 rfl) ?_
      refine lv_ifnull hx hb dX8_share_19 ?_
      refine lv_aload hx hb dX8_share_22 (lv_at hl 0 rfl) ?_
      refine lv_ifnonnull (tgt := 29) hx hb dX8_share_24 (by decide) ?_
      refine lv_aload hx hb dX8_share_29 (lv_at hl 1 rfl) ?_
      refine x_getr (jz := 0) hx hb hf6 hw (by omega) (by omega) sl_15_0 rfl lk97 dX8_share_31 (fun y22 => ?_) (fun r23 y22 gr23 lr23 => ?_)
      · exfalso
        exact absurd y22 (hCI.2.2.2.2.1 z1 (by omega) (by omega))
      · refine x_geto hx hb hf7 hw (by omega) (by omega) sl_19_3 lk135 dX8_share_34 ?_
        refine lv_iload_n hx hb dX8_share_37 rfl (lv_at hl 4 rfl) ?_
        refine x_iald hx hb hK.1 hw (by omega) (by omega) ar_21 (len_E ar_21 (by first | exact Nat.ne_of_beq_eq_false rfl | decide)) (by omega) (by omega) (by omega) dX8_share_38 ?_
        have f24 : 0 ≤ X 21 r23 k ∧ X 21 r23 k ≤ 5 := hR 21 r23 k
        refine lv_istore (lv' := [(7, .int (jI (X 21 r23 k))), (6, .ref (ad 15 z14)), (5, .ref (ad 15 z1)), (0, .ref (ad 0 0)), (1, .int (jI x)), (2, .int (jI k)), (3, .int (jI y)), (4, .int (jI j))]) hx hb dX8_share_39 hl (by decide) rfl (fun ls hl => ?_)
        refine lv_iload hx hb dX8_share_41 (lv_at hl 0 rfl) ?_
        refine gos_i (run_S (As := [.int (jI (X 21 r23 k))]) (rest := []) hx hb hml hown hts (c_X8_isRowLane l D tc base ad cnt X Y ln (X 21 r23 k) (by omega)) (cwS 1 hts gX8_share_X8_isRowLane rfl rfl rfl (by first | exact hd_X8_isRowLane | decide +kernel) ⟨Nat.le_of_ble_eq_true rfl, Nat.le_of_ble_eq_true rfl⟩) hK hw rfl hl.1 rfl (Nat.le_of_ble_eq_true rfl) dX8_share_43 ⟨Nat.le_of_ble_eq_true rfl, Nat.le_of_ble_eq_true rfl⟩) hS (fun z25 u26 H locs p27 hw hS => ?_)
        obtain ⟨eu26, p27⟩ := p27
        subst eu26
        rcases p27 with ⟨ez25, p27⟩ | ⟨ez25, p27⟩
        · subst ez25
          refine x_if_eqF (tgt := 65) hx hb (by omega) (by decide) dX8_share_46 (by decide) ?_
          refine lv_aload hx hb dX8_share_49 (lv_at hl 1 rfl) ?_
          refine x_getr (jz := 0) hx hb hf6 hw (by omega) (by omega) sl_15_0 rfl lk97 dX8_share_51 (fun y28 => ?_) (fun r29 y28 gr29 lr29 => ?_)
          · exfalso
            exact absurd y28 (hCI.2.2.2.2.1 z14 (by omega) (by omega))
          · refine x_geto hx hb hf7 hw (by omega) (by omega) sl_19_3 lk135 dX8_share_54 ?_
            refine lv_iload hx hb dX8_share_57 (lv_at hl 7 rfl) ?_
            refine x_iald hx hb hK.1 hw (by omega) (by omega) ar_21 (len_E ar_21 (by first | exact Nat.ne_of_beq_eq_false rfl | decide)) (by omega) (by omega) (by omega) dX8_share_59 ?_
            have f30 : 0 ≤ X 21 r29 j ∧ X 21 r29 j ≤ 5 := hR 21 r29 j
            refine lv_iload hx hb dX8_share_60 (lv_at hl 0 rfl) ?_
            refine x_icmp_eq (tgt := 70) hx hb (by omega) (by omega) dX8_share_62 (by decide) (fun c31 => ?_) (fun c31 => ?_)
            · refine lv_aload_n hx hb dX8_share_70 rfl (lv_at hl 3 rfl) ?_
              refine lv_aload hx hb dX8_share_71 (lv_at hl 2 rfl) ?_
              refine lv_iload_n hx hb dX8_share_73 rfl (lv_at hl 5 rfl) ?_
              refine lv_aload hx hb dX8_share_74 (lv_at hl 1 rfl) ?_
              refine x_geto hx hb hf6 hw (by omega) (by omega) sl_15_2 lk158 dX8_share_76 ?_
              refine lv_iload hx hb dX8_share_79 (lv_at hl 7 rfl) ?_
              refine x_aald hx hb hK.1 hw (by omega) (by omega) ar_17 rfl (len_E ar_17 (by first | exact Nat.ne_of_beq_eq_false rfl | decide)) (by omega) (by omega) (by omega) dX8_share_81 (fun y32 => ?_) (fun r33 y32 gr33 lr33 => ?_)
              · refine gos_i (run_V (As := [.ref (ad 15 z1), .int (jI k), .null]) (rest := []) hx hb hml hown hts (c_X8_changeRow_n l D tc base ad cnt X Y ln hR hFx hLn hCI z1 k (by omega) (by omega)) (cwV 3 hts gX8_share_X8_changeRow rfl rfl rfl (by first | exact hd_X8_changeRow | decide +kernel) ⟨Nat.le_of_ble_eq_true rfl, Nat.le_of_ble_eq_true rfl⟩) hK hw (by first | exact Int.le_refl 0 | omega) (by first | exact zlt hc0 | omega) sl_0_0 rfl rfl hl.1 rfl (Nat.le_of_ble_eq_true rfl) dX8_share_82 ⟨Nat.le_of_ble_eq_true rfl, Nat.le_of_ble_eq_true rfl⟩) hS (fun z34 u35 H locs p36 hw hS => ?_)
                obtain ⟨X37, Y38, eu35, hRX37, hG39, hJ40, hCIX37, p36, hcvX37⟩ := p36
                subst eu35
                have hFX37 : Frm [2802, 2803, 2902] X X37 := Frm.tr Frm.rf (Frm.mono hG39 (by first | exact nls_of rfl | decide))
                have hHY38 : Frm [2801, 2804, 1700] Y Y38 := Frm.tr Frm.rf (Frm.mono hJ40 (by first | exact nls_of rfl | decide))
                rw [hQ9]
                refine ret_i (mc := 0) (ms := 0) hx hb hr hlocks hw hS (by first | exact Nat.le_of_ble_eq_true rfl | omega) (by first | exact Nat.le_of_ble_eq_true rfl | omega) dX8_share_85 ?_
                have hT41 : tyo (Y 15 x 0) = r23 := by rw [← ezz1]; exact tyo_some y22
                have hk42 : k < X 19 r23 1 := h5p3 r23 (by rw [← ezz1]; exact y22)
                have hT43 : tyo (Y 15 y 0) = r29 := by rw [← ezz14]; exact tyo_some y28
                have hk44 : j < X 19 r29 1 := h5p16 r29 (by rw [← ezz14]; exact y28)
                rcases hcvX37 with ⟨c1, c2, c3, c4⟩ | ⟨c1, c2, c3, c4, c5, c6⟩
                · exact ⟨X37, Y38, rfl, hRX37, hFX37, hHY38, hCIX37, by omega, (by rw [hT41, hT43]; first | (have h9z : (z34 : Int) = -1 := (by omega); exact Or.inl ⟨(fun q => by (try delta Hid at *); omega), by omega⟩) | (have h9z : (z34 : Int) = -14 := (by omega); exact Or.inr (Or.inl ⟨(by (try delta Hid at *); omega), (by (try delta Hid at *); omega), by omega⟩)) | (have h9z : (z34 : Int) = -4 := (by omega); exact Or.inr (Or.inr (Or.inl ⟨(by (try delta Hid at *); omega), by omega, by omega, (by (try delta Hid at *); omega), by omega⟩))) | (have h9z : (z34 : Int) = 1 := (by omega); exact Or.inr (Or.inr (Or.inr (⟨(by (try delta Hid at *); omega), by omega, by omega, (by (try delta Hid at *); omega), by omega⟩)))) | exact Or.inl ⟨(fun q => by (try delta Hid at *); omega), by omega⟩ | exact Or.inr (Or.inl ⟨(by (try delta Hid at *); omega), (by (try delta Hid at *); omega), by omega⟩) | exact Or.inr (Or.inr (Or.inl ⟨(by (try delta Hid at *); omega), by omega, by omega, (by (try delta Hid at *); omega), by omega⟩)) | exact Or.inr (Or.inr (Or.inr (⟨(by (try delta Hid at *); omega), by omega, by omega, (by (try delta Hid at *); omega), by omega⟩)))), fun _ => ⟨c3, c4⟩, fun q => (by exfalso; omega)⟩
                · exact ⟨X37, Y38, rfl, hRX37, hFX37, hHY38, hCIX37, by omega, (by rw [hT41, hT43]; first | (have h9z : (z34 : Int) = -1 := (by omega); exact Or.inl ⟨(fun q => by (try delta Hid at *); omega), by omega⟩) | (have h9z : (z34 : Int) = -14 := (by omega); exact Or.inr (Or.inl ⟨(by (try delta Hid at *); omega), (by (try delta Hid at *); omega), by omega⟩)) | (have h9z : (z34 : Int) = -4 := (by omega); exact Or.inr (Or.inr (Or.inl ⟨(by (try delta Hid at *); omega), by omega, by omega, (by (try delta Hid at *); omega), by omega⟩))) | (have h9z : (z34 : Int) = 1 := (by omega); exact Or.inr (Or.inr (Or.inr (⟨(by (try delta Hid at *); omega), by omega, by omega, (by (try delta Hid at *); omega), by omega⟩)))) | exact Or.inl ⟨(fun q => by (try delta Hid at *); omega), by omega⟩ | exact Or.inr (Or.inl ⟨(by (try delta Hid at *); omega), (by (try delta Hid at *); omega), by omega⟩) | exact Or.inr (Or.inr (Or.inl ⟨(by (try delta Hid at *); omega), by omega, by omega, (by (try delta Hid at *); omega), by omega⟩)) | exact Or.inr (Or.inr (Or.inr (⟨(by (try delta Hid at *); omega), by omega, by omega, (by (try delta Hid at *); omega), by omega⟩)))), fun q => (by exfalso; omega), fun _ => (by rw [← ezz1, ← ezz14, y32]; exact ⟨c3, c4, c5, c6⟩)⟩
              · refine gos_i (run_V (As := [.ref (ad 15 z1), .int (jI k), .ref (ad 26 r33)]) (rest := []) hx hb hml hown hts (c_X8_changeRow_r l D tc base ad cnt X Y ln hR hFx hLn hCI z1 k r33 (by omega) (by omega) (by omega)) (cwV 3 hts gX8_share_X8_changeRow rfl rfl rfl (by first | exact hd_X8_changeRow | decide +kernel) ⟨Nat.le_of_ble_eq_true rfl, Nat.le_of_ble_eq_true rfl⟩) hK hw (by first | exact Int.le_refl 0 | omega) (by first | exact zlt hc0 | omega) sl_0_0 rfl rfl hl.1 rfl (Nat.le_of_ble_eq_true rfl) dX8_share_82 ⟨Nat.le_of_ble_eq_true rfl, Nat.le_of_ble_eq_true rfl⟩) hS (fun z45 u46 H locs p47 hw hS => ?_)
                obtain ⟨X48, Y49, eu46, hRX48, hG50, hJ51, hCIX48, p47, hcvX48⟩ := p47
                subst eu46
                have hFX48 : Frm [2802, 2803, 2902] X X48 := Frm.tr Frm.rf (Frm.mono hG50 (by first | exact nls_of rfl | decide))
                have hHY49 : Frm [2801, 2804, 1700] Y Y49 := Frm.tr Frm.rf (Frm.mono hJ51 (by first | exact nls_of rfl | decide))
                rw [hQ9]
                refine ret_i (mc := 0) (ms := 0) hx hb hr hlocks hw hS (by first | exact Nat.le_of_ble_eq_true rfl | omega) (by first | exact Nat.le_of_ble_eq_true rfl | omega) dX8_share_85 ?_
                have hT52 : tyo (Y 15 x 0) = r23 := by rw [← ezz1]; exact tyo_some y22
                have hk53 : k < X 19 r23 1 := h5p3 r23 (by rw [← ezz1]; exact y22)
                have hT54 : tyo (Y 15 y 0) = r29 := by rw [← ezz14]; exact tyo_some y28
                have hk55 : j < X 19 r29 1 := h5p16 r29 (by rw [← ezz14]; exact y28)
                rcases hcvX48 with ⟨c1, c2, c3, c4⟩ | ⟨c1, c2, c3, c4, c5, c6⟩
                · exact ⟨X48, Y49, rfl, hRX48, hFX48, hHY49, hCIX48, by omega, (by rw [hT52, hT54]; first | (have h9z : (z45 : Int) = -1 := (by omega); exact Or.inl ⟨(fun q => by (try delta Hid at *); omega), by omega⟩) | (have h9z : (z45 : Int) = -14 := (by omega); exact Or.inr (Or.inl ⟨(by (try delta Hid at *); omega), (by (try delta Hid at *); omega), by omega⟩)) | (have h9z : (z45 : Int) = -4 := (by omega); exact Or.inr (Or.inr (Or.inl ⟨(by (try delta Hid at *); omega), by omega, by omega, (by (try delta Hid at *); omega), by omega⟩))) | (have h9z : (z45 : Int) = 1 := (by omega); exact Or.inr (Or.inr (Or.inr (⟨(by (try delta Hid at *); omega), by omega, by omega, (by (try delta Hid at *); omega), by omega⟩)))) | exact Or.inl ⟨(fun q => by (try delta Hid at *); omega), by omega⟩ | exact Or.inr (Or.inl ⟨(by (try delta Hid at *); omega), (by (try delta Hid at *); omega), by omega⟩) | exact Or.inr (Or.inr (Or.inl ⟨(by (try delta Hid at *); omega), by omega, by omega, (by (try delta Hid at *); omega), by omega⟩)) | exact Or.inr (Or.inr (Or.inr (⟨(by (try delta Hid at *); omega), by omega, by omega, (by (try delta Hid at *); omega), by omega⟩)))), fun _ => ⟨c3, c4⟩, fun q => (by exfalso; omega)⟩
                · exact ⟨X48, Y49, rfl, hRX48, hFX48, hHY49, hCIX48, by omega, (by rw [hT52, hT54]; first | (have h9z : (z45 : Int) = -1 := (by omega); exact Or.inl ⟨(fun q => by (try delta Hid at *); omega), by omega⟩) | (have h9z : (z45 : Int) = -14 := (by omega); exact Or.inr (Or.inl ⟨(by (try delta Hid at *); omega), (by (try delta Hid at *); omega), by omega⟩)) | (have h9z : (z45 : Int) = -4 := (by omega); exact Or.inr (Or.inr (Or.inl ⟨(by (try delta Hid at *); omega), by omega, by omega, (by (try delta Hid at *); omega), by omega⟩))) | (have h9z : (z45 : Int) = 1 := (by omega); exact Or.inr (Or.inr (Or.inr (⟨(by (try delta Hid at *); omega), by omega, by omega, (by (try delta Hid at *); omega), by omega⟩)))) | exact Or.inl ⟨(fun q => by (try delta Hid at *); omega), by omega⟩ | exact Or.inr (Or.inl ⟨(by (try delta Hid at *); omega), (by (try delta Hid at *); omega), by omega⟩) | exact Or.inr (Or.inr (Or.inl ⟨(by (try delta Hid at *); omega), by omega, by omega, (by (try delta Hid at *); omega), by omega⟩)) | exact Or.inr (Or.inr (Or.inr (⟨(by (try delta Hid at *); omega), by omega, by omega, (by (try delta Hid at *); omega), by omega⟩)))), fun q => (by exfalso; omega), fun _ => (by rw [← ezz1, ← ezz14, y32]; exact ⟨c3, c4, c5, c6⟩)⟩
            · refine lv_iconst (v := jI 4) hx hb dX8_share_65 rfl ?_
              refine gos_i (run_S (As := [.int (jI 4)]) (rest := []) hx hb hml hown hts (c_X8_failed l D tc base ad cnt X Y ln 4 (by omega)) (cwS 1 hts gX8_share_X8_failed rfl rfl rfl (by first | exact hd_X8_failed | decide +kernel) ⟨Nat.le_of_ble_eq_true rfl, Nat.le_of_ble_eq_true rfl⟩) hK hw rfl hl.1 rfl (Nat.le_of_ble_eq_true rfl) dX8_share_66 ⟨Nat.le_of_ble_eq_true rfl, Nat.le_of_ble_eq_true rfl⟩) hS (fun z56 u57 H locs p58 hw hS => ?_)
              obtain ⟨eu57, p58⟩ := p58
              subst eu57
              rw [hQ9]
              refine ret_i (mc := 0) (ms := 0) hx hb hr hlocks hw hS (by first | exact Nat.le_of_ble_eq_true rfl | omega) (by first | exact Nat.le_of_ble_eq_true rfl | omega) dX8_share_69 ?_
              have hT59 : tyo (Y 15 x 0) = r23 := by rw [← ezz1]; exact tyo_some y22
              have hk60 : k < X 19 r23 1 := h5p3 r23 (by rw [← ezz1]; exact y22)
              have hT61 : tyo (Y 15 y 0) = r29 := by rw [← ezz14]; exact tyo_some y28
              have hk62 : j < X 19 r29 1 := h5p16 r29 (by rw [← ezz14]; exact y28)
              exact ⟨X, Y, rfl, hR, Frm.rf, Frm.rf, hCI, by omega, (by rw [hT59, hT61]; first | (have h9z : (z56 : Int) = -1 := (by omega); exact Or.inl ⟨(fun q => by (try delta Hid at *); omega), by omega⟩) | (have h9z : (z56 : Int) = -14 := (by omega); exact Or.inr (Or.inl ⟨(by (try delta Hid at *); omega), (by (try delta Hid at *); omega), by omega⟩)) | (have h9z : (z56 : Int) = -4 := (by omega); exact Or.inr (Or.inr (Or.inl ⟨(by (try delta Hid at *); omega), by omega, by omega, (by (try delta Hid at *); omega), by omega⟩))) | (have h9z : (z56 : Int) = 1 := (by omega); exact Or.inr (Or.inr (Or.inr (⟨(by (try delta Hid at *); omega), by omega, by omega, (by (try delta Hid at *); omega), by omega⟩)))) | exact Or.inl ⟨(fun q => by (try delta Hid at *); omega), by omega⟩ | exact Or.inr (Or.inl ⟨(by (try delta Hid at *); omega), (by (try delta Hid at *); omega), by omega⟩) | exact Or.inr (Or.inr (Or.inl ⟨(by (try delta Hid at *); omega), by omega, by omega, (by (try delta Hid at *); omega), by omega⟩)) | exact Or.inr (Or.inr (Or.inr (⟨(by (try delta Hid at *); omega), by omega, by omega, (by (try delta Hid at *); omega), by omega⟩)))), fun _ => ⟨rfl, rfl⟩, fun q => (by exfalso; omega)⟩
        · subst ez25
          refine x_if_eqT (tgt := 65) hx hb (by omega) (by decide) dX8_share_46 (by decide) ?_
          refine lv_iconst (v := jI 4) hx hb dX8_share_65 rfl ?_
          refine gos_i (run_S (As := [.int (jI 4)]) (rest := []) hx hb hml hown hts (c_X8_failed l D tc base ad cnt X Y ln 4 (by omega)) (cwS 1 hts gX8_share_X8_failed rfl rfl rfl (by first | exact hd_X8_failed | decide +kernel) ⟨Nat.le_of_ble_eq_true rfl, Nat.le_of_ble_eq_true rfl⟩) hK hw rfl hl.1 rfl (Nat.le_of_ble_eq_true rfl) dX8_share_66 ⟨Nat.le_of_ble_eq_true rfl, Nat.le_of_ble_eq_true rfl⟩) hS (fun z63 u64 H locs p65 hw hS => ?_)
          obtain ⟨eu64, p65⟩ := p65
          subst eu64
          rw [hQ9]
          refine ret_i (mc := 0) (ms := 0) hx hb hr hlocks hw hS (by first | exact Nat.le_of_ble_eq_true rfl | omega) (by first | exact Nat.le_of_ble_eq_true rfl | omega) dX8_share_69 ?_
          have hT66 : tyo (Y 15 x 0) = r23 := by rw [← ezz1]; exact tyo_some y22
          have hk67 : k < X 19 r23 1 := h5p3 r23 (by rw [← ezz1]; exact y22)
          obtain ⟨r68, y69⟩ := Option.ne_none_iff_exists'.mp (hCI.2.2.2.2.1 z14 (by omega) (by omega))
          have hT70 : tyo (Y 15 y 0) = r68 := by rw [← ezz14]; exact tyo_some y69
          have hk71 : j < X 19 r68 1 := h5p16 r68 (by rw [← ezz14]; exact y69)
          exact ⟨X, Y, rfl, hR, Frm.rf, Frm.rf, hCI, by omega, (by rw [hT66, hT70]; first | (have h9z : (z63 : Int) = -1 := (by omega); exact Or.inl ⟨(fun q => by (try delta Hid at *); omega), by omega⟩) | (have h9z : (z63 : Int) = -14 := (by omega); exact Or.inr (Or.inl ⟨(by (try delta Hid at *); omega), (by (try delta Hid at *); omega), by omega⟩)) | (have h9z : (z63 : Int) = -4 := (by omega); exact Or.inr (Or.inr (Or.inl ⟨(by (try delta Hid at *); omega), by omega, by omega, (by (try delta Hid at *); omega), by omega⟩))) | (have h9z : (z63 : Int) = 1 := (by omega); exact Or.inr (Or.inr (Or.inr (⟨(by (try delta Hid at *); omega), by omega, by omega, (by (try delta Hid at *); omega), by omega⟩)))) | exact Or.inl ⟨(fun q => by (try delta Hid at *); omega), by omega⟩ | exact Or.inr (Or.inl ⟨(by (try delta Hid at *); omega), (by (try delta Hid at *); omega), by omega⟩) | exact Or.inr (Or.inr (Or.inl ⟨(by (try delta Hid at *); omega), by omega, by omega, (by (try delta Hid at *); omega), by omega⟩)) | exact Or.inr (Or.inr (Or.inr (⟨(by (try delta Hid at *); omega), by omega, by omega, (by (try delta Hid at *); omega), by omega⟩)))), fun _ => ⟨rfl, rfl⟩, fun q => (by exfalso; omega)⟩

set_option maxHeartbeats 4000000 in
set_option maxRecDepth 100000 in
theorem c_X8_item (l : Launch) (D : va_G) (tc : Nat → ClassId) (base : Nat) (ad : Nat → Int → Nat) (cnt : Nat → Int) (X : Nat → Int → Int → Int) (Y : Nat → Int → Int → Option Int) (ln : Int → Int) (hR : Rng X) (hFx : Fx cnt) (hLn : LnOK ln) (hCI : CInv cnt X Y ln) (x k i v : Int) (hx : -2147483648 ≤ x ∧ x ≤ 2147483647) (hk : -2147483648 ≤ k ∧ k ≤ 2147483647) (hi : -2147483648 ≤ i ∧ i ≤ 2147483647) (hv : -9223372036854775808 ≤ v ∧ v ≤ 9223372036854775807) : KI l D tc base yX8_item wsX8_item ({ frames := 3, cells := 0, slots := 0, locals := 68 } : Room) [.ref (ad 0 0), .int (jI x), .int (jI k), .int (jI i), .long (jL v)] (ad, cnt, X, Y, ln) 0 0 (fun z u => ∃ (X1 : Nat → Int → Int → Int) (Y1 : Nat → Int → Int → Option Int), u = (ad, cnt, X1, Y1, ln) ∧ Rng X1 ∧ Frm [2802, 2803, 2902, 2700] X X1 ∧ Frm [2801, 2804] Y Y1 ∧ CInv cnt X1 Y1 ln ∧ (-2147483648 ≤ z ∧ z ≤ 2147483647) ∧ ((¬ (0 ≤ x ∧ x < X 0 0 3 ∧ 0 ≤ k ∧ k < X 19 (tyo (Y 15 x 0)) 1) ∧ z = -1) ∨ ((0 ≤ x ∧ x < X 0 0 3 ∧ 0 ≤ k ∧ k < X 19 (tyo (Y 15 x 0)) 1) ∧ X 21 (tyo (Y 15 x 0)) k < 3 ∧ z = -14) ∨ ((0 ≤ x ∧ x < X 0 0 3 ∧ 0 ≤ k ∧ k < X 19 (tyo (Y 15 x 0)) 1) ∧ 3 ≤ X 21 (tyo (Y 15 x 0)) k ∧ (rlen ln (Y 17 x k) < 0) ∧ z = -11) ∨ ((0 ≤ x ∧ x < X 0 0 3 ∧ 0 ≤ k ∧ k < X 19 (tyo (Y 15 x 0)) 1) ∧ 3 ≤ X 21 (tyo (Y 15 x 0)) k ∧ ¬ (rlen ln (Y 17 x k) < 0) ∧ ¬ (0 ≤ i ∧ i < rlen ln (Y 17 x k)) ∧ z = -12) ∨ ((0 ≤ x ∧ x < X 0 0 3 ∧ 0 ≤ k ∧ k < X 19 (tyo (Y 15 x 0)) 1) ∧ 3 ≤ X 21 (tyo (Y 15 x 0)) k ∧ ¬ (rlen ln (Y 17 x k) < 0) ∧ (0 ≤ i ∧ i < rlen ln (Y 17 x k)) ∧ 80 ≤ X 29 0 1 ∧ z = -4) ∨ ((0 ≤ x ∧ x < X 0 0 3 ∧ 0 ≤ k ∧ k < X 19 (tyo (Y 15 x 0)) 1) ∧ 3 ≤ X 21 (tyo (Y 15 x 0)) k ∧ ¬ (rlen ln (Y 17 x k) < 0) ∧ (0 ≤ i ∧ i < rlen ln (Y 17 x k)) ∧ X 29 0 1 ≤ 79 ∧ z = 1)) ∧ (z < 0 → X1 = X ∧ Y1 = Y) ∧ (z = 1 → ∃ g, Y 17 x k = some g ∧ eNoteC X X1 Y Y1 none i (X 27 g i) (some g) ∧ X1 27 g i = cutZ (X 21 (tyo (Y 15 x 0)) k) v ∧ ∀ y j, ¬ (y = g ∧ j = i) → X1 27 y j = X 27 y j)) := by
  refine K_of (cc := cX8_item) (maxL := 9) (ret := (some .int)) (by decide) rfl (Nat.le_of_ble_eq_true rfl) ?_
  intro p e s m below meth c ls hx hb hr hml hown hts hlocks hl hK hw hS
  have hown : s.vm.findClass RX8 = some m.cls := hown
  obtain ⟨av9, hav9⟩ : ∃ a9 : Array Value, a9 = ([.ref (ad 0 0), .int (jI x), .int (jI k), .int (jI i), .long (jL v)] : List Value).toArray := ⟨_, rfl⟩
  rw [← hav9] at hts ⊢
  obtain ⟨Q9, hQ9⟩ : ∃ q9Q : State → Prop, q9Q = MQ below (QI D tc base (fun z u => ∃ (X1 : Nat → Int → Int → Int) (Y1 : Nat → Int → Int → Option Int), u = (ad, cnt, X1, Y1, ln) ∧ Rng X1 ∧ Frm [2802, 2803, 2902, 2700] X X1 ∧ Frm [2801, 2804] Y Y1 ∧ CInv cnt X1 Y1 ln ∧ (-2147483648 ≤ z ∧ z ≤ 2147483647) ∧ ((¬ (0 ≤ x ∧ x < X 0 0 3 ∧ 0 ≤ k ∧ k < X 19 (tyo (Y 15 x 0)) 1) ∧ z = -1) ∨ ((0 ≤ x ∧ x < X 0 0 3 ∧ 0 ≤ k ∧ k < X 19 (tyo (Y 15 x 0)) 1) ∧ X 21 (tyo (Y 15 x 0)) k < 3 ∧ z = -14) ∨ ((0 ≤ x ∧ x < X 0 0 3 ∧ 0 ≤ k ∧ k < X 19 (tyo (Y 15 x 0)) 1) ∧ 3 ≤ X 21 (tyo (Y 15 x 0)) k ∧ (rlen ln (Y 17 x k) < 0) ∧ z = -11) ∨ ((0 ≤ x ∧ x < X 0 0 3 ∧ 0 ≤ k ∧ k < X 19 (tyo (Y 15 x 0)) 1) ∧ 3 ≤ X 21 (tyo (Y 15 x 0)) k ∧ ¬ (rlen ln (Y 17 x k) < 0) ∧ ¬ (0 ≤ i ∧ i < rlen ln (Y 17 x k)) ∧ z = -12) ∨ ((0 ≤ x ∧ x < X 0 0 3 ∧ 0 ≤ k ∧ k < X 19 (tyo (Y 15 x 0)) 1) ∧ 3 ≤ X 21 (tyo (Y 15 x 0)) k ∧ ¬ (rlen ln (Y 17 x k) < 0) ∧ (0 ≤ i ∧ i < rlen ln (Y 17 x k)) ∧ 80 ≤ X 29 0 1 ∧ z = -4) ∨ ((0 ≤ x ∧ x < X 0 0 3 ∧ 0 ≤ k ∧ k < X 19 (tyo (Y 15 x 0)) 1) ∧ 3 ≤ X 21 (tyo (Y 15 x 0)) k ∧ ¬ (rlen ln (Y 17 x k) < 0) ∧ (0 ≤ i ∧ i < rlen ln (Y 17 x k)) ∧ X 29 0 1 ≤ 79 ∧ z = 1)) ∧ (z < 0 → X1 = X ∧ Y1 = Y) ∧ (z = 1 → ∃ g, Y 17 x k = some g ∧ eNoteC X X1 Y Y1 none i (X 27 g i) (some g) ∧ X1 27 g i = cutZ (X 21 (tyo (Y 15 x 0)) k) v ∧ ∀ y j, ¬ (y = g ∧ j = i) → X1 27 y j = X 27 y j))) av9 s 0 0 (frA base) := ⟨_, rfl⟩
  rw [← hQ9]
  have hi5 : ∀ w ∈ wsX50, w ∈ wsX8_item := fun w h => List.mem_cons_of_mem _ (List.mem_append_left _ (List.mem_append_left _ (List.mem_append_left _ (List.mem_append_right _ h))))
  have hf5 : fctx s m _ RX8 wsX8_item D tc RX5 TX5 2 5 := ⟨hts, hi5, hown, hK.1, rfl⟩
  have hi6 : ∀ w ∈ wsX60, w ∈ wsX8_item := fun w h => List.mem_cons_of_mem _ (List.mem_append_left _ (List.mem_append_left _ (List.mem_append_left _ (List.mem_append_left _ (List.mem_append_left _ (List.mem_append_right _ h))))))
  have hf6 : fctx s m _ RX8 wsX8_item D tc RX6 TX6 4 6 := ⟨hts, hi6, hown, hK.1, rfl⟩
  have hi7 : ∀ w ∈ wsX70, w ∈ wsX8_item := fun w h => List.mem_cons_of_mem _ (List.mem_append_left _ (List.mem_append_left _ (List.mem_append_left _ (List.mem_append_left _ (List.mem_append_right _ h)))))
  have hf7 : fctx s m _ RX8 wsX8_item D tc RX7 TX7 8 7 := ⟨hts, hi7, hown, hK.1, rfl⟩
  have hi8 : ∀ w ∈ wsX80, w ∈ wsX8_item := fun w h => List.mem_cons_of_mem _ (List.mem_append_left _ (List.mem_append_left _ (List.mem_append_right _ h)))
  have hf8 : fctx s m _ RX8 wsX8_item D tc RX8 TX8 12 8 := ⟨hts, hi8, hown, hK.1, rfl⟩
  have lk51 := hts (.fieldLink RX8 51 (TX8 10).1 (TX8 10).2.1 (TX8 10).2.2.1) (gj_X8_item_0 _ (gp_4 gp_h))
  have lk97 := hts (.fieldLink RX8 97 (TX6 0).1 (TX6 0).2.1 (TX6 0).2.2.1) (gj_X8_item_0 _ (gp_h))
  have lk135 := hts (.fieldLink RX8 135 (TX7 3).1 (TX7 3).2.1 (TX7 3).2.2.1) (gj_X8_item_0 _ (gp_1 gp_h))
  have lk158 := hts (.fieldLink RX8 158 (TX6 2).1 (TX6 2).2.1 (TX6 2).2.2.1) (gj_X8_item_0 _ (gp_1 (gp_1 gp_h)))
  have lk161 := hts (.fieldLink RX8 161 (TX5 0).1 (TX5 0).2.1 (TX5 0).2.2.1) (gj_X8_item_0 _ (gp_1 (gp_1 (gp_1 gp_h))))
  have hc0 : cnt 0 = 1 := hFx.at 0 1 (by decide)
  have hc15 : cnt 15 = 30 := hFx.at 15 30 (by decide)
  have hc17 : cnt 17 = 30 := hFx.at 17 30 (by decide)
  have hc21 : cnt 21 = cnt 19 := hFx.2.1 21 (by decide)
  have hc27 : cnt 27 = cnt 26 := hFx.2.2
  have hc29 : cnt 29 = 1 := hFx.at 29 1 (by decide)
  have hl : lv_has ls 9 [(0, .ref (ad 0 0)), (1, .int (jI x)), (2, .int (jI k)), (3, .int (jI i)), (4, .long (jL v))] := hl
  have ftc : 0 ≤ X 0 0 3 ∧ X 0 0 3 ≤ 30 := hR 0 0 3
  have fty : 0 ≤ X 0 0 1 ∧ X 0 0 1 ≤ 8 := hR 0 0 1
  have hct : cnt 19 = X 0 0 1 := hCI.2.2.2.1.1
  have hfj : 0 ≤ X 29 0 3 ∧ X 29 0 3 ≤ 4 := hR 29 0 3
  have hfn : 0 ≤ X 29 0 1 ∧ X 29 0 1 ≤ 80 := hR 29 0 1
  refine lv_aload_n hx hb dX8_item_0 rfl (lv_at hl 0 rfl) ?_
  refine lv_iload_n hx hb dX8_item_1 rfl (lv_at hl 1 rfl) ?_
  refine lv_iload_n hx hb dX8_item_2 rfl (lv_at hl 2 rfl) ?_
  refine gos_r (run_V (As := [.int (jI x), .int (jI k)]) (rest := []) hx hb hml hown hts (c_X8_thingWithField l D tc base ad cnt X Y ln hR hFx hLn hCI x k (by omega) (by omega)) (cwV 2 hts gX8_item_X8_thingWithField rfl rfl rfl (by first | exact hd_X8_thingWithField | decide +kernel) ⟨Nat.le_of_ble_eq_true rfl, Nat.le_of_ble_eq_true rfl⟩) hK hw (by first | exact Int.le_refl 0 | omega) (by first | exact zlt hc0 | omega) sl_0_0 rfl rfl hl.1 rfl (Nat.le_of_ble_eq_true rfl) dX8_item_3 ⟨Nat.le_of_ble_eq_true rfl, Nat.le_of_ble_eq_true rfl⟩) hS (fun u2 H locs p3 hw hS => ?_) (fun z1 u2 H locs p3 hw hS => ?_)
  · obtain ⟨eu2, hsp3, hnp3⟩ := p3
    subst eu2
    refine lv_astoreN (lv' := [(6, .null), (0, .ref (ad 0 0)), (1, .int (jI x)), (2, .int (jI k)), (3, .int (jI i)), (4, .long (jL v))]) hx hb dX8_item_6 hl (by decide) rfl (fun ls hl => ?_)
    refine lv_aloadN hx hb dX8_item_8 (lv_at hl 0 rfl) ?_
    refine lv_ifnonnullN hx hb dX8_item_10 ?_
    refine lv_iconst (v := jI (-1)) hx hb dX8_item_13 rfl ?_
    rw [hQ9]
    refine ret_i (mc := 0) (ms := 0) hx hb hr hlocks hw hS (by first | exact Nat.le_of_ble_eq_true rfl | omega) (by first | exact Nat.le_of_ble_eq_true rfl | omega) dX8_item_14 ?_
    have h9n4 : ¬ (0 ≤ x ∧ x < X 0 0 3 ∧ 0 ≤ k ∧ k < X 19 (tyo (Y 15 x 0)) 1) := hnp3 rfl
    exact ⟨X, Y, rfl, hR, Frm.rf, Frm.rf, hCI, by omega, (by exact Or.inl ⟨(fun q => by (try delta Hid at *); omega), (by (try delta Hid at *); omega)⟩), fun _ => ⟨rfl, rfl⟩, fun q => (by exfalso; omega)⟩
  · obtain ⟨eu2, hsp3, hnp3⟩ := p3
    subst eu2
    obtain ⟨ezz1, p3, h1p3, h2p3, h3p3, h4p3, h5p3⟩ := hsp3 z1 rfl
    refine lv_astore (lv' := [(6, .ref (ad 15 z1)), (0, .ref (ad 0 0)), (1, .int (jI x)), (2, .int (jI k)), (3, .int (jI i)), (4, .long (jL v))]) hx hb dX8_item_6 hl (by decide) rfl (fun ls hl => ?_)
    refine lv_aload hx hb dX8_item_8 (lv_at hl 0 rfl) ?_
    refine lv_ifnonnull (tgt := 15) hx hb dX8_item_10 (by decide) ?_
    refine lv_aload hx hb dX8_item_15 (lv_at hl 0 rfl) ?_
    refine x_getr (jz := 0) hx hb hf6 hw (by omega) (by omega) sl_15_0 rfl lk97 dX8_item_17 (fun y5 => ?_) (fun r6 y5 gr6 lr6 => ?_)
    · exfalso
      exact absurd y5 (hCI.2.2.2.2.1 z1 (by omega) (by omega))
    · refine x_geto hx hb hf7 hw (by omega) (by omega) sl_19_3 lk135 dX8_item_20 ?_
      refine lv_iload_n hx hb dX8_item_23 rfl (lv_at hl 3 rfl) ?_
      refine x_iald hx hb hK.1 hw (by omega) (by omega) ar_21 (len_E ar_21 (by first | exact Nat.ne_of_beq_eq_false rfl | decide)) (by omega) (by omega) (by omega) dX8_item_24 ?_
      have f7 : 0 ≤ X 21 r6 k ∧ X 21 r6 k ≤ 5 := hR 21 r6 k
      refine lv_istore (lv' := [(7, .int (jI (X 21 r6 k))), (6, .ref (ad 15 z1)), (0, .ref (ad 0 0)), (1, .int (jI x)), (2, .int (jI k)), (3, .int (jI i)), (4, .long (jL v))]) hx hb dX8_item_25 hl (by decide) rfl (fun ls hl => ?_)
      refine lv_iload hx hb dX8_item_27 (lv_at hl 0 rfl) ?_
      refine gos_i (run_S (As := [.int (jI (X 21 r6 k))]) (rest := []) hx hb hml hown hts (c_X8_isRowLane l D tc base ad cnt X Y ln (X 21 r6 k) (by omega)) (cwS 1 hts gX8_item_X8_isRowLane rfl rfl rfl (by first | exact hd_X8_isRowLane | decide +kernel) ⟨Nat.le_of_ble_eq_true rfl, Nat.le_of_ble_eq_true rfl⟩) hK hw rfl hl.1 rfl (Nat.le_of_ble_eq_true rfl) dX8_item_29 ⟨Nat.le_of_ble_eq_true rfl, Nat.le_of_ble_eq_true rfl⟩) hS (fun z8 u9 H locs p10 hw hS => ?_)
      obtain ⟨eu9, p10⟩ := p10
      subst eu9
      rcases p10 with ⟨ez8, p10⟩ | ⟨ez8, p10⟩
      · subst ez8
        refine x_if_neT (tgt := 40) hx hb (by omega) (by decide) dX8_item_32 (by decide) ?_
        refine lv_aload hx hb dX8_item_40 (lv_at hl 1 rfl) ?_
        refine x_geto hx hb hf6 hw (by omega) (by omega) sl_15_2 lk158 dX8_item_42 ?_
        refine lv_iload_n hx hb dX8_item_45 rfl (lv_at hl 4 rfl) ?_
        refine x_aald hx hb hK.1 hw (by omega) (by omega) ar_17 rfl (len_E ar_17 (by first | exact Nat.ne_of_beq_eq_false rfl | decide)) (by omega) (by omega) (by omega) dX8_item_46 (fun y11 => ?_) (fun r12 y11 gr12 lr12 => ?_)
        · refine lv_astoreN (lv' := [(8, .null), (7, .int (jI (X 21 r6 k))), (6, .ref (ad 15 z1)), (0, .ref (ad 0 0)), (1, .int (jI x)), (2, .int (jI k)), (3, .int (jI i)), (4, .long (jL v))]) hx hb dX8_item_47 hl (by decide) rfl (fun ls hl => ?_)
          refine lv_aloadN hx hb dX8_item_49 (lv_at hl 0 rfl) ?_
          refine lv_ifnonnullN hx hb dX8_item_51 ?_
          refine lv_iconst (v := jI 1) hx hb dX8_item_54 rfl ?_
          refine gos_i (run_S (As := [.int (jI 1)]) (rest := []) hx hb hml hown hts (c_X8_failed l D tc base ad cnt X Y ln 1 (by omega)) (cwS 1 hts gX8_item_X8_failed rfl rfl rfl (by first | exact hd_X8_failed | decide +kernel) ⟨Nat.le_of_ble_eq_true rfl, Nat.le_of_ble_eq_true rfl⟩) hK hw rfl hl.1 rfl (Nat.le_of_ble_eq_true rfl) dX8_item_55 ⟨Nat.le_of_ble_eq_true rfl, Nat.le_of_ble_eq_true rfl⟩) hS (fun z13 u14 H locs p15 hw hS => ?_)
          obtain ⟨eu14, p15⟩ := p15
          subst eu14
          rw [hQ9]
          refine ret_i (mc := 0) (ms := 0) hx hb hr hlocks hw hS (by first | exact Nat.le_of_ble_eq_true rfl | omega) (by first | exact Nat.le_of_ble_eq_true rfl | omega) dX8_item_58 ?_
          have hT16 : tyo (Y 15 x 0) = r6 := by rw [← ezz1]; exact tyo_some y5
          have hk17 : k < X 19 r6 1 := h5p3 r6 (by rw [← ezz1]; exact y5)
          have hL18 : rlen ln (Y 17 x k) = -1 := by rw [← ezz1, y11]; rfl
          exact ⟨X, Y, rfl, hR, Frm.rf, Frm.rf, hCI, by omega, (by rw [hT16, hL18]; first | (have h9z : (z13 : Int) = -1 := (by omega); exact Or.inl ⟨(fun q => by (try delta Hid at *); omega), (by (try delta Hid at *); omega)⟩) | (have h9z : (z13 : Int) = -14 := (by omega); exact Or.inr (Or.inl ⟨(by (try delta Hid at *); omega), (by (try delta Hid at *); omega), (by (try delta Hid at *); omega)⟩)) | (have h9z : (z13 : Int) = -11 := (by omega); exact Or.inr (Or.inr (Or.inl ⟨(by (try delta Hid at *); omega), (by (try delta Hid at *); omega), (by (try delta Hid at *); omega), (by (try delta Hid at *); omega)⟩))) | (have h9z : (z13 : Int) = -12 := (by omega); exact Or.inr (Or.inr (Or.inr (Or.inl ⟨(by (try delta Hid at *); omega), (by (try delta Hid at *); omega), (fun q => by (try delta Hid at *); omega), (fun q => by (try delta Hid at *); omega), (by (try delta Hid at *); omega)⟩)))) | (have h9z : (z13 : Int) = -4 := (by omega); exact Or.inr (Or.inr (Or.inr (Or.inr (Or.inl ⟨(by (try delta Hid at *); omega), (by (try delta Hid at *); omega), (fun q => by (try delta Hid at *); omega), (by (try delta Hid at *); omega), (by (try delta Hid at *); omega), (by (try delta Hid at *); omega)⟩))))) | (have h9z : (z13 : Int) = 1 := (by omega); exact Or.inr (Or.inr (Or.inr (Or.inr (Or.inr (⟨(by (try delta Hid at *); omega), (by (try delta Hid at *); omega), (fun q => by (try delta Hid at *); omega), (by (try delta Hid at *); omega), (by (try delta Hid at *); omega), (by (try delta Hid at *); omega)⟩)))))) | exact Or.inl ⟨(fun q => by (try delta Hid at *); omega), (by (try delta Hid at *); omega)⟩ | exact Or.inr (Or.inl ⟨(by (try delta Hid at *); omega), (by (try delta Hid at *); omega), (by (try delta Hid at *); omega)⟩) | exact Or.inr (Or.inr (Or.inl ⟨(by (try delta Hid at *); omega), (by (try delta Hid at *); omega), (by (try delta Hid at *); omega), (by (try delta Hid at *); omega)⟩)) | exact Or.inr (Or.inr (Or.inr (Or.inl ⟨(by (try delta Hid at *); omega), (by (try delta Hid at *); omega), (fun q => by (try delta Hid at *); omega), (fun q => by (try delta Hid at *); omega), (by (try delta Hid at *); omega)⟩))) | exact Or.inr (Or.inr (Or.inr (Or.inr (Or.inl ⟨(by (try delta Hid at *); omega), (by (try delta Hid at *); omega), (fun q => by (try delta Hid at *); omega), (by (try delta Hid at *); omega), (by (try delta Hid at *); omega), (by (try delta Hid at *); omega)⟩)))) | exact Or.inr (Or.inr (Or.inr (Or.inr (Or.inr (⟨(by (try delta Hid at *); omega), (by (try delta Hid at *); omega), (fun q => by (try delta Hid at *); omega), (by (try delta Hid at *); omega), (by (try delta Hid at *); omega), (by (try delta Hid at *); omega)⟩)))))), fun _ => ⟨rfl, rfl⟩, fun q => (by exfalso; omega)⟩
        · refine lv_astore (lv' := [(8, .ref (ad 26 r12)), (7, .int (jI (X 21 r6 k))), (6, .ref (ad 15 z1)), (0, .ref (ad 0 0)), (1, .int (jI x)), (2, .int (jI k)), (3, .int (jI i)), (4, .long (jL v))]) hx hb dX8_item_47 hl (by decide) rfl (fun ls hl => ?_)
          refine lv_aload hx hb dX8_item_49 (lv_at hl 0 rfl) ?_
          refine lv_ifnonnull (tgt := 59) hx hb dX8_item_51 (by decide) ?_
          refine lv_iload_n hx hb dX8_item_59 rfl (lv_at hl 6 rfl) ?_
          refine lv_aload hx hb dX8_item_60 (lv_at hl 0 rfl) ?_
          refine x_geto hx hb hf5 hw (by omega) (by omega) sl_26_0 lk161 dX8_item_62 ?_
          have f19 : 0 ≤ ln r12 ∧ ln r12 ≤ 12 := hLn r12
          refine x_alenl hx hb hK.1 hw (by omega) (by omega) ar_27 (show lenE ln 27 r12 = ln r12 from rfl) (by omega) dX8_item_65 ?_
          refine gos_i (run_S (As := [.int (jI i), .int (jI (ln r12))]) (rest := []) hx hb hml hown hts (c_X8_isBelow l D tc base ad cnt X Y ln i (ln r12) (by omega) (by omega)) (cwS 2 hts gX8_item_X8_isBelow rfl rfl rfl (by first | exact hd_X8_isBelow | decide +kernel) ⟨Nat.le_of_ble_eq_true rfl, Nat.le_of_ble_eq_true rfl⟩) hK hw rfl hl.1 rfl (Nat.le_of_ble_eq_true rfl) dX8_item_66 ⟨Nat.le_of_ble_eq_true rfl, Nat.le_of_ble_eq_true rfl⟩) hS (fun z20 u21 H locs p22 hw hS => ?_)
          obtain ⟨eu21, p22⟩ := p22
          subst eu21
          rcases p22 with ⟨ez20, p22⟩ | ⟨ez20, p22⟩
          · subst ez20
            refine x_if_neT (tgt := 77) hx hb (by omega) (by decide) dX8_item_69 (by decide) ?_
            refine lv_aload_n hx hb dX8_item_77 rfl (lv_at hl 3 rfl) ?_
            refine x_geto hx hb hf8 hw (by first | exact Int.le_refl 0 | omega) (by first | exact zlt hc0 | omega) sl_0_10 lk51 dX8_item_78 ?_
            refine gos_i (run_V (As := []) (rest := []) hx hb hml hown hts (c_X2_isFull l D tc base ad cnt X Y ln hR hFx hLn hCI) (cwV 0 hts gX8_item_X2_isFull rfl rfl rfl (by first | exact hd_X2_isFull | decide +kernel) ⟨Nat.le_of_ble_eq_true rfl, Nat.le_of_ble_eq_true rfl⟩) hK hw (by first | exact Int.le_refl 0 | omega) (by first | exact zlt hc29 | omega) sl_29_0 rfl rfl hl.1 rfl (Nat.le_of_ble_eq_true rfl) dX8_item_81 ⟨Nat.le_of_ble_eq_true rfl, Nat.le_of_ble_eq_true rfl⟩) hS (fun z23 u24 H locs p25 hw hS => ?_)
            obtain ⟨eu24, p25⟩ := p25
            subst eu24
            rcases p25 with ⟨ez23, p25⟩ | ⟨ez23, p25⟩
            · subst ez23
              refine x_if_eqF (tgt := 90) hx hb (by omega) (by decide) dX8_item_84 (by decide) ?_
              refine lv_bipush (v := jI (-4)) hx hb dX8_item_87 (by decide) ?_
              rw [hQ9]
              refine ret_i (mc := 0) (ms := 0) hx hb hr hlocks hw hS (by first | exact Nat.le_of_ble_eq_true rfl | omega) (by first | exact Nat.le_of_ble_eq_true rfl | omega) dX8_item_89 ?_
              have hT26 : tyo (Y 15 x 0) = r6 := by rw [← ezz1]; exact tyo_some y5
              have hk27 : k < X 19 r6 1 := h5p3 r6 (by rw [← ezz1]; exact y5)
              have hL28 : rlen ln (Y 17 x k) = ln r12 := by rw [← ezz1, y11]; rfl
              exact ⟨X, Y, rfl, hR, Frm.rf, Frm.rf, hCI, by omega, (by rw [hT26, hL28]; exact Or.inr (Or.inr (Or.inr (Or.inr (Or.inl ⟨(by (try delta Hid at *); omega), (by (try delta Hid at *); omega), (fun q => by (try delta Hid at *); omega), (by (try delta Hid at *); omega), (by (try delta Hid at *); omega), (by (try delta Hid at *); omega)⟩))))), fun _ => ⟨rfl, rfl⟩, fun q => (by exfalso; omega)⟩
            · subst ez23
              refine x_if_eqT (tgt := 90) hx hb (by omega) (by decide) dX8_item_84 (by decide) ?_
              refine lv_aload_n hx hb dX8_item_90 rfl (lv_at hl 3 rfl) ?_
              refine x_geto hx hb hf8 hw (by first | exact Int.le_refl 0 | omega) (by first | exact zlt hc0 | omega) sl_0_10 lk51 dX8_item_91 ?_
              refine lv_aload hx hb dX8_item_94 (lv_at hl 0 rfl) ?_
              refine lv_iload_n hx hb dX8_item_96 rfl (lv_at hl 6 rfl) ?_
              refine gos_v (run_V (As := [.ref (ad 26 r12), .int (jI i)]) (rest := []) hx hb hml hown hts (c_X2_noteItem l D tc base ad cnt X Y ln hR hFx hLn hCI r12 i (by omega) (by omega) (by omega)) (cwV 2 hts gX8_item_X2_noteItem rfl rfl rfl (by first | exact hd_X2_noteItem | decide +kernel) ⟨Nat.le_of_ble_eq_true rfl, Nat.le_of_ble_eq_true rfl⟩) hK hw (by first | exact Int.le_refl 0 | omega) (by first | exact zlt hc29 | omega) sl_29_0 rfl rfl hl.1 rfl (Nat.le_of_ble_eq_true rfl) dX8_item_97 ⟨Nat.le_of_ble_eq_true rfl, Nat.le_of_ble_eq_true rfl⟩) hS (fun u30 H locs p31 hw hS => ?_)
              obtain ⟨X32, Y33, eu30, hRX32, hG34, hJ35, hCIX32, p31, hntX32⟩ := p31
              subst eu30
              have hFX32 : Frm [2802, 2803, 2902, 2700] X X32 := Frm.tr Frm.rf (Frm.mono hG34 (by first | exact nls_of rfl | decide))
              have hHY33 : Frm [2801, 2804] Y Y33 := Frm.tr Frm.rf (Frm.mono hJ35 (by first | exact nls_of rfl | decide))
              refine lv_aload hx hb dX8_item_100 (lv_at hl 0 rfl) ?_
              refine x_geto hx hb hf5 hw (by omega) (by omega) sl_26_0 lk161 dX8_item_102 ?_
              refine lv_iload_n hx hb dX8_item_105 rfl (lv_at hl 6 rfl) ?_
              refine lv_lload hx hb dX8_item_106 (lv_at hl 7 rfl) ?_
              refine lv_iload hx hb dX8_item_108 (lv_at hl 1 rfl) ?_
              refine gos_l (run_S (As := [.long (jL v), .int (jI (X 21 r6 k))]) (rest := [.int (jI i), .ref (ad 27 r12)]) hx hb hml hown hts (c_X8_lowestBits l D tc base ad cnt X32 Y33 ln v (X 21 r6 k) (by omega) (by omega)) (cwS 2 hts gX8_item_X8_lowestBits rfl rfl rfl (by first | exact hd_X8_lowestBits | decide +kernel) ⟨Nat.le_of_ble_eq_true rfl, Nat.le_of_ble_eq_true rfl⟩) hK hw rfl hl.1 rfl (Nat.le_of_ble_eq_true rfl) dX8_item_110 ⟨Nat.le_of_ble_eq_true rfl, Nat.le_of_ble_eq_true rfl⟩) hS (fun z36 u37 H locs p38 hw hS => ?_)
              obtain ⟨eu37, p38⟩ := p38
              subst eu37
              have f39 : 0 ≤ ln r12 ∧ ln r12 ≤ 12 := hLn r12
              refine x_last hx hb hK.1 hw hS (by omega) (by omega) ar_27 (show lenE ln 27 r12 = ln r12 from rfl) (by omega) (by omega) (by omega) dX8_item_113 (fun H locs hw hS => ?_)
              obtain ⟨X40, hX40⟩ : ∃ Xq, Xq = u3 X32 27 r12 i z36 := ⟨_, rfl⟩
              rw [← hX40] at hw
              have hRX40 : Rng X40 := by rw [hX40]; exact rng_set hRX32 (show (-9223372036854775808) ≤ z36 ∧ z36 ≤ 9223372036854775807 by omega)
              have hVX40 : X40 27 r12 i = z36 := by rw [hX40]; exact u3_s _ _ _ _ _
              have hFX40 : Frm [2802, 2803, 2902, 2700] X X40 := by rw [hX40]; exact Frm.set hFX32 (show 2700 ∈ [2802, 2803, 2902, 2700] by first | exact nlm_in rfl | decide)
              refine lv_iconst (v := jI 1) hx hb dX8_item_114 rfl ?_
              rw [hQ9]
              refine ret_i (mc := 0) (ms := 0) hx hb hr hlocks hw hS (by first | exact Nat.le_of_ble_eq_true rfl | omega) (by first | exact Nat.le_of_ble_eq_true rfl | omega) dX8_item_115 ?_
              have hT41 : tyo (Y 15 x 0) = r6 := by rw [← ezz1]; exact tyo_some y5
              have hk42 : k < X 19 r6 1 := h5p3 r6 (by rw [← ezz1]; exact y5)
              have hL43 : rlen ln (Y 17 x k) = ln r12 := by rw [← ezz1, y11]; rfl
              have q44 : Frm [2700] X32 X40 := by rw [hX40]; exact Frm.set Frm.rf (show 2700 ∈ [2700] by first | exact nlm_in rfl | decide)
              have h45 := eNoteC.to (M := [2700]) (N := []) hntX32 q44 Frm.rf (by decide) (by decide) (fun n j => (by rw [hX40, u3_k _ _ _ _ (by first | exact Nat.ne_of_beq_eq_false rfl | decide)])) (fun n j => rfl)
              have hCq47 : CInv cnt X40 Y33 ln := cinv_frm (M := [2700]) (N := []) hCIX32 q44 Frm.rf (by decide) (by decide)
              exact ⟨X40, Y33, rfl, hRX40, hFX40, hHY33, hCq47, by omega, (by rw [hT41, hL43]; exact Or.inr (Or.inr (Or.inr (Or.inr (Or.inr (⟨(by (try delta Hid at *); omega), (by (try delta Hid at *); omega), (fun q => by (try delta Hid at *); omega), (by (try delta Hid at *); omega), (by (try delta Hid at *); omega), (by (try delta Hid at *); omega)⟩)))))), fun q => (by exfalso; omega), fun _ => ⟨r12, (by rw [← ezz1]; exact y11), h45, (by rw [hT41, hVX40]; omega), fun y j hy => (by rw [hX40, u3_ij hy, hG34 27 y j (show 2700 ∉ [2802, 2803, 2902] by first | exact nlm_ni rfl | decide)])⟩⟩
          · subst ez20
            refine x_if_neF (tgt := 77) hx hb (by omega) (by decide) dX8_item_69 (by decide) ?_
            refine lv_iconst (v := jI 2) hx hb dX8_item_72 rfl ?_
            refine gos_i (run_S (As := [.int (jI 2)]) (rest := []) hx hb hml hown hts (c_X8_failed l D tc base ad cnt X Y ln 2 (by omega)) (cwS 1 hts gX8_item_X8_failed rfl rfl rfl (by first | exact hd_X8_failed | decide +kernel) ⟨Nat.le_of_ble_eq_true rfl, Nat.le_of_ble_eq_true rfl⟩) hK hw rfl hl.1 rfl (Nat.le_of_ble_eq_true rfl) dX8_item_73 ⟨Nat.le_of_ble_eq_true rfl, Nat.le_of_ble_eq_true rfl⟩) hS (fun z48 u49 H locs p50 hw hS => ?_)
            obtain ⟨eu49, p50⟩ := p50
            subst eu49
            rw [hQ9]
            refine ret_i (mc := 0) (ms := 0) hx hb hr hlocks hw hS (by first | exact Nat.le_of_ble_eq_true rfl | omega) (by first | exact Nat.le_of_ble_eq_true rfl | omega) dX8_item_76 ?_
            have hT51 : tyo (Y 15 x 0) = r6 := by rw [← ezz1]; exact tyo_some y5
            have hk52 : k < X 19 r6 1 := h5p3 r6 (by rw [← ezz1]; exact y5)
            have hL53 : rlen ln (Y 17 x k) = ln r12 := by rw [← ezz1, y11]; rfl
            exact ⟨X, Y, rfl, hR, Frm.rf, Frm.rf, hCI, by omega, (by rw [hT51, hL53]; first | (have h9z : (z48 : Int) = -1 := (by omega); exact Or.inl ⟨(fun q => by (try delta Hid at *); omega), (by (try delta Hid at *); omega)⟩) | (have h9z : (z48 : Int) = -14 := (by omega); exact Or.inr (Or.inl ⟨(by (try delta Hid at *); omega), (by (try delta Hid at *); omega), (by (try delta Hid at *); omega)⟩)) | (have h9z : (z48 : Int) = -11 := (by omega); exact Or.inr (Or.inr (Or.inl ⟨(by (try delta Hid at *); omega), (by (try delta Hid at *); omega), (by (try delta Hid at *); omega), (by (try delta Hid at *); omega)⟩))) | (have h9z : (z48 : Int) = -12 := (by omega); exact Or.inr (Or.inr (Or.inr (Or.inl ⟨(by (try delta Hid at *); omega), (by (try delta Hid at *); omega), (fun q => by (try delta Hid at *); omega), (fun q => by (try delta Hid at *); omega), (by (try delta Hid at *); omega)⟩)))) | (have h9z : (z48 : Int) = -4 := (by omega); exact Or.inr (Or.inr (Or.inr (Or.inr (Or.inl ⟨(by (try delta Hid at *); omega), (by (try delta Hid at *); omega), (fun q => by (try delta Hid at *); omega), (by (try delta Hid at *); omega), (by (try delta Hid at *); omega), (by (try delta Hid at *); omega)⟩))))) | (have h9z : (z48 : Int) = 1 := (by omega); exact Or.inr (Or.inr (Or.inr (Or.inr (Or.inr (⟨(by (try delta Hid at *); omega), (by (try delta Hid at *); omega), (fun q => by (try delta Hid at *); omega), (by (try delta Hid at *); omega), (by (try delta Hid at *); omega), (by (try delta Hid at *); omega)⟩)))))) | exact Or.inl ⟨(fun q => by (try delta Hid at *); omega), (by (try delta Hid at *); omega)⟩ | exact Or.inr (Or.inl ⟨(by (try delta Hid at *); omega), (by (try delta Hid at *); omega), (by (try delta Hid at *); omega)⟩) | exact Or.inr (Or.inr (Or.inl ⟨(by (try delta Hid at *); omega), (by (try delta Hid at *); omega), (by (try delta Hid at *); omega), (by (try delta Hid at *); omega)⟩)) | exact Or.inr (Or.inr (Or.inr (Or.inl ⟨(by (try delta Hid at *); omega), (by (try delta Hid at *); omega), (fun q => by (try delta Hid at *); omega), (fun q => by (try delta Hid at *); omega), (by (try delta Hid at *); omega)⟩))) | exact Or.inr (Or.inr (Or.inr (Or.inr (Or.inl ⟨(by (try delta Hid at *); omega), (by (try delta Hid at *); omega), (fun q => by (try delta Hid at *); omega), (by (try delta Hid at *); omega), (by (try delta Hid at *); omega), (by (try delta Hid at *); omega)⟩)))) | exact Or.inr (Or.inr (Or.inr (Or.inr (Or.inr (⟨(by (try delta Hid at *); omega), (by (try delta Hid at *); omega), (fun q => by (try delta Hid at *); omega), (by (try delta Hid at *); omega), (by (try delta Hid at *); omega), (by (try delta Hid at *); omega)⟩)))))), fun _ => ⟨rfl, rfl⟩, fun q => (by exfalso; omega)⟩
      · subst ez8
        refine x_if_neF (tgt := 40) hx hb (by omega) (by decide) dX8_item_32 (by decide) ?_
        refine lv_iconst (v := jI 4) hx hb dX8_item_35 rfl ?_
        refine gos_i (run_S (As := [.int (jI 4)]) (rest := []) hx hb hml hown hts (c_X8_failed l D tc base ad cnt X Y ln 4 (by omega)) (cwS 1 hts gX8_item_X8_failed rfl rfl rfl (by first | exact hd_X8_failed | decide +kernel) ⟨Nat.le_of_ble_eq_true rfl, Nat.le_of_ble_eq_true rfl⟩) hK hw rfl hl.1 rfl (Nat.le_of_ble_eq_true rfl) dX8_item_36 ⟨Nat.le_of_ble_eq_true rfl, Nat.le_of_ble_eq_true rfl⟩) hS (fun z54 u55 H locs p56 hw hS => ?_)
        obtain ⟨eu55, p56⟩ := p56
        subst eu55
        rw [hQ9]
        refine ret_i (mc := 0) (ms := 0) hx hb hr hlocks hw hS (by first | exact Nat.le_of_ble_eq_true rfl | omega) (by first | exact Nat.le_of_ble_eq_true rfl | omega) dX8_item_39 ?_
        have hT57 : tyo (Y 15 x 0) = r6 := by rw [← ezz1]; exact tyo_some y5
        have hk58 : k < X 19 r6 1 := h5p3 r6 (by rw [← ezz1]; exact y5)
        exact ⟨X, Y, rfl, hR, Frm.rf, Frm.rf, hCI, by omega, (by rw [hT57]; first | (have h9z : (z54 : Int) = -1 := (by omega); exact Or.inl ⟨(fun q => by (try delta Hid at *); omega), (by (try delta Hid at *); omega)⟩) | (have h9z : (z54 : Int) = -14 := (by omega); exact Or.inr (Or.inl ⟨(by (try delta Hid at *); omega), (by (try delta Hid at *); omega), (by (try delta Hid at *); omega)⟩)) | (have h9z : (z54 : Int) = -11 := (by omega); exact Or.inr (Or.inr (Or.inl ⟨(by (try delta Hid at *); omega), (by (try delta Hid at *); omega), (by (try delta Hid at *); omega), (by (try delta Hid at *); omega)⟩))) | (have h9z : (z54 : Int) = -12 := (by omega); exact Or.inr (Or.inr (Or.inr (Or.inl ⟨(by (try delta Hid at *); omega), (by (try delta Hid at *); omega), (fun q => by (try delta Hid at *); omega), (fun q => by (try delta Hid at *); omega), (by (try delta Hid at *); omega)⟩)))) | (have h9z : (z54 : Int) = -4 := (by omega); exact Or.inr (Or.inr (Or.inr (Or.inr (Or.inl ⟨(by (try delta Hid at *); omega), (by (try delta Hid at *); omega), (fun q => by (try delta Hid at *); omega), (by (try delta Hid at *); omega), (by (try delta Hid at *); omega), (by (try delta Hid at *); omega)⟩))))) | (have h9z : (z54 : Int) = 1 := (by omega); exact Or.inr (Or.inr (Or.inr (Or.inr (Or.inr (⟨(by (try delta Hid at *); omega), (by (try delta Hid at *); omega), (fun q => by (try delta Hid at *); omega), (by (try delta Hid at *); omega), (by (try delta Hid at *); omega), (by (try delta Hid at *); omega)⟩)))))) | exact Or.inl ⟨(fun q => by (try delta Hid at *); omega), (by (try delta Hid at *); omega)⟩ | exact Or.inr (Or.inl ⟨(by (try delta Hid at *); omega), (by (try delta Hid at *); omega), (by (try delta Hid at *); omega)⟩) | exact Or.inr (Or.inr (Or.inl ⟨(by (try delta Hid at *); omega), (by (try delta Hid at *); omega), (by (try delta Hid at *); omega), (by (try delta Hid at *); omega)⟩)) | exact Or.inr (Or.inr (Or.inr (Or.inl ⟨(by (try delta Hid at *); omega), (by (try delta Hid at *); omega), (fun q => by (try delta Hid at *); omega), (fun q => by (try delta Hid at *); omega), (by (try delta Hid at *); omega)⟩))) | exact Or.inr (Or.inr (Or.inr (Or.inr (Or.inl ⟨(by (try delta Hid at *); omega), (by (try delta Hid at *); omega), (fun q => by (try delta Hid at *); omega), (by (try delta Hid at *); omega), (by (try delta Hid at *); omega), (by (try delta Hid at *); omega)⟩)))) | exact Or.inr (Or.inr (Or.inr (Or.inr (Or.inr (⟨(by (try delta Hid at *); omega), (by (try delta Hid at *); omega), (fun q => by (try delta Hid at *); omega), (by (try delta Hid at *); omega), (by (try delta Hid at *); omega), (by (try delta Hid at *); omega)⟩)))))), fun _ => ⟨rfl, rfl⟩, fun q => (by exfalso; omega)⟩
end
section
set_option maxHeartbeats 4000000 in
set_option maxRecDepth 100000 in
theorem c_X8_forget (l : Launch) (D : va_G) (tc : Nat → ClassId) (base : Nat) (ad : Nat → Int → Nat) (cnt : Nat → Int) (X : Nat → Int → Int → Int) (Y : Nat → Int → Int → Option Int) (ln : Int → Int) (hR : Rng X) (hFx : Fx cnt) (hLn : LnOK ln) (hCI : CInv cnt X Y ln)  : KI l D tc base yX8_forget wsX8_forget ({ frames := 0, cells := 0, slots := 0, locals := 0 } : Room) [.ref (ad 0 0)] (ad, cnt, X, Y, ln) 0 0 (fun z u => ∃ (X1 : Nat → Int → Int → Int), u = (ad, cnt, X1, Y, ln) ∧ Rng X1 ∧ Frm [4] X X1 ∧ CInv cnt X1 Y ln ∧ (-2147483648 ≤ z ∧ z ≤ 2147483647) ∧ ((0 < X 29 0 3 ∧ z = -3 ∧ X1 0 0 3 = X 0 0 3) ∨ (X 29 0 3 = 0 ∧ z = X 0 0 3 ∧ X1 0 0 3 = 0))) := by
  refine K_of (cc := cX8_forget) (maxL := 2) (ret := (some .int)) (by decide) rfl (Nat.le_of_ble_eq_true rfl) ?_
  intro p e s m below meth c ls hx hb hr hml hown hts hlocks hl hK hw hS
  have hown : s.vm.findClass RX8 = some m.cls := hown
  obtain ⟨av9, hav9⟩ : ∃ a9 : Array Value, a9 = ([.ref (ad 0 0)] : List Value).toArray := ⟨_, rfl⟩
  rw [← hav9] at hts ⊢
  obtain ⟨Q9, hQ9⟩ : ∃ q9Q : State → Prop, q9Q = MQ below (QI D tc base (fun z u => ∃ (X1 : Nat → Int → Int → Int), u = (ad, cnt, X1, Y, ln) ∧ Rng X1 ∧ Frm [4] X X1 ∧ CInv cnt X1 Y ln ∧ (-2147483648 ≤ z ∧ z ≤ 2147483647) ∧ ((0 < X 29 0 3 ∧ z = -3 ∧ X1 0 0 3 = X 0 0 3) ∨ (X 29 0 3 = 0 ∧ z = X 0 0 3 ∧ X1 0 0 3 = 0)))) av9 s 0 0 (frA base) := ⟨_, rfl⟩
  rw [← hQ9]
  have hi2 : ∀ w ∈ wsX20, w ∈ wsX8_forget := fun w h => List.mem_cons_of_mem _ (List.mem_append_right _ h)
  have hf2 : fctx s m _ RX8 wsX8_forget D tc RX2 TX2 4 2 := ⟨hts, hi2, hown, hK.1, rfl⟩
  have hi8 : ∀ w ∈ wsX80, w ∈ wsX8_forget := fun w h => List.mem_cons_of_mem _ (List.mem_append_left _ (List.mem_append_right _ h))
  have hf8 : fctx s m _ RX8 wsX8_forget D tc RX8 TX8 12 8 := ⟨hts, hi8, hown, hK.1, rfl⟩
  have lk51 := hts (.fieldLink RX8 51 (TX8 10).1 (TX8 10).2.1 (TX8 10).2.2.1) (gj_X8_forget_0 _ (gp_h))
  have lk82 := hts (.fieldLink RX8 82 (TX2 3).1 (TX2 3).2.1 (TX2 3).2.2.1) (gj_X8_forget_0 _ (gp_1 gp_h))
  have lk94 := hts (.fieldLink RX8 94 (TX8 3).1 (TX8 3).2.1 (TX8 3).2.2.1) (gj_X8_forget_0 _ (gp_1 (gp_1 gp_h)))
  have hc0 : cnt 0 = 1 := hFx.at 0 1 (by decide)
  have hc29 : cnt 29 = 1 := hFx.at 29 1 (by decide)
  have hl : lv_has ls 2 [(0, .ref (ad 0 0))] := hl
  have ftc : 0 ≤ X 0 0 3 ∧ X 0 0 3 ≤ 30 := hR 0 0 3
  have fty : 0 ≤ X 0 0 1 ∧ X 0 0 1 ≤ 8 := hR 0 0 1
  have hct : cnt 19 = X 0 0 1 := hCI.2.2.2.1.1
  have hfj : 0 ≤ X 29 0 3 ∧ X 29 0 3 ≤ 4 := hR 29 0 3
  have hfn : 0 ≤ X 29 0 1 ∧ X 29 0 1 ≤ 80 := hR 29 0 1
  refine lv_aload_n hx hb dX8_forget_0 rfl (lv_at hl 0 rfl) ?_
  refine x_geto hx hb hf8 hw (by first | exact Int.le_refl 0 | omega) (by first | exact zlt hc0 | omega) sl_0_10 lk51 dX8_forget_1 ?_
  refine x_geti (jz := 3) hx hb hf2 hw (by first | exact Int.le_refl 0 | omega) (by first | exact zlt hc29 | omega) sl_29_3 rfl lk82 dX8_forget_4 ?_
  have f1 : 0 ≤ X 29 0 3 ∧ X 29 0 3 ≤ 4 := hR 29 0 3
  refine x_if_le (tgt := 13) hx hb (by omega) dX8_forget_7 (by decide) (fun c2 => ?_) (fun c2 => ?_)
  · refine lv_aload_n hx hb dX8_forget_13 rfl (lv_at hl 0 rfl) ?_
    refine x_geti (jz := 3) hx hb hf8 hw (by first | exact Int.le_refl 0 | omega) (by first | exact zlt hc0 | omega) sl_0_3 rfl lk94 dX8_forget_14 ?_
    have f3 : 0 ≤ X 0 0 3 ∧ X 0 0 3 ≤ 30 := hR 0 0 3
    refine lv_istore_n (lv' := [(1, .int (jI (X 0 0 3))), (0, .ref (ad 0 0))]) hx hb dX8_forget_17 rfl hl (by decide) rfl (fun ls hl => ?_)
    refine lv_aload_n hx hb dX8_forget_18 rfl (lv_at hl 1 rfl) ?_
    refine lv_iconst (v := jI 0) hx hb dX8_forget_19 rfl ?_
    refine x_puti (jz := 3) hx hb hf8 ⟨tyX8_ok, nmX8⟩ hw hS (by first | exact Int.le_refl 0 | omega) (by first | exact zlt hc0 | omega) sl_0_3 rfl lk94 rfl (tyX8_ok 3 (by decide)) rfl rfl dX8_forget_20 (fun H locs hw hS => ?_)
    obtain ⟨X4, hX4⟩ : ∃ Xq, Xq = u3 X 0 0 3 0 := ⟨_, rfl⟩
    rw [← hX4] at hw
    have hRX4 : Rng X4 := by rw [hX4]; exact rng_set hR (show 0 ≤ 0 ∧ 0 ≤ 30 by omega)
    have hVX4 : X4 0 0 3 = 0 := by rw [hX4]; exact u3_s _ _ _ _ _
    have hFX4 : Frm [4] X X4 := by rw [hX4]; exact Frm.set Frm.rf (show 4 ∈ [4] by first | exact nlm_in rfl | decide)
    refine lv_iload_n hx hb dX8_forget_23 rfl (lv_at hl 0 rfl) ?_
    rw [hQ9]
    refine ret_i (mc := 0) (ms := 0) hx hb hr hlocks hw hS (by first | exact Nat.le_of_ble_eq_true rfl | omega) (by first | exact Nat.le_of_ble_eq_true rfl | omega) dX8_forget_24 ?_
    have q5 : Frm [4] X X4 := by rw [hX4]; exact Frm.set Frm.rf (show 4 ∈ [4] by first | exact nlm_in rfl | decide)
    exact ⟨X4, rfl, hRX4, hFX4, cinv_things hCI q5 (fun x9 a b c => by rw [hVX4] at b; omega), by omega, by omega⟩
  · refine lv_bipush (v := jI (-3)) hx hb dX8_forget_10 (by decide) ?_
    rw [hQ9]
    refine ret_i (mc := 0) (ms := 0) hx hb hr hlocks hw hS (by first | exact Nat.le_of_ble_eq_true rfl | omega) (by first | exact Nat.le_of_ble_eq_true rfl | omega) dX8_forget_12 ?_
    exact ⟨X, rfl, hR, Frm.rf, hCI, by omega, by omega⟩

set_option maxHeartbeats 4000000 in
set_option maxRecDepth 100000 in
theorem c_X8_told (l : Launch) (D : va_G) (tc : Nat → ClassId) (base : Nat) (ad : Nat → Int → Nat) (cnt : Nat → Int) (X : Nat → Int → Int → Int) (Y : Nat → Int → Int → Option Int) (ln : Int → Int) (hR : Rng X) (hFx : Fx cnt) (hLn : LnOK ln) (hCI : CInv cnt X Y ln) (x what : Int) (hx : -2147483648 ≤ x ∧ x ≤ 2147483647) (hwhat : -2147483648 ≤ what ∧ what ≤ 2147483647) : KI l D tc base yX8_told wsX8_told ({ frames := 1, cells := 0, slots := 0, locals := 22 } : Room) [.ref (ad 0 0), .int (jI x), .int (jI what)] (ad, cnt, X, Y, ln) 0 0 (fun z u => ∃ (X1 : Nat → Int → Int → Int), u = (ad, cnt, X1, Y, ln) ∧ Rng X1 ∧ Frm [] X X1 ∧ CInv cnt X1 Y ln ∧ (-2147483648 ≤ z ∧ z ≤ 2147483647) ∧ ((¬ (0 ≤ x ∧ x < X 0 0 3) ∧ z = -1) ∨ ((0 ≤ x ∧ x < X 0 0 3) ∧ what = 0 ∧ z = tyo (Y 15 x 0)) ∨ ((0 ≤ x ∧ x < X 0 0 3) ∧ what = 1 ∧ z = X 19 (tyo (Y 15 x 0)) 1) ∨ ((0 ≤ x ∧ x < X 0 0 3) ∧ what ≠ 0 ∧ what ≠ 1 ∧ z = -2)) ∧ X1 = X) := by
  refine K_of (cc := cX8_told) (maxL := 4) (ret := (some .int)) (by decide) rfl (Nat.le_of_ble_eq_true rfl) ?_
  intro p e s m below meth c ls hx hb hr hml hown hts hlocks hl hK hw hS
  have hown : s.vm.findClass RX8 = some m.cls := hown
  obtain ⟨av9, hav9⟩ : ∃ a9 : Array Value, a9 = ([.ref (ad 0 0), .int (jI x), .int (jI what)] : List Value).toArray := ⟨_, rfl⟩
  rw [← hav9] at hts ⊢
  obtain ⟨Q9, hQ9⟩ : ∃ q9Q : State → Prop, q9Q = MQ below (QI D tc base (fun z u => ∃ (X1 : Nat → Int → Int → Int), u = (ad, cnt, X1, Y, ln) ∧ Rng X1 ∧ Frm [] X X1 ∧ CInv cnt X1 Y ln ∧ (-2147483648 ≤ z ∧ z ≤ 2147483647) ∧ ((¬ (0 ≤ x ∧ x < X 0 0 3) ∧ z = -1) ∨ ((0 ≤ x ∧ x < X 0 0 3) ∧ what = 0 ∧ z = tyo (Y 15 x 0)) ∨ ((0 ≤ x ∧ x < X 0 0 3) ∧ what = 1 ∧ z = X 19 (tyo (Y 15 x 0)) 1) ∨ ((0 ≤ x ∧ x < X 0 0 3) ∧ what ≠ 0 ∧ what ≠ 1 ∧ z = -2)) ∧ X1 = X)) av9 s 0 0 (frA base) := ⟨_, rfl⟩
  rw [← hQ9]
  have hi6 : ∀ w ∈ wsX60, w ∈ wsX8_told := fun w h => List.mem_cons_of_mem _ (List.mem_append_left _ (List.mem_append_left _ (List.mem_append_right _ h)))
  have hf6 : fctx s m _ RX8 wsX8_told D tc RX6 TX6 4 6 := ⟨hts, hi6, hown, hK.1, rfl⟩
  have hi7 : ∀ w ∈ wsX70, w ∈ wsX8_told := fun w h => List.mem_cons_of_mem _ (List.mem_append_left _ (List.mem_append_right _ h))
  have hf7 : fctx s m _ RX8 wsX8_told D tc RX7 TX7 8 7 := ⟨hts, hi7, hown, hK.1, rfl⟩
  have lk85 := hts (.fieldLink RX8 85 (TX7 1).1 (TX7 1).2.1 (TX7 1).2.2.1) (gj_X8_told_0 _ (gp_1 (gp_1 gp_h)))
  have lk97 := hts (.fieldLink RX8 97 (TX6 0).1 (TX6 0).2.1 (TX6 0).2.2.1) (gj_X8_told_0 _ (gp_h))
  have lk205 := hts (.fieldLink RX8 205 (TX7 0).1 (TX7 0).2.1 (TX7 0).2.2.1) (gj_X8_told_0 _ (gp_1 gp_h))
  have hc0 : cnt 0 = 1 := hFx.at 0 1 (by decide)
  have hc15 : cnt 15 = 30 := hFx.at 15 30 (by decide)
  have hl : lv_has ls 4 [(0, .ref (ad 0 0)), (1, .int (jI x)), (2, .int (jI what))] := hl
  have ftc : 0 ≤ X 0 0 3 ∧ X 0 0 3 ≤ 30 := hR 0 0 3
  have fty : 0 ≤ X 0 0 1 ∧ X 0 0 1 ≤ 8 := hR 0 0 1
  have hct : cnt 19 = X 0 0 1 := hCI.2.2.2.1.1
  have hfj : 0 ≤ X 29 0 3 ∧ X 29 0 3 ≤ 4 := hR 29 0 3
  have hfn : 0 ≤ X 29 0 1 ∧ X 29 0 1 ≤ 80 := hR 29 0 1
  refine lv_aload_n hx hb dX8_told_0 rfl (lv_at hl 0 rfl) ?_
  refine lv_iload_n hx hb dX8_told_1 rfl (lv_at hl 1 rfl) ?_
  refine x_i2l hx hb (by omega) dX8_told_2 ?_
  refine gos_r (run_V (As := [.long (jL x)]) (rest := []) hx hb hml hown hts (c_X8_thingNumbered l D tc base ad cnt X Y ln hR hFx hLn hCI x (by omega)) (cwV 1 hts gX8_told_X8_thingNumbered rfl rfl rfl (by first | exact hd_X8_thingNumbered | decide +kernel) ⟨Nat.le_of_ble_eq_true rfl, Nat.le_of_ble_eq_true rfl⟩) hK hw (by first | exact Int.le_refl 0 | omega) (by first | exact zlt hc0 | omega) sl_0_0 rfl rfl hl.1 rfl (Nat.le_of_ble_eq_true rfl) dX8_told_3 ⟨Nat.le_of_ble_eq_true rfl, Nat.le_of_ble_eq_true rfl⟩) hS (fun u2 H locs p3 hw hS => ?_) (fun z1 u2 H locs p3 hw hS => ?_)
  · obtain ⟨eu2, hsp3, hnp3⟩ := p3
    subst eu2
    refine lv_astore_nN (lv' := [(3, .null), (0, .ref (ad 0 0)), (1, .int (jI x)), (2, .int (jI what))]) hx hb dX8_told_6 rfl hl (by decide) rfl (fun ls hl => ?_)
    refine lv_aload_nN hx hb dX8_told_7 rfl (lv_at hl 0 rfl) ?_
    refine lv_ifnonnullN hx hb dX8_told_8 ?_
    refine lv_iconst (v := jI (-1)) hx hb dX8_told_11 rfl ?_
    rw [hQ9]
    refine ret_i (mc := 0) (ms := 0) hx hb hr hlocks hw hS (by first | exact Nat.le_of_ble_eq_true rfl | omega) (by first | exact Nat.le_of_ble_eq_true rfl | omega) dX8_told_12 ?_
    have h9n4 : ¬ (0 ≤ x ∧ x < X 0 0 3) := hnp3 rfl
    exact ⟨X, rfl, hR, Frm.rf, hCI, by omega, (by first | exact Or.inl ⟨(fun q => by (try delta Hid at *); omega), by omega⟩ | exact Or.inr (Or.inl ⟨(by (try delta Hid at *); omega), by omega, by omega⟩) | exact Or.inr (Or.inr (Or.inl ⟨(by (try delta Hid at *); omega), by omega, by omega⟩))), rfl⟩
  · obtain ⟨eu2, hsp3, hnp3⟩ := p3
    subst eu2
    obtain ⟨ezz1, p3⟩ := hsp3 z1 rfl
    refine lv_astore_n (lv' := [(3, .ref (ad 15 z1)), (0, .ref (ad 0 0)), (1, .int (jI x)), (2, .int (jI what))]) hx hb dX8_told_6 rfl hl (by decide) rfl (fun ls hl => ?_)
    refine lv_aload_n hx hb dX8_told_7 rfl (lv_at hl 0 rfl) ?_
    refine lv_ifnonnull (tgt := 13) hx hb dX8_told_8 (by decide) ?_
    refine lv_iload_n hx hb dX8_told_13 rfl (lv_at hl 3 rfl) ?_
    have tc5 : (jI what).toInt = what := jI_toInt (by omega)
    by_cases c6 : what = 0
    · refine lv_lookup (off := 26) (tgt := 40) hx hb dX8_told_14 (by decide) (by rw [tc5, c6]; rfl) (by decide) ?_
      refine lv_aload_n hx hb dX8_told_40 rfl (lv_at hl 0 rfl) ?_
      refine x_getr (jz := 0) hx hb hf6 hw (by omega) (by omega) sl_15_0 rfl lk97 dX8_told_41 (fun y7 => ?_) (fun r8 y7 gr8 lr8 => ?_)
      · exfalso
        exact absurd y7 (hCI.2.2.2.2.1 z1 (by omega) (by omega))
      · refine x_geti (jz := 0) hx hb hf7 hw (by omega) (by omega) sl_19_0 rfl lk205 dX8_told_44 ?_
        have f9 : 0 ≤ X 19 r8 0 ∧ X 19 r8 0 ≤ 7 := hR 19 r8 0
        rw [hQ9]
        refine ret_i (mc := 0) (ms := 0) hx hb hr hlocks hw hS (by first | exact Nat.le_of_ble_eq_true rfl | omega) (by first | exact Nat.le_of_ble_eq_true rfl | omega) dX8_told_47 ?_
        have hT10 : tyo (Y 15 x 0) = r8 := by rw [← ezz1]; exact tyo_some y7
        have hnum11 := (hCI.2.2.2.1.2 r8 (by omega) (by omega)).2
        exact ⟨X, rfl, hR, Frm.rf, hCI, by omega, (by rw [hT10]; first | exact Or.inr (Or.inl ⟨(by (try delta Hid at *); omega), by omega, by omega⟩) | exact Or.inr (Or.inr (Or.inl ⟨(by (try delta Hid at *); omega), by omega, by omega⟩)) | exact Or.inl ⟨(fun q => by (try delta Hid at *); omega), by omega⟩ | exact Or.inr (Or.inr (Or.inr (⟨(by (try delta Hid at *); omega), by omega, by omega, by omega⟩)))), rfl⟩
    by_cases c12 : what = 1
    · refine lv_lookup (off := 34) (tgt := 48) hx hb dX8_told_14 (by decide) (by rw [tc5, c12]; rfl) (by decide) ?_
      refine lv_aload_n hx hb dX8_told_48 rfl (lv_at hl 0 rfl) ?_
      refine x_getr (jz := 0) hx hb hf6 hw (by omega) (by omega) sl_15_0 rfl lk97 dX8_told_49 (fun y13 => ?_) (fun r14 y13 gr14 lr14 => ?_)
      · exfalso
        exact absurd y13 (hCI.2.2.2.2.1 z1 (by omega) (by omega))
      · refine x_geti (jz := 1) hx hb hf7 hw (by omega) (by omega) sl_19_1 rfl lk85 dX8_told_52 ?_
        have f15 : 0 ≤ X 19 r14 1 ∧ X 19 r14 1 ≤ 5 := hR 19 r14 1
        rw [hQ9]
        refine ret_i (mc := 0) (ms := 0) hx hb hr hlocks hw hS (by first | exact Nat.le_of_ble_eq_true rfl | omega) (by first | exact Nat.le_of_ble_eq_true rfl | omega) dX8_told_55 ?_
        have hT16 : tyo (Y 15 x 0) = r14 := by rw [← ezz1]; exact tyo_some y13
        have hnum17 := (hCI.2.2.2.1.2 r14 (by omega) (by omega)).2
        exact ⟨X, rfl, hR, Frm.rf, hCI, by omega, (by rw [hT16]; first | exact Or.inr (Or.inl ⟨(by (try delta Hid at *); omega), by omega, by omega⟩) | exact Or.inr (Or.inr (Or.inl ⟨(by (try delta Hid at *); omega), by omega, by omega⟩)) | exact Or.inl ⟨(fun q => by (try delta Hid at *); omega), by omega⟩ | exact Or.inr (Or.inr (Or.inr (⟨(by (try delta Hid at *); omega), by omega, by omega, by omega⟩)))), rfl⟩
    refine lv_lookup (off := 42) (tgt := 56) hx hb dX8_told_14 (by decide) (by rw [tc5]; simp [Op.lookupswitch.offset, Ne.symm c6, c6, Ne.symm c12, c12]) (by decide) ?_
    refine lv_bipush (v := jI (-2)) hx hb dX8_told_56 (by decide) ?_
    rw [hQ9]
    refine ret_i (mc := 0) (ms := 0) hx hb hr hlocks hw hS (by first | exact Nat.le_of_ble_eq_true rfl | omega) (by first | exact Nat.le_of_ble_eq_true rfl | omega) dX8_told_58 ?_
    exact ⟨X, rfl, hR, Frm.rf, hCI, by omega, (by first | exact Or.inr (Or.inr (Or.inr (⟨(by (try delta Hid at *); omega), by omega, by omega, by omega⟩))) | exact Or.inr (Or.inl ⟨(by (try delta Hid at *); omega), by omega, by omega⟩) | exact Or.inr (Or.inr (Or.inl ⟨(by (try delta Hid at *); omega), by omega, by omega⟩))), rfl⟩

set_option maxHeartbeats 4000000 in
set_option maxRecDepth 100000 in
theorem c_X8_judge (l : Launch) (D : va_G) (tc : Nat → ClassId) (base : Nat) (ad : Nat → Int → Nat) (cnt : Nat → Int) (X : Nat → Int → Int → Int) (Y : Nat → Int → Int → Option Int) (ln : Int → Int) (hR : Rng X) (hFx : Fx cnt) (hLn : LnOK ln) (hCI : CInv cnt X Y ln) (x : Int) (hx : -2147483648 ≤ x ∧ x ≤ 2147483647) : KI l D tc base yX8_judge wsX8_judge ({ frames := 6, cells := 0, slots := 0, locals := 132 } : Room) [.ref (ad 0 0), .int (jI x)] (ad, cnt, X, Y, ln) 0 0 (fun z u => ∃ (X1 : Nat → Int → Int → Int), u = (ad, cnt, X1, Y, ln) ∧ Rng X1 ∧ Frm [] X X1 ∧ CInv cnt X1 Y ln ∧ (-2147483648 ≤ z ∧ z ≤ 2147483647) ∧ ((¬ (0 ≤ x ∧ x < X 0 0 3) ∧ z = -1) ∨ ((0 ≤ x ∧ x < X 0 0 3) ∧ ∃ how, jdC X Y ln x how ∧ ((how = 0 ∧ z = 1) ∨ (how ≠ 0 ∧ z = -10 - how)))) ∧ X1 = X) := by
  refine K_of (cc := cX8_judge) (maxL := 4) (ret := (some .int)) (by decide) rfl (Nat.le_of_ble_eq_true rfl) ?_
  intro p e s m below meth c ls hx hb hr hml hown hts hlocks hl hK hw hS
  have hown : s.vm.findClass RX8 = some m.cls := hown
  obtain ⟨av9, hav9⟩ : ∃ a9 : Array Value, a9 = ([.ref (ad 0 0), .int (jI x)] : List Value).toArray := ⟨_, rfl⟩
  rw [← hav9] at hts ⊢
  obtain ⟨Q9, hQ9⟩ : ∃ q9Q : State → Prop, q9Q = MQ below (QI D tc base (fun z u => ∃ (X1 : Nat → Int → Int → Int), u = (ad, cnt, X1, Y, ln) ∧ Rng X1 ∧ Frm [] X X1 ∧ CInv cnt X1 Y ln ∧ (-2147483648 ≤ z ∧ z ≤ 2147483647) ∧ ((¬ (0 ≤ x ∧ x < X 0 0 3) ∧ z = -1) ∨ ((0 ≤ x ∧ x < X 0 0 3) ∧ ∃ how, jdC X Y ln x how ∧ ((how = 0 ∧ z = 1) ∨ (how ≠ 0 ∧ z = -10 - how)))) ∧ X1 = X)) av9 s 0 0 (frA base) := ⟨_, rfl⟩
  rw [← hQ9]
  have hi6 : ∀ w ∈ wsX60, w ∈ wsX8_judge := fun w h => List.mem_cons_of_mem _ (List.mem_append_left _ (List.mem_append_left _ (List.mem_append_left _ (List.mem_append_left _ (List.mem_append_right _ h)))))
  have hf6 : fctx s m _ RX8 wsX8_judge D tc RX6 TX6 4 6 := ⟨hts, hi6, hown, hK.1, rfl⟩
  have hi7 : ∀ w ∈ wsX70, w ∈ wsX8_judge := fun w h => List.mem_cons_of_mem _ (List.mem_append_left _ (List.mem_append_left _ (List.mem_append_left _ (List.mem_append_right _ h))))
  have hf7 : fctx s m _ RX8 wsX8_judge D tc RX7 TX7 8 7 := ⟨hts, hi7, hown, hK.1, rfl⟩
  have lk97 := hts (.fieldLink RX8 97 (TX6 0).1 (TX6 0).2.1 (TX6 0).2.2.1) (gj_X8_judge_0 _ (gp_h))
  have lk118 := hts (.fieldLink RX8 118 (TX7 7).1 (TX7 7).2.1 (TX7 7).2.2.1) (gj_X8_judge_0 _ (gp_1 gp_h))
  have hc0 : cnt 0 = 1 := hFx.at 0 1 (by decide)
  have hc15 : cnt 15 = 30 := hFx.at 15 30 (by decide)
  have hc24 : cnt 24 = cnt 19 := hFx.2.1 24 (by decide)
  have hl : lv_has ls 4 [(0, .ref (ad 0 0)), (1, .int (jI x))] := hl
  have ftc : 0 ≤ X 0 0 3 ∧ X 0 0 3 ≤ 30 := hR 0 0 3
  have fty : 0 ≤ X 0 0 1 ∧ X 0 0 1 ≤ 8 := hR 0 0 1
  have hct : cnt 19 = X 0 0 1 := hCI.2.2.2.1.1
  have hfj : 0 ≤ X 29 0 3 ∧ X 29 0 3 ≤ 4 := hR 29 0 3
  have hfn : 0 ≤ X 29 0 1 ∧ X 29 0 1 ≤ 80 := hR 29 0 1
  refine lv_aload_n hx hb dX8_judge_0 rfl (lv_at hl 0 rfl) ?_
  refine lv_iload_n hx hb dX8_judge_1 rfl (lv_at hl 1 rfl) ?_
  refine x_i2l hx hb (by omega) dX8_judge_2 ?_
  refine gos_r (run_V (As := [.long (jL x)]) (rest := []) hx hb hml hown hts (c_X8_thingNumbered l D tc base ad cnt X Y ln hR hFx hLn hCI x (by omega)) (cwV 1 hts gX8_judge_X8_thingNumbered rfl rfl rfl (by first | exact hd_X8_thingNumbered | decide +kernel) ⟨Nat.le_of_ble_eq_true rfl, Nat.le_of_ble_eq_true rfl⟩) hK hw (by first | exact Int.le_refl 0 | omega) (by first | exact zlt hc0 | omega) sl_0_0 rfl rfl hl.1 rfl (Nat.le_of_ble_eq_true rfl) dX8_judge_3 ⟨Nat.le_of_ble_eq_true rfl, Nat.le_of_ble_eq_true rfl⟩) hS (fun u2 H locs p3 hw hS => ?_) (fun z1 u2 H locs p3 hw hS => ?_)
  · obtain ⟨eu2, hsp3, hnp3⟩ := p3
    subst eu2
    refine lv_astore_nN (lv' := [(2, .null), (0, .ref (ad 0 0)), (1, .int (jI x))]) hx hb dX8_judge_6 rfl hl (by decide) rfl (fun ls hl => ?_)
    refine lv_aload_nN hx hb dX8_judge_7 rfl (lv_at hl 0 rfl) ?_
    refine lv_ifnonnullN hx hb dX8_judge_8 ?_
    refine lv_iconst (v := jI (-1)) hx hb dX8_judge_11 rfl ?_
    rw [hQ9]
    refine ret_i (mc := 0) (ms := 0) hx hb hr hlocks hw hS (by first | exact Nat.le_of_ble_eq_true rfl | omega) (by first | exact Nat.le_of_ble_eq_true rfl | omega) dX8_judge_12 ?_
    exact ⟨X, rfl, hR, Frm.rf, hCI, by omega, Or.inl ⟨hnp3 rfl, by omega⟩, rfl⟩
  · obtain ⟨eu2, hsp3, hnp3⟩ := p3
    subst eu2
    obtain ⟨ezz1, p3⟩ := hsp3 z1 rfl
    refine lv_astore_n (lv' := [(2, .ref (ad 15 z1)), (0, .ref (ad 0 0)), (1, .int (jI x))]) hx hb dX8_judge_6 rfl hl (by decide) rfl (fun ls hl => ?_)
    refine lv_aload_n hx hb dX8_judge_7 rfl (lv_at hl 0 rfl) ?_
    refine lv_ifnonnull (tgt := 13) hx hb dX8_judge_8 (by decide) ?_
    refine lv_aload_n hx hb dX8_judge_13 rfl (lv_at hl 1 rfl) ?_
    refine lv_aload_n hx hb dX8_judge_14 rfl (lv_at hl 0 rfl) ?_
    refine gos_i (run_V (As := [.ref (ad 15 z1)]) (rest := []) hx hb hml hown hts (c_X8_firstFailingCheck l D tc base ad cnt X Y ln hR hFx hLn hCI z1 (by omega) (by omega)) (cwV 1 hts gX8_judge_X8_firstFailingCheck rfl rfl rfl (by first | exact hd_X8_firstFailingCheck | decide +kernel) ⟨Nat.le_of_ble_eq_true rfl, Nat.le_of_ble_eq_true rfl⟩) hK hw (by first | exact Int.le_refl 0 | omega) (by first | exact zlt hc0 | omega) sl_0_0 rfl rfl hl.1 rfl (Nat.le_of_ble_eq_true rfl) dX8_judge_15 ⟨Nat.le_of_ble_eq_true rfl, Nat.le_of_ble_eq_true rfl⟩) hS (fun z4 u5 H locs p6 hw hS => ?_)
    obtain ⟨eu5, p6, hAz4, hBz4⟩ := p6
    subst eu5
    refine lv_istore_n (lv' := [(3, .int (jI z4)), (2, .ref (ad 15 z1)), (0, .ref (ad 0 0)), (1, .int (jI x))]) hx hb dX8_judge_18 rfl hl (by decide) rfl (fun ls hl => ?_)
    refine lv_iload_n hx hb dX8_judge_19 rfl (lv_at hl 0 rfl) ?_
    refine lv_iconst (v := jI (-1)) hx hb dX8_judge_20 rfl ?_
    refine x_icmp_ne (tgt := 28) hx hb (by omega) (by omega) dX8_judge_21 (by decide) (fun c7 => ?_) (fun c7 => ?_)
    · refine lv_aload_n hx hb dX8_judge_28 rfl (lv_at hl 2 rfl) ?_
      refine lv_aload_n hx hb dX8_judge_29 rfl (lv_at hl 1 rfl) ?_
      refine lv_aload_n hx hb dX8_judge_30 rfl (lv_at hl 1 rfl) ?_
      refine x_getr (jz := 0) hx hb hf6 hw (by omega) (by omega) sl_15_0 rfl lk97 dX8_judge_31 (fun y8 => ?_) (fun r9 y8 gr9 lr9 => ?_)
      · exfalso
        exact absurd y8 (hCI.2.2.2.2.1 z1 (by omega) (by omega))
      · refine x_geto hx hb hf7 hw (by omega) (by omega) sl_19_7 lk118 dX8_judge_34 ?_
        refine lv_iload_n hx hb dX8_judge_37 rfl (lv_at hl 0 rfl) ?_
        have hlt := hAz4 r9 y8
        refine x_aald hx hb hK.1 hw (by omega) (by omega) ar_24 rfl (len_E ar_24 (by first | exact Nat.ne_of_beq_eq_false rfl | decide)) (by omega) (by omega) (by omega) dX8_judge_38 (fun y10 => ?_) (fun r11 y10 gr11 lr11 => ?_)
        · exfalso
          exact absurd y10 (hCI.2.2.2.2.2.1 r9 z4 (by omega) (by omega) (by omega) (by omega))
        · refine gos_i (run_V (As := [.ref (ad 15 z1), .ref (ad 25 r11)]) (rest := []) hx hb hml hown hts (c_X8_failureOf l D tc base ad cnt X Y ln hR hFx hLn hCI z1 r11 (by omega) (by omega) (by omega)) (cwV 2 hts gX8_judge_X8_failureOf rfl rfl rfl (by first | exact hd_X8_failureOf | decide +kernel) ⟨Nat.le_of_ble_eq_true rfl, Nat.le_of_ble_eq_true rfl⟩) hK hw (by first | exact Int.le_refl 0 | omega) (by first | exact zlt hc0 | omega) sl_0_0 rfl rfl hl.1 rfl (Nat.le_of_ble_eq_true rfl) dX8_judge_39 ⟨Nat.le_of_ble_eq_true rfl, Nat.le_of_ble_eq_true rfl⟩) hS (fun z12 u13 H locs p14 hw hS => ?_)
          obtain ⟨eu13, p14⟩ := p14
          subst eu13
          refine gos_i (run_S (As := [.int (jI z12)]) (rest := []) hx hb hml hown hts (c_X8_failed l D tc base ad cnt X Y ln z12 (by omega)) (cwS 1 hts gX8_judge_X8_failed rfl rfl rfl (by first | exact hd_X8_failed | decide +kernel) ⟨Nat.le_of_ble_eq_true rfl, Nat.le_of_ble_eq_true rfl⟩) hK hw rfl hl.1 rfl (Nat.le_of_ble_eq_true rfl) dX8_judge_42 ⟨Nat.le_of_ble_eq_true rfl, Nat.le_of_ble_eq_true rfl⟩) hS (fun z15 u16 H locs p17 hw hS => ?_)
          obtain ⟨eu16, p17⟩ := p17
          subst eu16
          rw [hQ9]
          refine ret_i (mc := 0) (ms := 0) hx hb hr hlocks hw hS (by first | exact Nat.le_of_ble_eq_true rfl | omega) (by first | exact Nat.le_of_ble_eq_true rfl | omega) dX8_judge_45 ?_
          exact ⟨X, rfl, hR, Frm.rf, hCI, by omega, Or.inr ⟨⟨by omega, by omega⟩, z12, (by rw [← ezz1]; rcases hBz4 with ⟨q1, -⟩ | ⟨q1, q2, q3, q4⟩; exfalso; omega; exact Or.inr ⟨(by rw [tyo_some y8, tyo_some y10] at q4; omega), z4, q1, q2, q3, (by rw [tyo_some y8, tyo_some y10]; omega)⟩), Or.inr ⟨(by rcases hBz4 with ⟨q1, -⟩ | ⟨q1, q2, q3, q4⟩; exfalso; omega; rw [tyo_some y8, tyo_some y10] at q4; omega), by omega⟩⟩, rfl⟩
    · refine lv_iconst (v := jI 1) hx hb dX8_judge_24 rfl ?_
      refine lv_goto (tgt := 45) hx hb dX8_judge_25 (by decide) ?_
      rw [hQ9]
      refine ret_i (mc := 0) (ms := 0) hx hb hr hlocks hw hS (by first | exact Nat.le_of_ble_eq_true rfl | omega) (by first | exact Nat.le_of_ble_eq_true rfl | omega) dX8_judge_45 ?_
      exact ⟨X, rfl, hR, Frm.rf, hCI, by omega, Or.inr ⟨⟨by omega, by omega⟩, 0, (by rw [← ezz1]; rcases hBz4 with ⟨q1, q2⟩ | ⟨q1, -⟩; exact Or.inl ⟨rfl, q2⟩; exfalso; omega), Or.inl ⟨rfl, by omega⟩⟩, rfl⟩

set_option maxHeartbeats 4000000 in
set_option maxRecDepth 100000 in
theorem c_X8_saved (l : Launch) (D : va_G) (tc : Nat → ClassId) (base : Nat) (ad : Nat → Int → Nat) (cnt : Nat → Int) (X : Nat → Int → Int → Int) (Y : Nat → Int → Int → Option Int) (ln : Int → Int) (hR : Rng X) (hFx : Fx cnt) (hLn : LnOK ln) (hCI : CInv cnt X Y ln) (sv what : Int) (hsv : -2147483648 ≤ sv ∧ sv ≤ 2147483647) (hwhat : -2147483648 ≤ what ∧ what ≤ 2147483647) : KI l D tc base yX8_saved wsX8_saved ({ frames := 1, cells := 0, slots := 0, locals := 21 } : Room) [.ref (ad 0 0), .int (jI sv), .int (jI what)] (ad, cnt, X, Y, ln) 0 0 (fun z u => ∃ (X1 : Nat → Int → Int → Int), u = (ad, cnt, X1, Y, ln) ∧ Rng X1 ∧ Frm [] X X1 ∧ CInv cnt X1 Y ln ∧ (-2147483648 ≤ z ∧ z ≤ 2147483647) ∧ ((¬ (0 ≤ sv ∧ sv < 4) ∧ z = -1) ∨ ((0 ≤ sv ∧ sv < 4) ∧ what = 0 ∧ z = X 7 (tyo (Y 4 0 sv)) 0) ∨ ((0 ≤ sv ∧ sv < 4) ∧ what = 1 ∧ z = X 7 (tyo (Y 4 0 sv)) 6) ∨ ((0 ≤ sv ∧ sv < 4) ∧ what ≠ 0 ∧ what ≠ 1 ∧ z = -2)) ∧ X1 = X) := by
  refine K_of (cc := cX8_saved) (maxL := 3) (ret := (some .int)) (by decide) rfl (Nat.le_of_ble_eq_true rfl) ?_
  intro p e s m below meth c ls hx hb hr hml hown hts hlocks hl hK hw hS
  have hown : s.vm.findClass RX8 = some m.cls := hown
  obtain ⟨av9, hav9⟩ : ∃ a9 : Array Value, a9 = ([.ref (ad 0 0), .int (jI sv), .int (jI what)] : List Value).toArray := ⟨_, rfl⟩
  rw [← hav9] at hts ⊢
  obtain ⟨Q9, hQ9⟩ : ∃ q9Q : State → Prop, q9Q = MQ below (QI D tc base (fun z u => ∃ (X1 : Nat → Int → Int → Int), u = (ad, cnt, X1, Y, ln) ∧ Rng X1 ∧ Frm [] X X1 ∧ CInv cnt X1 Y ln ∧ (-2147483648 ≤ z ∧ z ≤ 2147483647) ∧ ((¬ (0 ≤ sv ∧ sv < 4) ∧ z = -1) ∨ ((0 ≤ sv ∧ sv < 4) ∧ what = 0 ∧ z = X 7 (tyo (Y 4 0 sv)) 0) ∨ ((0 ≤ sv ∧ sv < 4) ∧ what = 1 ∧ z = X 7 (tyo (Y 4 0 sv)) 6) ∨ ((0 ≤ sv ∧ sv < 4) ∧ what ≠ 0 ∧ what ≠ 1 ∧ z = -2)) ∧ X1 = X)) av9 s 0 0 (frA base) := ⟨_, rfl⟩
  rw [← hQ9]
  have hi4 : ∀ w ∈ wsX40, w ∈ wsX8_saved := fun w h => List.mem_cons_of_mem _ (List.mem_append_right _ h)
  have hf4 : fctx s m _ RX8 wsX8_saved D tc RX4 TX4 9 4 := ⟨hts, hi4, hown, hK.1, rfl⟩
  have hi8 : ∀ w ∈ wsX80, w ∈ wsX8_saved := fun w h => List.mem_cons_of_mem _ (List.mem_append_left _ (List.mem_append_right _ h))
  have hf8 : fctx s m _ RX8 wsX8_saved D tc RX8 TX8 12 8 := ⟨hts, hi8, hown, hK.1, rfl⟩
  have lk27 := hts (.fieldLink RX8 27 (TX8 5).1 (TX8 5).2.1 (TX8 5).2.2.1) (gj_X8_saved_0 _ (gp_h))
  have lk231 := hts (.fieldLink RX8 231 (TX4 0).1 (TX4 0).2.1 (TX4 0).2.2.1) (gj_X8_saved_0 _ (gp_1 gp_h))
  have lk234 := hts (.fieldLink RX8 234 (TX4 6).1 (TX4 6).2.1 (TX4 6).2.2.1) (gj_X8_saved_0 _ (gp_1 (gp_1 gp_h)))
  have hc0 : cnt 0 = 1 := hFx.at 0 1 (by decide)
  have hc4 : cnt 4 = 1 := hFx.at 4 1 (by decide)
  have hc7 : cnt 7 = 6 := hFx.at 7 6 (by decide)
  have hl : lv_has ls 3 [(0, .ref (ad 0 0)), (1, .int (jI sv)), (2, .int (jI what))] := hl
  have ftc : 0 ≤ X 0 0 3 ∧ X 0 0 3 ≤ 30 := hR 0 0 3
  have fty : 0 ≤ X 0 0 1 ∧ X 0 0 1 ≤ 8 := hR 0 0 1
  have hct : cnt 19 = X 0 0 1 := hCI.2.2.2.1.1
  have hfj : 0 ≤ X 29 0 3 ∧ X 29 0 3 ≤ 4 := hR 29 0 3
  have hfn : 0 ≤ X 29 0 1 ∧ X 29 0 1 ≤ 80 := hR 29 0 1
  refine lv_iload_n hx hb dX8_saved_0 rfl (lv_at hl 1 rfl) ?_
  refine lv_iconst (v := jI 4) hx hb dX8_saved_1 rfl ?_
  refine gos_i (run_S (As := [.int (jI sv), .int (jI 4)]) (rest := []) hx hb hml hown hts (c_X8_isBelow l D tc base ad cnt X Y ln sv 4 (by omega) (by omega)) (cwS 2 hts gX8_saved_X8_isBelow rfl rfl rfl (by first | exact hd_X8_isBelow | decide +kernel) ⟨Nat.le_of_ble_eq_true rfl, Nat.le_of_ble_eq_true rfl⟩) hK hw rfl hl.1 rfl (Nat.le_of_ble_eq_true rfl) dX8_saved_2 ⟨Nat.le_of_ble_eq_true rfl, Nat.le_of_ble_eq_true rfl⟩) hS (fun z1 u2 H locs p3 hw hS => ?_)
  obtain ⟨eu2, p3⟩ := p3
  subst eu2
  rcases p3 with ⟨ez1, p3⟩ | ⟨ez1, p3⟩
  · subst ez1
    refine x_if_neT (tgt := 10) hx hb (by omega) (by decide) dX8_saved_5 (by decide) ?_
    refine lv_iload_n hx hb dX8_saved_10 rfl (lv_at hl 2 rfl) ?_
    have tc4 : (jI what).toInt = what := jI_toInt (by omega)
    by_cases c5 : what = 0
    · refine lv_lookup (off := 25) (tgt := 36) hx hb dX8_saved_11 (by decide) (by rw [tc4, c5]; rfl) (by decide) ?_
      refine lv_aload_n hx hb dX8_saved_36 rfl (lv_at hl 0 rfl) ?_
      refine x_geto hx hb hf8 hw (by first | exact Int.le_refl 0 | omega) (by first | exact zlt hc0 | omega) sl_0_5 lk27 dX8_saved_37 ?_
      refine lv_iload_n hx hb dX8_saved_40 rfl (lv_at hl 1 rfl) ?_
      refine x_aald hx hb hK.1 hw (by first | exact Int.le_refl 0 | omega) (by first | exact zlt hc4 | omega) ar_4 rfl (len_E ar_4 (by first | exact Nat.ne_of_beq_eq_false rfl | decide)) (by omega) (by omega) (by omega) dX8_saved_41 (fun y6 => ?_) (fun r7 y6 gr7 lr7 => ?_)
      · exfalso
        exact absurd y6 (hCI.2.2.1.1 sv (by omega) (by omega))
      · refine x_geti (jz := 0) hx hb hf4 hw (by omega) (by omega) sl_7_0 rfl lk231 dX8_saved_42 ?_
        have f8 : 0 ≤ X 7 r7 0 ∧ X 7 r7 0 ≤ 30 := hR 7 r7 0
        rw [hQ9]
        refine ret_i (mc := 0) (ms := 0) hx hb hr hlocks hw hS (by first | exact Nat.le_of_ble_eq_true rfl | omega) (by first | exact Nat.le_of_ble_eq_true rfl | omega) dX8_saved_45 ?_
        have hT9 : tyo (Y 4 0 sv) = r7 := tyo_some y6
        exact ⟨X, rfl, hR, Frm.rf, hCI, by omega, (by rw [hT9]; first | exact Or.inr (Or.inl ⟨(by (try delta Hid at *); omega), by omega, by omega⟩) | exact Or.inr (Or.inr (Or.inl ⟨(by (try delta Hid at *); omega), by omega, by omega⟩)) | exact Or.inl ⟨(fun q => by (try delta Hid at *); omega), by omega⟩ | exact Or.inr (Or.inr (Or.inr (⟨(by (try delta Hid at *); omega), by omega, by omega, by omega⟩)))), rfl⟩
    by_cases c10 : what = 1
    · refine lv_lookup (off := 35) (tgt := 46) hx hb dX8_saved_11 (by decide) (by rw [tc4, c10]; rfl) (by decide) ?_
      refine lv_aload_n hx hb dX8_saved_46 rfl (lv_at hl 0 rfl) ?_
      refine x_geto hx hb hf8 hw (by first | exact Int.le_refl 0 | omega) (by first | exact zlt hc0 | omega) sl_0_5 lk27 dX8_saved_47 ?_
      refine lv_iload_n hx hb dX8_saved_50 rfl (lv_at hl 1 rfl) ?_
      refine x_aald hx hb hK.1 hw (by first | exact Int.le_refl 0 | omega) (by first | exact zlt hc4 | omega) ar_4 rfl (len_E ar_4 (by first | exact Nat.ne_of_beq_eq_false rfl | decide)) (by omega) (by omega) (by omega) dX8_saved_51 (fun y11 => ?_) (fun r12 y11 gr12 lr12 => ?_)
      · exfalso
        exact absurd y11 (hCI.2.2.1.1 sv (by omega) (by omega))
      · refine x_geti (jz := 6) hx hb hf4 hw (by omega) (by omega) sl_7_6 rfl lk234 dX8_saved_52 ?_
        have f13 : 0 ≤ X 7 r12 6 ∧ X 7 r12 6 ≤ 150 := hR 7 r12 6
        rw [hQ9]
        refine ret_i (mc := 0) (ms := 0) hx hb hr hlocks hw hS (by first | exact Nat.le_of_ble_eq_true rfl | omega) (by first | exact Nat.le_of_ble_eq_true rfl | omega) dX8_saved_55 ?_
        have hT14 : tyo (Y 4 0 sv) = r12 := tyo_some y11
        exact ⟨X, rfl, hR, Frm.rf, hCI, by omega, (by rw [hT14]; first | exact Or.inr (Or.inl ⟨(by (try delta Hid at *); omega), by omega, by omega⟩) | exact Or.inr (Or.inr (Or.inl ⟨(by (try delta Hid at *); omega), by omega, by omega⟩)) | exact Or.inl ⟨(fun q => by (try delta Hid at *); omega), by omega⟩ | exact Or.inr (Or.inr (Or.inr (⟨(by (try delta Hid at *); omega), by omega, by omega, by omega⟩)))), rfl⟩
    refine lv_lookup (off := 45) (tgt := 56) hx hb dX8_saved_11 (by decide) (by rw [tc4]; simp [Op.lookupswitch.offset, Ne.symm c5, c5, Ne.symm c10, c10]) (by decide) ?_
    refine lv_bipush (v := jI (-2)) hx hb dX8_saved_56 (by decide) ?_
    rw [hQ9]
    refine ret_i (mc := 0) (ms := 0) hx hb hr hlocks hw hS (by first | exact Nat.le_of_ble_eq_true rfl | omega) (by first | exact Nat.le_of_ble_eq_true rfl | omega) dX8_saved_58 ?_
    exact ⟨X, rfl, hR, Frm.rf, hCI, by omega, (by first | exact Or.inr (Or.inr (Or.inr (⟨(by (try delta Hid at *); omega), by omega, by omega, by omega⟩))) | exact Or.inr (Or.inl ⟨(by (try delta Hid at *); omega), by omega, by omega⟩) | exact Or.inr (Or.inr (Or.inl ⟨(by (try delta Hid at *); omega), by omega, by omega⟩))), rfl⟩
  · subst ez1
    refine x_if_neF (tgt := 10) hx hb (by omega) (by decide) dX8_saved_5 (by decide) ?_
    refine lv_iconst (v := jI (-1)) hx hb dX8_saved_8 rfl ?_
    rw [hQ9]
    refine ret_i (mc := 0) (ms := 0) hx hb hr hlocks hw hS (by first | exact Nat.le_of_ble_eq_true rfl | omega) (by first | exact Nat.le_of_ble_eq_true rfl | omega) dX8_saved_9 ?_
    exact ⟨X, rfl, hR, Frm.rf, hCI, by omega, (by first | exact Or.inl ⟨(fun q => by (try delta Hid at *); omega), by omega⟩ | exact Or.inr (Or.inl ⟨(by (try delta Hid at *); omega), by omega, by omega⟩) | exact Or.inr (Or.inr (Or.inl ⟨(by (try delta Hid at *); omega), by omega, by omega⟩))), rfl⟩

set_option maxHeartbeats 4000000 in
set_option maxRecDepth 100000 in
theorem c_X8_fault (l : Launch) (D : va_G) (tc : Nat → ClassId) (base : Nat) (ad : Nat → Int → Nat) (cnt : Nat → Int) (X : Nat → Int → Int → Int) (Y : Nat → Int → Int → Option Int) (ln : Int → Int) (hR : Rng X) (hFx : Fx cnt) (hLn : LnOK ln) (hCI : CInv cnt X Y ln) (what : Int) (hwhat : -2147483648 ≤ what ∧ what ≤ 2147483647) : KI l D tc base yX8_fault wsX8_fault ({ frames := 0, cells := 0, slots := 0, locals := 0 } : Room) [.ref (ad 0 0), .int (jI what)] (ad, cnt, X, Y, ln) 0 0 (fun z u => ∃ (X1 : Nat → Int → Int → Int), u = (ad, cnt, X1, Y, ln) ∧ Rng X1 ∧ Frm [] X X1 ∧ CInv cnt X1 Y ln ∧ (-2147483648 ≤ z ∧ z ≤ 2147483647)) := by
  refine K_of (cc := cX8_fault) (maxL := 2) (ret := (some .int)) (by decide) rfl (Nat.le_of_ble_eq_true rfl) ?_
  intro p e s m below meth c ls hx hb hr hml hown hts hlocks hl hK hw hS
  have hown : s.vm.findClass RX8 = some m.cls := hown
  obtain ⟨av9, hav9⟩ : ∃ a9 : Array Value, a9 = ([.ref (ad 0 0), .int (jI what)] : List Value).toArray := ⟨_, rfl⟩
  rw [← hav9] at hts ⊢
  obtain ⟨Q9, hQ9⟩ : ∃ q9Q : State → Prop, q9Q = MQ below (QI D tc base (fun z u => ∃ (X1 : Nat → Int → Int → Int), u = (ad, cnt, X1, Y, ln) ∧ Rng X1 ∧ Frm [] X X1 ∧ CInv cnt X1 Y ln ∧ (-2147483648 ≤ z ∧ z ≤ 2147483647))) av9 s 0 0 (frA base) := ⟨_, rfl⟩
  rw [← hQ9]
  have hi1 : ∀ w ∈ wsX10, w ∈ wsX8_fault := fun w h => List.mem_cons_of_mem _ (List.mem_append_right _ h)
  have hf1 : fctx s m _ RX8 wsX8_fault D tc RX1 TX1 4 1 := ⟨hts, hi1, hown, hK.1, rfl⟩
  have hi8 : ∀ w ∈ wsX80, w ∈ wsX8_fault := fun w h => List.mem_cons_of_mem _ (List.mem_append_left _ (List.mem_append_right _ h))
  have hf8 : fctx s m _ RX8 wsX8_fault D tc RX8 TX8 12 8 := ⟨hts, hi8, hown, hK.1, rfl⟩
  have lk58 := hts (.fieldLink RX8 58 (TX8 11).1 (TX8 11).2.1 (TX8 11).2.2.1) (gj_X8_fault_0 _ (gp_h))
  have lk248 := hts (.fieldLink RX8 248 (TX1 0).1 (TX1 0).2.1 (TX1 0).2.2.1) (gj_X8_fault_0 _ (gp_1 gp_h))
  have lk252 := hts (.fieldLink RX8 252 (TX1 1).1 (TX1 1).2.1 (TX1 1).2.2.1) (gj_X8_fault_0 _ (gp_1 (gp_1 gp_h)))
  have lk255 := hts (.fieldLink RX8 255 (TX1 2).1 (TX1 2).2.1 (TX1 2).2.2.1) (gj_X8_fault_0 _ (gp_1 (gp_1 (gp_1 gp_h))))
  have lk258 := hts (.fieldLink RX8 258 (TX1 3).1 (TX1 3).2.1 (TX1 3).2.2.1) (gj_X8_fault_0 _ (gp_4 gp_h))
  have hc0 : cnt 0 = 1 := hFx.at 0 1 (by decide)
  have hc32 : cnt 32 = 1 := hFx.at 32 1 (by decide)
  have hl : lv_has ls 2 [(0, .ref (ad 0 0)), (1, .int (jI what))] := hl
  have ftc : 0 ≤ X 0 0 3 ∧ X 0 0 3 ≤ 30 := hR 0 0 3
  have fty : 0 ≤ X 0 0 1 ∧ X 0 0 1 ≤ 8 := hR 0 0 1
  have hct : cnt 19 = X 0 0 1 := hCI.2.2.2.1.1
  have hfj : 0 ≤ X 29 0 3 ∧ X 29 0 3 ≤ 4 := hR 29 0 3
  have hfn : 0 ≤ X 29 0 1 ∧ X 29 0 1 ≤ 80 := hR 29 0 1
  refine lv_aload_n hx hb dX8_fault_0 rfl (lv_at hl 0 rfl) ?_
  refine x_geto hx hb hf8 hw (by first | exact Int.le_refl 0 | omega) (by first | exact zlt hc0 | omega) sl_0_11 lk58 dX8_fault_1 ?_
  refine x_geti (jz := 0) hx hb hf1 hw (by first | exact Int.le_refl 0 | omega) (by first | exact zlt hc32 | omega) sl_32_0 rfl lk248 dX8_fault_4 ?_
  have f1 : 0 ≤ X 32 0 0 ∧ X 32 0 0 ≤ 1 := hR 32 0 0
  refine x_if_ne (tgt := 13) hx hb (by omega) dX8_fault_7 (by decide) (fun c2 => ?_) (fun c2 => ?_)
  · refine lv_iload_n hx hb dX8_fault_13 rfl (lv_at hl 1 rfl) ?_
    have tc3 : (jI what).toInt = what := jI_toInt (by omega)
    by_cases c3 : what < 0 ∨ 2 < what
    · refine lv_tableOut (tgt := 64) hx hb dX8_fault_14 (by rw [tc3]; exact c3) (by decide) ?_
      refine lv_bipush (v := jI (-2)) hx hb dX8_fault_64 (by decide) ?_
      rw [hQ9]
      refine ret_i (mc := 0) (ms := 0) hx hb hr hlocks hw hS (by first | exact Nat.le_of_ble_eq_true rfl | omega) (by first | exact Nat.le_of_ble_eq_true rfl | omega) dX8_fault_66 ?_
      exact ⟨X, rfl, hR, Frm.rf, hCI, by omega⟩
    by_cases c4 : what = 0
    · refine lv_tableIn (off := 26) (tgt := 40) hx hb dX8_fault_14 (by rw [tc3]; omega) (by rw [tc3]; omega) (by rw [tc3, c4]; rfl) (by decide) ?_
      refine lv_aload_n hx hb dX8_fault_40 rfl (lv_at hl 0 rfl) ?_
      refine x_geto hx hb hf8 hw (by first | exact Int.le_refl 0 | omega) (by first | exact zlt hc0 | omega) sl_0_11 lk58 dX8_fault_41 ?_
      refine x_geti (jz := 1) hx hb hf1 hw (by first | exact Int.le_refl 0 | omega) (by first | exact zlt hc32 | omega) sl_32_1 rfl lk252 dX8_fault_44 ?_
      have f5 : (-2147483648) ≤ X 32 0 1 ∧ X 32 0 1 ≤ 2147483647 := hR 32 0 1
      rw [hQ9]
      refine ret_i (mc := 0) (ms := 0) hx hb hr hlocks hw hS (by first | exact Nat.le_of_ble_eq_true rfl | omega) (by first | exact Nat.le_of_ble_eq_true rfl | omega) dX8_fault_47 ?_
      exact ⟨X, rfl, hR, Frm.rf, hCI, by omega⟩
    by_cases c6 : what = 1
    · refine lv_tableIn (off := 34) (tgt := 48) hx hb dX8_fault_14 (by rw [tc3]; omega) (by rw [tc3]; omega) (by rw [tc3, c6]; rfl) (by decide) ?_
      refine lv_aload_n hx hb dX8_fault_48 rfl (lv_at hl 0 rfl) ?_
      refine x_geto hx hb hf8 hw (by first | exact Int.le_refl 0 | omega) (by first | exact zlt hc0 | omega) sl_0_11 lk58 dX8_fault_49 ?_
      refine x_geti (jz := 2) hx hb hf1 hw (by first | exact Int.le_refl 0 | omega) (by first | exact zlt hc32 | omega) sl_32_2 rfl lk255 dX8_fault_52 ?_
      have f7 : (-2147483648) ≤ X 32 0 2 ∧ X 32 0 2 ≤ 2147483647 := hR 32 0 2
      rw [hQ9]
      refine ret_i (mc := 0) (ms := 0) hx hb hr hlocks hw hS (by first | exact Nat.le_of_ble_eq_true rfl | omega) (by first | exact Nat.le_of_ble_eq_true rfl | omega) dX8_fault_55 ?_
      exact ⟨X, rfl, hR, Frm.rf, hCI, by omega⟩
    have c8 : what = 2 := by omega
    refine lv_tableIn (off := 42) (tgt := 56) hx hb dX8_fault_14 (by rw [tc3]; omega) (by rw [tc3]; omega) (by rw [tc3, c8]; rfl) (by decide) ?_
    refine lv_aload_n hx hb dX8_fault_56 rfl (lv_at hl 0 rfl) ?_
    refine x_geto hx hb hf8 hw (by first | exact Int.le_refl 0 | omega) (by first | exact zlt hc0 | omega) sl_0_11 lk58 dX8_fault_57 ?_
    refine x_geti (jz := 3) hx hb hf1 hw (by first | exact Int.le_refl 0 | omega) (by first | exact zlt hc32 | omega) sl_32_3 rfl lk258 dX8_fault_60 ?_
    have f9 : (-2147483648) ≤ X 32 0 3 ∧ X 32 0 3 ≤ 2147483647 := hR 32 0 3
    rw [hQ9]
    refine ret_i (mc := 0) (ms := 0) hx hb hr hlocks hw hS (by first | exact Nat.le_of_ble_eq_true rfl | omega) (by first | exact Nat.le_of_ble_eq_true rfl | omega) dX8_fault_63 ?_
    exact ⟨X, rfl, hR, Frm.rf, hCI, by omega⟩
  · refine lv_bipush (v := jI (-9)) hx hb dX8_fault_10 (by decide) ?_
    rw [hQ9]
    refine ret_i (mc := 0) (ms := 0) hx hb hr hlocks hw hS (by first | exact Nat.le_of_ble_eq_true rfl | omega) (by first | exact Nat.le_of_ble_eq_true rfl | omega) dX8_fault_12 ?_
    exact ⟨X, rfl, hR, Frm.rf, hCI, by omega⟩

set_option maxHeartbeats 4000000 in
set_option maxRecDepth 100000 in
theorem c_X8_count (l : Launch) (D : va_G) (tc : Nat → ClassId) (base : Nat) (ad : Nat → Int → Nat) (cnt : Nat → Int) (X : Nat → Int → Int → Int) (Y : Nat → Int → Int → Option Int) (ln : Int → Int) (hR : Rng X) (hFx : Fx cnt) (hLn : LnOK ln) (hCI : CInv cnt X Y ln) (what : Int) (hwhat : -2147483648 ≤ what ∧ what ≤ 2147483647) : KI l D tc base yX8_count wsX8_count ({ frames := 0, cells := 0, slots := 0, locals := 0 } : Room) [.ref (ad 0 0), .int (jI what)] (ad, cnt, X, Y, ln) 0 0 (fun z u => ∃ (X1 : Nat → Int → Int → Int), u = (ad, cnt, X1, Y, ln) ∧ Rng X1 ∧ Frm [] X X1 ∧ CInv cnt X1 Y ln ∧ (-2147483648 ≤ z ∧ z ≤ 2147483647) ∧ ((what = 0 ∧ z = X 0 0 1) ∨ (what = 1 ∧ z = X 0 0 3) ∨ (what = 2 ∧ z = X 29 0 3) ∨ (what = 3 ∧ z = X 29 0 1) ∨ (¬ (0 ≤ what ∧ what ≤ 3) ∧ z = -2)) ∧ X1 = X) := by
  refine K_of (cc := cX8_count) (maxL := 2) (ret := (some .int)) (by decide) rfl (Nat.le_of_ble_eq_true rfl) ?_
  intro p e s m below meth c ls hx hb hr hml hown hts hlocks hl hK hw hS
  have hown : s.vm.findClass RX8 = some m.cls := hown
  obtain ⟨av9, hav9⟩ : ∃ a9 : Array Value, a9 = ([.ref (ad 0 0), .int (jI what)] : List Value).toArray := ⟨_, rfl⟩
  rw [← hav9] at hts ⊢
  obtain ⟨Q9, hQ9⟩ : ∃ q9Q : State → Prop, q9Q = MQ below (QI D tc base (fun z u => ∃ (X1 : Nat → Int → Int → Int), u = (ad, cnt, X1, Y, ln) ∧ Rng X1 ∧ Frm [] X X1 ∧ CInv cnt X1 Y ln ∧ (-2147483648 ≤ z ∧ z ≤ 2147483647) ∧ ((what = 0 ∧ z = X 0 0 1) ∨ (what = 1 ∧ z = X 0 0 3) ∨ (what = 2 ∧ z = X 29 0 3) ∨ (what = 3 ∧ z = X 29 0 1) ∨ (¬ (0 ≤ what ∧ what ≤ 3) ∧ z = -2)) ∧ X1 = X)) av9 s 0 0 (frA base) := ⟨_, rfl⟩
  rw [← hQ9]
  have hi2 : ∀ w ∈ wsX20, w ∈ wsX8_count := fun w h => List.mem_cons_of_mem _ (List.mem_append_right _ h)
  have hf2 : fctx s m _ RX8 wsX8_count D tc RX2 TX2 4 2 := ⟨hts, hi2, hown, hK.1, rfl⟩
  have hi8 : ∀ w ∈ wsX80, w ∈ wsX8_count := fun w h => List.mem_cons_of_mem _ (List.mem_append_left _ (List.mem_append_right _ h))
  have hf8 : fctx s m _ RX8 wsX8_count D tc RX8 TX8 12 8 := ⟨hts, hi8, hown, hK.1, rfl⟩
  have lk51 := hts (.fieldLink RX8 51 (TX8 10).1 (TX8 10).2.1 (TX8 10).2.2.1) (gj_X8_count_0 _ (gp_1 (gp_1 gp_h)))
  have lk63 := hts (.fieldLink RX8 63 (TX8 1).1 (TX8 1).2.1 (TX8 1).2.2.1) (gj_X8_count_0 _ (gp_h))
  have lk82 := hts (.fieldLink RX8 82 (TX2 3).1 (TX2 3).2.1 (TX2 3).2.2.1) (gj_X8_count_0 _ (gp_1 (gp_1 (gp_1 gp_h))))
  have lk94 := hts (.fieldLink RX8 94 (TX8 3).1 (TX8 3).2.1 (TX8 3).2.2.1) (gj_X8_count_0 _ (gp_1 gp_h))
  have lk272 := hts (.fieldLink RX8 272 (TX2 1).1 (TX2 1).2.1 (TX2 1).2.2.1) (gj_X8_count_0 _ (gp_4 gp_h))
  have hc0 : cnt 0 = 1 := hFx.at 0 1 (by decide)
  have hc29 : cnt 29 = 1 := hFx.at 29 1 (by decide)
  have hl : lv_has ls 2 [(0, .ref (ad 0 0)), (1, .int (jI what))] := hl
  have ftc : 0 ≤ X 0 0 3 ∧ X 0 0 3 ≤ 30 := hR 0 0 3
  have fty : 0 ≤ X 0 0 1 ∧ X 0 0 1 ≤ 8 := hR 0 0 1
  have hct : cnt 19 = X 0 0 1 := hCI.2.2.2.1.1
  have hfj : 0 ≤ X 29 0 3 ∧ X 29 0 3 ≤ 4 := hR 29 0 3
  have hfn : 0 ≤ X 29 0 1 ∧ X 29 0 1 ≤ 80 := hR 29 0 1
  refine lv_iload_n hx hb dX8_count_0 rfl (lv_at hl 1 rfl) ?_
  have tc1 : (jI what).toInt = what := jI_toInt (by omega)
  by_cases c1 : what < 0 ∨ 3 < what
  · refine lv_tableOut (tgt := 58) hx hb dX8_count_1 (by rw [tc1]; exact c1) (by decide) ?_
    refine lv_bipush (v := jI (-2)) hx hb dX8_count_58 (by decide) ?_
    rw [hQ9]
    refine ret_i (mc := 0) (ms := 0) hx hb hr hlocks hw hS (by first | exact Nat.le_of_ble_eq_true rfl | omega) (by first | exact Nat.le_of_ble_eq_true rfl | omega) dX8_count_60 ?_
    exact ⟨X, rfl, hR, Frm.rf, hCI, by omega, (by first | exact Or.inr (Or.inr (Or.inr (Or.inr (⟨(fun q => by (try delta Hid at *); omega), by omega⟩)))) | exact Or.inl ⟨by omega, by omega⟩ | exact Or.inr (Or.inl ⟨by omega, by omega⟩) | exact Or.inr (Or.inr (Or.inl ⟨by omega, by omega⟩)) | exact Or.inr (Or.inr (Or.inr (Or.inl ⟨by omega, by omega⟩)))), rfl⟩
  by_cases c2 : what = 0
  · refine lv_tableIn (off := 31) (tgt := 32) hx hb dX8_count_1 (by rw [tc1]; omega) (by rw [tc1]; omega) (by rw [tc1, c2]; rfl) (by decide) ?_
    refine lv_aload_n hx hb dX8_count_32 rfl (lv_at hl 0 rfl) ?_
    refine x_geti (jz := 1) hx hb hf8 hw (by first | exact Int.le_refl 0 | omega) (by first | exact zlt hc0 | omega) sl_0_1 rfl lk63 dX8_count_33 ?_
    have f3 : 0 ≤ X 0 0 1 ∧ X 0 0 1 ≤ 8 := hR 0 0 1
    rw [hQ9]
    refine ret_i (mc := 0) (ms := 0) hx hb hr hlocks hw hS (by first | exact Nat.le_of_ble_eq_true rfl | omega) (by first | exact Nat.le_of_ble_eq_true rfl | omega) dX8_count_36 ?_
    exact ⟨X, rfl, hR, Frm.rf, hCI, by omega, (by first | exact Or.inl ⟨by omega, by omega⟩ | exact Or.inr (Or.inl ⟨by omega, by omega⟩) | exact Or.inr (Or.inr (Or.inl ⟨by omega, by omega⟩)) | exact Or.inr (Or.inr (Or.inr (Or.inl ⟨by omega, by omega⟩))) | exact Or.inr (Or.inr (Or.inr (Or.inr (⟨(fun q => by (try delta Hid at *); omega), by omega⟩))))), rfl⟩
  by_cases c4 : what = 1
  · refine lv_tableIn (off := 36) (tgt := 37) hx hb dX8_count_1 (by rw [tc1]; omega) (by rw [tc1]; omega) (by rw [tc1, c4]; rfl) (by decide) ?_
    refine lv_aload_n hx hb dX8_count_37 rfl (lv_at hl 0 rfl) ?_
    refine x_geti (jz := 3) hx hb hf8 hw (by first | exact Int.le_refl 0 | omega) (by first | exact zlt hc0 | omega) sl_0_3 rfl lk94 dX8_count_38 ?_
    have f5 : 0 ≤ X 0 0 3 ∧ X 0 0 3 ≤ 30 := hR 0 0 3
    rw [hQ9]
    refine ret_i (mc := 0) (ms := 0) hx hb hr hlocks hw hS (by first | exact Nat.le_of_ble_eq_true rfl | omega) (by first | exact Nat.le_of_ble_eq_true rfl | omega) dX8_count_41 ?_
    exact ⟨X, rfl, hR, Frm.rf, hCI, by omega, (by first | exact Or.inr (Or.inl ⟨by omega, by omega⟩) | exact Or.inl ⟨by omega, by omega⟩ | exact Or.inr (Or.inr (Or.inl ⟨by omega, by omega⟩)) | exact Or.inr (Or.inr (Or.inr (Or.inl ⟨by omega, by omega⟩))) | exact Or.inr (Or.inr (Or.inr (Or.inr (⟨(fun q => by (try delta Hid at *); omega), by omega⟩))))), rfl⟩
  by_cases c6 : what = 2
  · refine lv_tableIn (off := 41) (tgt := 42) hx hb dX8_count_1 (by rw [tc1]; omega) (by rw [tc1]; omega) (by rw [tc1, c6]; rfl) (by decide) ?_
    refine lv_aload_n hx hb dX8_count_42 rfl (lv_at hl 0 rfl) ?_
    refine x_geto hx hb hf8 hw (by first | exact Int.le_refl 0 | omega) (by first | exact zlt hc0 | omega) sl_0_10 lk51 dX8_count_43 ?_
    refine x_geti (jz := 3) hx hb hf2 hw (by first | exact Int.le_refl 0 | omega) (by first | exact zlt hc29 | omega) sl_29_3 rfl lk82 dX8_count_46 ?_
    have f7 : 0 ≤ X 29 0 3 ∧ X 29 0 3 ≤ 4 := hR 29 0 3
    rw [hQ9]
    refine ret_i (mc := 0) (ms := 0) hx hb hr hlocks hw hS (by first | exact Nat.le_of_ble_eq_true rfl | omega) (by first | exact Nat.le_of_ble_eq_true rfl | omega) dX8_count_49 ?_
    exact ⟨X, rfl, hR, Frm.rf, hCI, by omega, (by first | exact Or.inr (Or.inr (Or.inl ⟨by omega, by omega⟩)) | exact Or.inl ⟨by omega, by omega⟩ | exact Or.inr (Or.inl ⟨by omega, by omega⟩) | exact Or.inr (Or.inr (Or.inr (Or.inl ⟨by omega, by omega⟩))) | exact Or.inr (Or.inr (Or.inr (Or.inr (⟨(fun q => by (try delta Hid at *); omega), by omega⟩))))), rfl⟩
  have c8 : what = 3 := by omega
  refine lv_tableIn (off := 49) (tgt := 50) hx hb dX8_count_1 (by rw [tc1]; omega) (by rw [tc1]; omega) (by rw [tc1, c8]; rfl) (by decide) ?_
  refine lv_aload_n hx hb dX8_count_50 rfl (lv_at hl 0 rfl) ?_
  refine x_geto hx hb hf8 hw (by first | exact Int.le_refl 0 | omega) (by first | exact zlt hc0 | omega) sl_0_10 lk51 dX8_count_51 ?_
  refine x_geti (jz := 1) hx hb hf2 hw (by first | exact Int.le_refl 0 | omega) (by first | exact zlt hc29 | omega) sl_29_1 rfl lk272 dX8_count_54 ?_
  have f9 : 0 ≤ X 29 0 1 ∧ X 29 0 1 ≤ 80 := hR 29 0 1
  rw [hQ9]
  refine ret_i (mc := 0) (ms := 0) hx hb hr hlocks hw hS (by first | exact Nat.le_of_ble_eq_true rfl | omega) (by first | exact Nat.le_of_ble_eq_true rfl | omega) dX8_count_57 ?_
  exact ⟨X, rfl, hR, Frm.rf, hCI, by omega, (by first | exact Or.inr (Or.inr (Or.inr (Or.inl ⟨by omega, by omega⟩))) | exact Or.inl ⟨by omega, by omega⟩ | exact Or.inr (Or.inl ⟨by omega, by omega⟩) | exact Or.inr (Or.inr (Or.inl ⟨by omega, by omega⟩)) | exact Or.inr (Or.inr (Or.inr (Or.inr (⟨(fun q => by (try delta Hid at *); omega), by omega⟩))))), rfl⟩

set_option maxHeartbeats 4000000 in
set_option maxRecDepth 100000 in
theorem c_X8_mark (l : Launch) (D : va_G) (tc : Nat → ClassId) (base : Nat) (ad : Nat → Int → Nat) (cnt : Nat → Int) (X : Nat → Int → Int → Int) (Y : Nat → Int → Int → Option Int) (ln : Int → Int) (hR : Rng X) (hFx : Fx cnt) (hLn : LnOK ln) (hCI : CInv cnt X Y ln)  : KI l D tc base yX8_mark wsX8_mark ({ frames := 1, cells := 0, slots := 0, locals := 20 } : Room) [.ref (ad 0 0)] (ad, cnt, X, Y, ln) 0 0 (fun z u => ∃ (X1 : Nat → Int → Int → Int), u = (ad, cnt, X1, Y, ln) ∧ Rng X1 ∧ Frm [2904, 3100] X X1 ∧ CInv cnt X1 Y ln ∧ (-2147483648 ≤ z ∧ z ≤ 2147483647) ∧ ((4 ≤ X 29 0 3 ∧ z = -4 ∧ X1 29 0 3 = X 29 0 3) ∨ (X 29 0 3 < 4 ∧ z = X 29 0 3 + 1 ∧ X1 29 0 3 = X 29 0 3 + 1)) ∧ (0 ≤ z → X1 31 0 (X 29 0 3) = X 29 0 1) ∧ (∀ j, j ≠ X 29 0 3 → X1 31 0 j = X 31 0 j) ∧ (z < 0 → X1 = X)) := by
  refine K_of (cc := cX8_mark) (maxL := 1) (ret := (some .int)) (by decide) rfl (Nat.le_of_ble_eq_true rfl) ?_
  intro p e s m below meth c ls hx hb hr hml hown hts hlocks hl hK hw hS
  have hown : s.vm.findClass RX8 = some m.cls := hown
  obtain ⟨av9, hav9⟩ : ∃ a9 : Array Value, a9 = ([.ref (ad 0 0)] : List Value).toArray := ⟨_, rfl⟩
  rw [← hav9] at hts ⊢
  obtain ⟨Q9, hQ9⟩ : ∃ q9Q : State → Prop, q9Q = MQ below (QI D tc base (fun z u => ∃ (X1 : Nat → Int → Int → Int), u = (ad, cnt, X1, Y, ln) ∧ Rng X1 ∧ Frm [2904, 3100] X X1 ∧ CInv cnt X1 Y ln ∧ (-2147483648 ≤ z ∧ z ≤ 2147483647) ∧ ((4 ≤ X 29 0 3 ∧ z = -4 ∧ X1 29 0 3 = X 29 0 3) ∨ (X 29 0 3 < 4 ∧ z = X 29 0 3 + 1 ∧ X1 29 0 3 = X 29 0 3 + 1)) ∧ (0 ≤ z → X1 31 0 (X 29 0 3) = X 29 0 1) ∧ (∀ j, j ≠ X 29 0 3 → X1 31 0 j = X 31 0 j) ∧ (z < 0 → X1 = X))) av9 s 0 0 (frA base) := ⟨_, rfl⟩
  rw [← hQ9]
  have hi2 : ∀ w ∈ wsX20, w ∈ wsX8_mark := fun w h => List.mem_cons_of_mem _ (List.mem_append_right _ h)
  have hf2 : fctx s m _ RX8 wsX8_mark D tc RX2 TX2 4 2 := ⟨hts, hi2, hown, hK.1, rfl⟩
  have hi8 : ∀ w ∈ wsX80, w ∈ wsX8_mark := fun w h => List.mem_cons_of_mem _ (List.mem_append_left _ (List.mem_append_right _ h))
  have hf8 : fctx s m _ RX8 wsX8_mark D tc RX8 TX8 12 8 := ⟨hts, hi8, hown, hK.1, rfl⟩
  have lk51 := hts (.fieldLink RX8 51 (TX8 10).1 (TX8 10).2.1 (TX8 10).2.2.1) (gj_X8_mark_0 _ (gp_h))
  have lk82 := hts (.fieldLink RX8 82 (TX2 3).1 (TX2 3).2.1 (TX2 3).2.2.1) (gj_X8_mark_0 _ (gp_1 gp_h))
  have hc0 : cnt 0 = 1 := hFx.at 0 1 (by decide)
  have hc29 : cnt 29 = 1 := hFx.at 29 1 (by decide)
  have hl : lv_has ls 1 [(0, .ref (ad 0 0))] := hl
  have ftc : 0 ≤ X 0 0 3 ∧ X 0 0 3 ≤ 30 := hR 0 0 3
  have fty : 0 ≤ X 0 0 1 ∧ X 0 0 1 ≤ 8 := hR 0 0 1
  have hct : cnt 19 = X 0 0 1 := hCI.2.2.2.1.1
  have hfj : 0 ≤ X 29 0 3 ∧ X 29 0 3 ≤ 4 := hR 29 0 3
  have hfn : 0 ≤ X 29 0 1 ∧ X 29 0 1 ≤ 80 := hR 29 0 1
  refine lv_aload_n hx hb dX8_mark_0 rfl (lv_at hl 0 rfl) ?_
  refine x_geto hx hb hf8 hw (by first | exact Int.le_refl 0 | omega) (by first | exact zlt hc0 | omega) sl_0_10 lk51 dX8_mark_1 ?_
  refine x_geti (jz := 3) hx hb hf2 hw (by first | exact Int.le_refl 0 | omega) (by first | exact zlt hc29 | omega) sl_29_3 rfl lk82 dX8_mark_4 ?_
  have f1 : 0 ≤ X 29 0 3 ∧ X 29 0 3 ≤ 4 := hR 29 0 3
  refine lv_iconst (v := jI 4) hx hb dX8_mark_7 rfl ?_
  refine x_icmp_lt (tgt := 14) hx hb (by omega) (by omega) dX8_mark_8 (by decide) (fun c2 => ?_) (fun c2 => ?_)
  · refine lv_aload_n hx hb dX8_mark_14 rfl (lv_at hl 0 rfl) ?_
    refine x_geto hx hb hf8 hw (by first | exact Int.le_refl 0 | omega) (by first | exact zlt hc0 | omega) sl_0_10 lk51 dX8_mark_15 ?_
    refine gos_v (run_V (As := []) (rest := []) hx hb hml hown hts (c_X2_addMark l D tc base ad cnt X Y ln hR hFx hLn hCI (by omega)) (cwV 0 hts gX8_mark_X2_addMark rfl rfl rfl (by first | exact hd_X2_addMark | decide +kernel) ⟨Nat.le_of_ble_eq_true rfl, Nat.le_of_ble_eq_true rfl⟩) hK hw (by first | exact Int.le_refl 0 | omega) (by first | exact zlt hc29 | omega) sl_29_0 rfl rfl hl.1 rfl (Nat.le_of_ble_eq_true rfl) dX8_mark_18 ⟨Nat.le_of_ble_eq_true rfl, Nat.le_of_ble_eq_true rfl⟩) hS (fun u4 H locs p5 hw hS => ?_)
    obtain ⟨X6, eu4, hRX6, hG7, hCIX6, p5, hmkX6⟩ := p5
    subst eu4
    have hFX6 : Frm [2904, 3100] X X6 := Frm.tr Frm.rf (Frm.mono hG7 (by first | exact nls_of rfl | decide))
    refine lv_aload_n hx hb dX8_mark_21 rfl (lv_at hl 0 rfl) ?_
    refine x_geto hx hb hf8 hw (by first | exact Int.le_refl 0 | omega) (by first | exact zlt hc0 | omega) sl_0_10 lk51 dX8_mark_22 ?_
    refine x_geti (jz := 3) hx hb hf2 hw (by first | exact Int.le_refl 0 | omega) (by first | exact zlt hc29 | omega) sl_29_3 rfl lk82 dX8_mark_25 ?_
    have f8 : 0 ≤ X6 29 0 3 ∧ X6 29 0 3 ≤ 4 := hRX6 29 0 3
    rw [hQ9]
    refine ret_i (mc := 0) (ms := 0) hx hb hr hlocks hw hS (by first | exact Nat.le_of_ble_eq_true rfl | omega) (by first | exact Nat.le_of_ble_eq_true rfl | omega) dX8_mark_28 ?_
    exact ⟨X6, rfl, hRX6, hFX6, hCIX6, by omega, (by have h9 := hmkX6.1; omega), (fun _ => (hmkX6).2.1), (hmkX6).2.2, fun q => (by exfalso; have h9 := hmkX6.1; omega)⟩
  · refine lv_bipush (v := jI (-4)) hx hb dX8_mark_11 (by decide) ?_
    rw [hQ9]
    refine ret_i (mc := 0) (ms := 0) hx hb hr hlocks hw hS (by first | exact Nat.le_of_ble_eq_true rfl | omega) (by first | exact Nat.le_of_ble_eq_true rfl | omega) dX8_mark_13 ?_
    exact ⟨X, rfl, hR, Frm.rf, hCI, by omega, by omega, fun q => (by exfalso; omega), (fun j _ => rfl), fun _ => rfl⟩

set_option maxHeartbeats 4000000 in
set_option maxRecDepth 100000 in
theorem c_X8_undo (l : Launch) (D : va_G) (tc : Nat → ClassId) (base : Nat) (ad : Nat → Int → Nat) (cnt : Nat → Int) (X : Nat → Int → Int → Int) (Y : Nat → Int → Int → Option Int) (ln : Int → Int) (hR : Rng X) (hFx : Fx cnt) (hLn : LnOK ln) (hCI : CInv cnt X Y ln)  : KI l D tc base yX8_undo wsX8_undo ({ frames := 2, cells := 0, slots := 0, locals := 43 } : Room) [.ref (ad 0 0)] (ad, cnt, X, Y, ln) 0 0 (fun z u => ∃ (X1 : Nat → Int → Int → Int) (Y1 : Nat → Int → Int → Option Int), u = (ad, cnt, X1, Y1, ln) ∧ Rng X1 ∧ Frm [2904, 2902, 1600, 2700] X X1 ∧ Frm [1700] Y Y1 ∧ CInv cnt X1 Y1 ln ∧ (-2147483648 ≤ z ∧ z ≤ 2147483647) ∧ ((X 29 0 3 = 0 ∧ X1 29 0 3 = 0) ∨ (1 ≤ X 29 0 3 ∧ X1 29 0 3 = X 29 0 3 - 1)) ∧ (X 29 0 3 = 0 → X1 = X ∧ Y1 = Y ∧ z = -3) ∧ (1 ≤ X 29 0 3 → ∃ (V Xa : Nat → Int → Int → Int) (iz : Int), Frm [2904] X V ∧ uTrC (X 29 0 1) ((X 29 0 1 - 1 - iz).toNat) V Y Xa Y1 ∧ (X 31 0 (X 29 0 3 - 1) - 1 ≤ iz ∨ iz = X 29 0 1 - 1) ∧ iz < X 31 0 (X 29 0 3 - 1) ∧ (-1 ≤ iz ∧ iz < X 29 0 1 ∨ iz = -1) ∧ Frm [2902] Xa X1 ∧ X1 29 0 1 = X 31 0 (X 29 0 3 - 1) ∧ z = X 29 0 1 - X 31 0 (X 29 0 3 - 1))) := by
  refine K_of (cc := cX8_undo) (maxL := 1) (ret := (some .int)) (by decide) rfl (Nat.le_of_ble_eq_true rfl) ?_
  intro p e s m below meth c ls hx hb hr hml hown hts hlocks hl hK hw hS
  have hown : s.vm.findClass RX8 = some m.cls := hown
  obtain ⟨av9, hav9⟩ : ∃ a9 : Array Value, a9 = ([.ref (ad 0 0)] : List Value).toArray := ⟨_, rfl⟩
  rw [← hav9] at hts ⊢
  obtain ⟨Q9, hQ9⟩ : ∃ q9Q : State → Prop, q9Q = MQ below (QI D tc base (fun z u => ∃ (X1 : Nat → Int → Int → Int) (Y1 : Nat → Int → Int → Option Int), u = (ad, cnt, X1, Y1, ln) ∧ Rng X1 ∧ Frm [2904, 2902, 1600, 2700] X X1 ∧ Frm [1700] Y Y1 ∧ CInv cnt X1 Y1 ln ∧ (-2147483648 ≤ z ∧ z ≤ 2147483647) ∧ ((X 29 0 3 = 0 ∧ X1 29 0 3 = 0) ∨ (1 ≤ X 29 0 3 ∧ X1 29 0 3 = X 29 0 3 - 1)) ∧ (X 29 0 3 = 0 → X1 = X ∧ Y1 = Y ∧ z = -3) ∧ (1 ≤ X 29 0 3 → ∃ (V Xa : Nat → Int → Int → Int) (iz : Int), Frm [2904] X V ∧ uTrC (X 29 0 1) ((X 29 0 1 - 1 - iz).toNat) V Y Xa Y1 ∧ (X 31 0 (X 29 0 3 - 1) - 1 ≤ iz ∨ iz = X 29 0 1 - 1) ∧ iz < X 31 0 (X 29 0 3 - 1) ∧ (-1 ≤ iz ∧ iz < X 29 0 1 ∨ iz = -1) ∧ Frm [2902] Xa X1 ∧ X1 29 0 1 = X 31 0 (X 29 0 3 - 1) ∧ z = X 29 0 1 - X 31 0 (X 29 0 3 - 1)))) av9 s 0 0 (frA base) := ⟨_, rfl⟩
  rw [← hQ9]
  have hi2 : ∀ w ∈ wsX20, w ∈ wsX8_undo := fun w h => List.mem_cons_of_mem _ (List.mem_append_left _ (List.mem_append_left _ (List.mem_append_left _ (List.mem_append_right _ h))))
  have hf2 : fctx s m _ RX8 wsX8_undo D tc RX2 TX2 4 2 := ⟨hts, hi2, hown, hK.1, rfl⟩
  have hi8 : ∀ w ∈ wsX80, w ∈ wsX8_undo := fun w h => List.mem_cons_of_mem _ (List.mem_append_left _ (List.mem_append_left _ (List.mem_append_left _ (List.mem_append_left _ (List.mem_append_right _ h)))))
  have hf8 : fctx s m _ RX8 wsX8_undo D tc RX8 TX8 12 8 := ⟨hts, hi8, hown, hK.1, rfl⟩
  have lk51 := hts (.fieldLink RX8 51 (TX8 10).1 (TX8 10).2.1 (TX8 10).2.2.1) (gj_X8_undo_0 _ (gp_h))
  have lk82 := hts (.fieldLink RX8 82 (TX2 3).1 (TX2 3).2.1 (TX2 3).2.2.1) (gj_X8_undo_0 _ (gp_1 gp_h))
  have hc0 : cnt 0 = 1 := hFx.at 0 1 (by decide)
  have hc29 : cnt 29 = 1 := hFx.at 29 1 (by decide)
  have hl : lv_has ls 1 [(0, .ref (ad 0 0))] := hl
  have ftc : 0 ≤ X 0 0 3 ∧ X 0 0 3 ≤ 30 := hR 0 0 3
  have fty : 0 ≤ X 0 0 1 ∧ X 0 0 1 ≤ 8 := hR 0 0 1
  have hct : cnt 19 = X 0 0 1 := hCI.2.2.2.1.1
  have hfj : 0 ≤ X 29 0 3 ∧ X 29 0 3 ≤ 4 := hR 29 0 3
  have hfn : 0 ≤ X 29 0 1 ∧ X 29 0 1 ≤ 80 := hR 29 0 1
  refine lv_aload_n hx hb dX8_undo_0 rfl (lv_at hl 0 rfl) ?_
  refine x_geto hx hb hf8 hw (by first | exact Int.le_refl 0 | omega) (by first | exact zlt hc0 | omega) sl_0_10 lk51 dX8_undo_1 ?_
  refine x_geti (jz := 3) hx hb hf2 hw (by first | exact Int.le_refl 0 | omega) (by first | exact zlt hc29 | omega) sl_29_3 rfl lk82 dX8_undo_4 ?_
  have f1 : 0 ≤ X 29 0 3 ∧ X 29 0 3 ≤ 4 := hR 29 0 3
  refine x_if_ne (tgt := 15) hx hb (by omega) dX8_undo_7 (by decide) (fun c2 => ?_) (fun c2 => ?_)
  · refine lv_aload_n hx hb dX8_undo_15 rfl (lv_at hl 0 rfl) ?_
    refine x_geto hx hb hf8 hw (by first | exact Int.le_refl 0 | omega) (by first | exact zlt hc0 | omega) sl_0_10 lk51 dX8_undo_16 ?_
    refine gos_i (run_V (As := []) (rest := []) hx hb hml hown hts (c_X2_undoLatestMark l D tc base ad cnt X Y ln hR hFx hLn hCI (by omega)) (cwV 0 hts gX8_undo_X2_undoLatestMark rfl rfl rfl (by first | exact hd_X2_undoLatestMark | decide +kernel) ⟨Nat.le_of_ble_eq_true rfl, Nat.le_of_ble_eq_true rfl⟩) hK hw (by first | exact Int.le_refl 0 | omega) (by first | exact zlt hc29 | omega) sl_29_0 rfl rfl hl.1 rfl (Nat.le_of_ble_eq_true rfl) dX8_undo_19 ⟨Nat.le_of_ble_eq_true rfl, Nat.le_of_ble_eq_true rfl⟩) hS (fun z3 u4 H locs p5 hw hS => ?_)
    obtain ⟨X6, Y7, eu4, hRX6, hG8, hJ9, hCIX6, p5, humX6, hunX6⟩ := p5
    subst eu4
    have hFX6 : Frm [2904, 2902, 1600, 2700] X X6 := Frm.tr Frm.rf (Frm.mono hG8 (by first | exact nls_of rfl | decide))
    have hHY7 : Frm [1700] Y Y7 := Frm.tr Frm.rf (Frm.mono hJ9 (by first | exact nls_of rfl | decide))
    rw [hQ9]
    refine ret_i (mc := 0) (ms := 0) hx hb hr hlocks hw hS (by first | exact Nat.le_of_ble_eq_true rfl | omega) (by first | exact Nat.le_of_ble_eq_true rfl | omega) dX8_undo_22 ?_
    exact ⟨X6, Y7, rfl, hRX6, hFX6, hHY7, hCIX6, by omega, by omega, fun q => (by exfalso; omega), fun _ => hunX6⟩
  · refine lv_bipush (v := jI (-3)) hx hb dX8_undo_10 (by decide) ?_
    refine lv_goto (tgt := 22) hx hb dX8_undo_12 (by decide) ?_
    rw [hQ9]
    refine ret_i (mc := 0) (ms := 0) hx hb hr hlocks hw hS (by first | exact Nat.le_of_ble_eq_true rfl | omega) (by first | exact Nat.le_of_ble_eq_true rfl | omega) dX8_undo_22 ?_
    exact ⟨X, Y, rfl, hR, Frm.rf, Frm.rf, hCI, by omega, by omega, fun _ => ⟨rfl, rfl, by omega⟩, fun q => (by exfalso; omega)⟩

set_option maxHeartbeats 4000000 in
set_option maxRecDepth 100000 in
theorem c_X8_field (l : Launch) (D : va_G) (tc : Nat → ClassId) (base : Nat) (ad : Nat → Int → Nat) (cnt : Nat → Int) (X : Nat → Int → Int → Int) (Y : Nat → Int → Int → Option Int) (ln : Int → Int) (hR : Rng X) (hFx : Fx cnt) (hLn : LnOK ln) (hCI : CInv cnt X Y ln) (t name lane v : Int) (ht : -2147483648 ≤ t ∧ t ≤ 2147483647) (hname : -2147483648 ≤ name ∧ name ≤ 2147483647) (hlane : -2147483648 ≤ lane ∧ lane ≤ 2147483647) (hv : -9223372036854775808 ≤ v ∧ v ≤ 9223372036854775807) : KI l D tc base yX8_field wsX8_field ({ frames := 2, cells := 0, slots := 0, locals := 42 } : Room) [.ref (ad 0 0), .int (jI t), .int (jI name), .int (jI lane), .long (jL v)] (ad, cnt, X, Y, ln) 0 0 (fun z u => ∃ (X1 : Nat → Int → Int → Int) (Y1 : Nat → Int → Int → Option Int), u = (ad, cnt, X1, Y1, ln) ∧ Rng X1 ∧ Frm [1902, 2000, 2100, 2200, 2300, 1600] X X1 ∧ Frm [1700] Y Y1 ∧ CInv cnt X1 Y1 ln ∧ (-2147483648 ≤ z ∧ z ≤ 2147483647) ∧ ((¬ (0 ≤ t ∧ t < X 0 0 1) ∧ z = -1 ∧ X1 19 t 1 = X 19 t 1) ∨ (0 ≤ t ∧ t < X 0 0 1 ∧ ¬ (0 ≤ name ∧ name < 20 ∧ nmAt (X 20 t) name (X 19 t 1).toNat = -1 ∧ 0 ≤ lane ∧ lane < 6) ∧ z = -2 ∧ X1 19 t 1 = X 19 t 1) ∨ (0 ≤ t ∧ t < X 0 0 1 ∧ (0 ≤ name ∧ name < 20 ∧ nmAt (X 20 t) name (X 19 t 1).toNat = -1 ∧ 0 ≤ lane ∧ lane < 6) ∧ 0 < X 29 0 3 ∧ z = -3 ∧ X1 19 t 1 = X 19 t 1) ∨ (0 ≤ t ∧ t < X 0 0 1 ∧ (0 ≤ name ∧ name < 20 ∧ nmAt (X 20 t) name (X 19 t 1).toNat = -1 ∧ 0 ≤ lane ∧ lane < 6) ∧ X 29 0 3 = 0 ∧ 5 ≤ X 19 t 1 ∧ z = -4 ∧ X1 19 t 1 = X 19 t 1) ∨ (0 ≤ t ∧ t < X 0 0 1 ∧ (0 ≤ name ∧ name < 20 ∧ nmAt (X 20 t) name (X 19 t 1).toNat = -1 ∧ 0 ≤ lane ∧ lane < 6) ∧ X 29 0 3 = 0 ∧ X 19 t 1 ≤ 4 ∧ z = X 19 t 1 ∧ X1 19 t 1 = X 19 t 1 + 1)) ∧ (0 ≤ z → X1 20 t z = name ∧ X1 21 t z = lane ∧ X1 22 t z = (if lane = 0 then v else -1) ∧ X1 23 t z = 0) ∧ (∀ y j, ¬ (0 ≤ z ∧ y = t ∧ j = z) → X1 20 y j = X 20 y j ∧ X1 21 y j = X 21 y j ∧ X1 22 y j = X 22 y j ∧ X1 23 y j = X 23 y j) ∧ (∀ y, y ≠ t → X1 19 y 1 = X 19 y 1) ∧ (0 ≤ z → (∀ y, 0 ≤ y → y < X 0 0 3 → Y 15 y 0 = some t → X1 16 y z = (if lane = 0 then v else -1) ∧ Y1 17 y z = none) ∧ ∀ y j, 0 ≤ y → y < X 0 0 3 → ¬ (Y 15 y 0 = some t ∧ j = z) → X1 16 y j = X 16 y j ∧ Y1 17 y j = Y 17 y j) ∧ (z < 0 → X1 = X ∧ Y1 = Y)) := by
  refine K_of (cc := cX8_field) (maxL := 9) (ret := (some .int)) (by decide) rfl (Nat.le_of_ble_eq_true rfl) ?_
  intro p e s m below meth c ls hx hb hr hml hown hts hlocks hl hK hw hS
  have hown : s.vm.findClass RX8 = some m.cls := hown
  obtain ⟨av9, hav9⟩ : ∃ a9 : Array Value, a9 = ([.ref (ad 0 0), .int (jI t), .int (jI name), .int (jI lane), .long (jL v)] : List Value).toArray := ⟨_, rfl⟩
  rw [← hav9] at hts ⊢
  obtain ⟨Q9, hQ9⟩ : ∃ q9Q : State → Prop, q9Q = MQ below (QI D tc base (fun z u => ∃ (X1 : Nat → Int → Int → Int) (Y1 : Nat → Int → Int → Option Int), u = (ad, cnt, X1, Y1, ln) ∧ Rng X1 ∧ Frm [1902, 2000, 2100, 2200, 2300, 1600] X X1 ∧ Frm [1700] Y Y1 ∧ CInv cnt X1 Y1 ln ∧ (-2147483648 ≤ z ∧ z ≤ 2147483647) ∧ ((¬ (0 ≤ t ∧ t < X 0 0 1) ∧ z = -1 ∧ X1 19 t 1 = X 19 t 1) ∨ (0 ≤ t ∧ t < X 0 0 1 ∧ ¬ (0 ≤ name ∧ name < 20 ∧ nmAt (X 20 t) name (X 19 t 1).toNat = -1 ∧ 0 ≤ lane ∧ lane < 6) ∧ z = -2 ∧ X1 19 t 1 = X 19 t 1) ∨ (0 ≤ t ∧ t < X 0 0 1 ∧ (0 ≤ name ∧ name < 20 ∧ nmAt (X 20 t) name (X 19 t 1).toNat = -1 ∧ 0 ≤ lane ∧ lane < 6) ∧ 0 < X 29 0 3 ∧ z = -3 ∧ X1 19 t 1 = X 19 t 1) ∨ (0 ≤ t ∧ t < X 0 0 1 ∧ (0 ≤ name ∧ name < 20 ∧ nmAt (X 20 t) name (X 19 t 1).toNat = -1 ∧ 0 ≤ lane ∧ lane < 6) ∧ X 29 0 3 = 0 ∧ 5 ≤ X 19 t 1 ∧ z = -4 ∧ X1 19 t 1 = X 19 t 1) ∨ (0 ≤ t ∧ t < X 0 0 1 ∧ (0 ≤ name ∧ name < 20 ∧ nmAt (X 20 t) name (X 19 t 1).toNat = -1 ∧ 0 ≤ lane ∧ lane < 6) ∧ X 29 0 3 = 0 ∧ X 19 t 1 ≤ 4 ∧ z = X 19 t 1 ∧ X1 19 t 1 = X 19 t 1 + 1)) ∧ (0 ≤ z → X1 20 t z = name ∧ X1 21 t z = lane ∧ X1 22 t z = (if lane = 0 then v else -1) ∧ X1 23 t z = 0) ∧ (∀ y j, ¬ (0 ≤ z ∧ y = t ∧ j = z) → X1 20 y j = X 20 y j ∧ X1 21 y j = X 21 y j ∧ X1 22 y j = X 22 y j ∧ X1 23 y j = X 23 y j) ∧ (∀ y, y ≠ t → X1 19 y 1 = X 19 y 1) ∧ (0 ≤ z → (∀ y, 0 ≤ y → y < X 0 0 3 → Y 15 y 0 = some t → X1 16 y z = (if lane = 0 then v else -1) ∧ Y1 17 y z = none) ∧ ∀ y j, 0 ≤ y → y < X 0 0 3 → ¬ (Y 15 y 0 = some t ∧ j = z) → X1 16 y j = X 16 y j ∧ Y1 17 y j = Y 17 y j) ∧ (z < 0 → X1 = X ∧ Y1 = Y))) av9 s 0 0 (frA base) := ⟨_, rfl⟩
  rw [← hQ9]
  have hi2 : ∀ w ∈ wsX20, w ∈ wsX8_field := fun w h => List.mem_cons_of_mem _ (List.mem_append_left _ (List.mem_append_left _ (List.mem_append_right _ h)))
  have hf2 : fctx s m _ RX8 wsX8_field D tc RX2 TX2 4 2 := ⟨hts, hi2, hown, hK.1, rfl⟩
  have hi6 : ∀ w ∈ wsX60, w ∈ wsX8_field := fun w h => List.mem_cons_of_mem _ (List.mem_append_right _ h)
  have hf6 : fctx s m _ RX8 wsX8_field D tc RX6 TX6 4 6 := ⟨hts, hi6, hown, hK.1, rfl⟩
  have hi7 : ∀ w ∈ wsX70, w ∈ wsX8_field := fun w h => List.mem_cons_of_mem _ (List.mem_append_left _ (List.mem_append_right _ h))
  have hf7 : fctx s m _ RX8 wsX8_field D tc RX7 TX7 8 7 := ⟨hts, hi7, hown, hK.1, rfl⟩
  have hi8 : ∀ w ∈ wsX80, w ∈ wsX8_field := fun w h => List.mem_cons_of_mem _ (List.mem_append_left _ (List.mem_append_left _ (List.mem_append_left _ (List.mem_append_right _ h))))
  have hf8 : fctx s m _ RX8 wsX8_field D tc RX8 TX8 12 8 := ⟨hts, hi8, hown, hK.1, rfl⟩
  have lk17 := hts (.fieldLink RX8 17 (TX8 2).1 (TX8 2).2.1 (TX8 2).2.2.1) (gj_X8_field_0 _ (gp_4 (gp_1 gp_h)))
  have lk51 := hts (.fieldLink RX8 51 (TX8 10).1 (TX8 10).2.1 (TX8 10).2.2.1) (gj_X8_field_0 _ (gp_h))
  have lk82 := hts (.fieldLink RX8 82 (TX2 3).1 (TX2 3).2.1 (TX2 3).2.2.1) (gj_X8_field_0 _ (gp_1 gp_h))
  have lk85 := hts (.fieldLink RX8 85 (TX7 1).1 (TX7 1).2.1 (TX7 1).2.2.1) (gj_X8_field_0 _ (gp_1 (gp_1 gp_h)))
  have lk94 := hts (.fieldLink RX8 94 (TX8 3).1 (TX8 3).2.1 (TX8 3).2.2.1) (gj_X8_field_0 _ (gp_4 gp_h))
  have lk97 := hts (.fieldLink RX8 97 (TX6 0).1 (TX6 0).2.1 (TX6 0).2.2.1) (gj_X8_field_0 _ (gp_4 (gp_1 (gp_1 gp_h))))
  have hc0 : cnt 0 = 1 := hFx.at 0 1 (by decide)
  have hc2 : cnt 2 = 1 := hFx.at 2 1 (by decide)
  have hc15 : cnt 15 = 30 := hFx.at 15 30 (by decide)
  have hc29 : cnt 29 = 1 := hFx.at 29 1 (by decide)
  have hl : lv_has ls 9 [(0, .ref (ad 0 0)), (1, .int (jI t)), (2, .int (jI name)), (3, .int (jI lane)), (4, .long (jL v))] := hl
  have ftc : 0 ≤ X 0 0 3 ∧ X 0 0 3 ≤ 30 := hR 0 0 3
  have fty : 0 ≤ X 0 0 1 ∧ X 0 0 1 ≤ 8 := hR 0 0 1
  have hct : cnt 19 = X 0 0 1 := hCI.2.2.2.1.1
  have hfj : 0 ≤ X 29 0 3 ∧ X 29 0 3 ≤ 4 := hR 29 0 3
  have hfn : 0 ≤ X 29 0 1 ∧ X 29 0 1 ≤ 80 := hR 29 0 1
  refine lv_aload_n hx hb dX8_field_0 rfl (lv_at hl 0 rfl) ?_
  refine lv_iload_n hx hb dX8_field_1 rfl (lv_at hl 1 rfl) ?_
  refine gos_r (run_V (As := [.int (jI t)]) (rest := []) hx hb hml hown hts (c_X8_typeNumbered l D tc base ad cnt X Y ln hR hFx hLn hCI t (by omega)) (cwV 1 hts gX8_field_X8_typeNumbered rfl rfl rfl (by first | exact hd_X8_typeNumbered | decide +kernel) ⟨Nat.le_of_ble_eq_true rfl, Nat.le_of_ble_eq_true rfl⟩) hK hw (by first | exact Int.le_refl 0 | omega) (by first | exact zlt hc0 | omega) sl_0_0 rfl rfl hl.1 rfl (Nat.le_of_ble_eq_true rfl) dX8_field_2 ⟨Nat.le_of_ble_eq_true rfl, Nat.le_of_ble_eq_true rfl⟩) hS (fun u2 H locs p3 hw hS => ?_) (fun z1 u2 H locs p3 hw hS => ?_)
  · obtain ⟨eu2, hsp3, hnp3⟩ := p3
    subst eu2
    refine lv_astoreN (lv' := [(6, .null), (0, .ref (ad 0 0)), (1, .int (jI t)), (2, .int (jI name)), (3, .int (jI lane)), (4, .long (jL v))]) hx hb dX8_field_5 hl (by decide) rfl (fun ls hl => ?_)
    refine lv_aloadN hx hb dX8_field_7 (lv_at hl 0 rfl) ?_
    refine lv_ifnonnullN hx hb dX8_field_9 ?_
    refine lv_iconst (v := jI (-1)) hx hb dX8_field_12 rfl ?_
    rw [hQ9]
    refine ret_i (mc := 0) (ms := 0) hx hb hr hlocks hw hS (by first | exact Nat.le_of_ble_eq_true rfl | omega) (by first | exact Nat.le_of_ble_eq_true rfl | omega) dX8_field_13 ?_
    exact ⟨X, Y, rfl, hR, Frm.rf, Frm.rf, hCI, by omega, (by have h9n : ¬ (0 ≤ t ∧ t < X 0 0 1) := hnp3 rfl; (try delta Hid at *); first | exact Or.inl ⟨(fun q => by omega), by omega, by omega⟩ | exact Or.inr (Or.inr (Or.inr (Or.inr ((⟨by omega, by omega, by omega, by omega, by omega, by omega, by omega⟩))))) | omega), fun h => (by exfalso; omega), fun y j h => ⟨rfl, rfl, rfl, rfl⟩, fun y h => rfl, fun q => (by exfalso; omega), fun _ => ⟨rfl, rfl⟩⟩
  · obtain ⟨eu2, hsp3, hnp3⟩ := p3
    subst eu2
    obtain ⟨ezz1, p3⟩ := hsp3 z1 rfl
    refine lv_astore (lv' := [(6, .ref (ad 19 z1)), (0, .ref (ad 0 0)), (1, .int (jI t)), (2, .int (jI name)), (3, .int (jI lane)), (4, .long (jL v))]) hx hb dX8_field_5 hl (by decide) rfl (fun ls hl => ?_)
    refine lv_aload hx hb dX8_field_7 (lv_at hl 0 rfl) ?_
    refine lv_ifnonnull (tgt := 14) hx hb dX8_field_9 (by decide) ?_
    refine lv_iload_n hx hb dX8_field_14 rfl (lv_at hl 3 rfl) ?_
    refine lv_bipush (v := jI 20) hx hb dX8_field_15 (by decide) ?_
    refine gos_i (run_S (As := [.int (jI name), .int (jI 20)]) (rest := []) hx hb hml hown hts (c_X8_isBelow l D tc base ad cnt X Y ln name 20 (by omega) (by omega)) (cwS 2 hts gX8_field_X8_isBelow rfl rfl rfl (by first | exact hd_X8_isBelow | decide +kernel) ⟨Nat.le_of_ble_eq_true rfl, Nat.le_of_ble_eq_true rfl⟩) hK hw rfl hl.1 rfl (Nat.le_of_ble_eq_true rfl) dX8_field_17 ⟨Nat.le_of_ble_eq_true rfl, Nat.le_of_ble_eq_true rfl⟩) hS (fun z4 u5 H locs p6 hw hS => ?_)
    obtain ⟨eu5, p6⟩ := p6
    subst eu5
    rcases p6 with ⟨ez4, p6⟩ | ⟨ez4, p6⟩
    · subst ez4
      refine x_if_eqF (tgt := 42) hx hb (by omega) (by decide) dX8_field_20 (by decide) ?_
      refine lv_aload hx hb dX8_field_23 (lv_at hl 0 rfl) ?_
      refine lv_iload_n hx hb dX8_field_25 rfl (lv_at hl 3 rfl) ?_
      refine gos_i (run_V (As := [.int (jI name)]) (rest := []) hx hb hml hown hts (c_X7_fieldNamed l D tc base ad cnt X Y ln hR hFx hLn z1 name (by omega) (by omega)) (cwV 1 hts gX8_field_X7_fieldNamed rfl rfl rfl (by first | exact hd_X7_fieldNamed | decide +kernel) ⟨Nat.le_of_ble_eq_true rfl, Nat.le_of_ble_eq_true rfl⟩) hK hw (by first | exact Int.le_refl 0 | omega) (by first | exact zlt hc19 | omega) sl_19_0 rfl rfl hl.1 rfl (Nat.le_of_ble_eq_true rfl) dX8_field_26 ⟨Nat.le_of_ble_eq_true rfl, Nat.le_of_ble_eq_true rfl⟩) hS (fun z7 u8 H locs p9 hw hS => ?_)
      obtain ⟨eu8, p9⟩ := p9
      subst eu8
      refine lv_iconst (v := jI (-1)) hx hb dX8_field_29 rfl ?_
      refine x_icmp_ne (tgt := 42) hx hb (by omega) (by omega) dX8_field_30 (by decide) (fun c10 => ?_) (fun c10 => ?_)
      · refine lv_bipush (v := jI (-2)) hx hb dX8_field_42 (by decide) ?_
        rw [hQ9]
        refine ret_i (mc := 0) (ms := 0) hx hb hr hlocks hw hS (by first | exact Nat.le_of_ble_eq_true rfl | omega) (by first | exact Nat.le_of_ble_eq_true rfl | omega) dX8_field_44 ?_
        exact ⟨X, Y, rfl, hR, Frm.rf, Frm.rf, hCI, by omega, (by rw [← ezz1]; (try delta Hid at *); first | exact Or.inr (Or.inl ⟨by omega, by omega, (fun q => by omega), by omega, by omega⟩) | exact Or.inr (Or.inr (Or.inr (Or.inr ((⟨by omega, by omega, by omega, by omega, by omega, by omega, by omega⟩))))) | omega), fun h => (by exfalso; omega), fun y j h => ⟨rfl, rfl, rfl, rfl⟩, fun y h => rfl, fun q => (by exfalso; omega), fun _ => ⟨rfl, rfl⟩⟩
      · refine lv_iload_n hx hb dX8_field_33 rfl (lv_at hl 4 rfl) ?_
        refine lv_bipush (v := jI 6) hx hb dX8_field_34 (by decide) ?_
        refine gos_i (run_S (As := [.int (jI lane), .int (jI 6)]) (rest := []) hx hb hml hown hts (c_X8_isBelow l D tc base ad cnt X Y ln lane 6 (by omega) (by omega)) (cwS 2 hts gX8_field_X8_isBelow rfl rfl rfl (by first | exact hd_X8_isBelow | decide +kernel) ⟨Nat.le_of_ble_eq_true rfl, Nat.le_of_ble_eq_true rfl⟩) hK hw rfl hl.1 rfl (Nat.le_of_ble_eq_true rfl) dX8_field_36 ⟨Nat.le_of_ble_eq_true rfl, Nat.le_of_ble_eq_true rfl⟩) hS (fun z11 u12 H locs p13 hw hS => ?_)
        obtain ⟨eu12, p13⟩ := p13
        subst eu12
        rcases p13 with ⟨ez11, p13⟩ | ⟨ez11, p13⟩
        · subst ez11
          refine x_if_neT (tgt := 45) hx hb (by omega) (by decide) dX8_field_39 (by decide) ?_
          refine lv_aload_n hx hb dX8_field_45 rfl (lv_at hl 1 rfl) ?_
          refine x_geto hx hb hf8 hw (by first | exact Int.le_refl 0 | omega) (by first | exact zlt hc0 | omega) sl_0_10 lk51 dX8_field_46 ?_
          refine x_geti (jz := 3) hx hb hf2 hw (by first | exact Int.le_refl 0 | omega) (by first | exact zlt hc29 | omega) sl_29_3 rfl lk82 dX8_field_49 ?_
          have f14 : 0 ≤ X 29 0 3 ∧ X 29 0 3 ≤ 4 := hR 29 0 3
          refine x_if_le (tgt := 58) hx hb (by omega) dX8_field_52 (by decide) (fun c15 => ?_) (fun c15 => ?_)
          · refine lv_aload hx hb dX8_field_58 (lv_at hl 0 rfl) ?_
            refine x_geti (jz := 1) hx hb hf7 hw (by omega) (by omega) sl_19_1 rfl lk85 dX8_field_60 ?_
            have f16 : 0 ≤ X 19 z1 1 ∧ X 19 z1 1 ≤ 5 := hR 19 z1 1
            refine lv_iconst (v := jI 5) hx hb dX8_field_63 rfl ?_
            refine x_icmp_lt (tgt := 70) hx hb (by omega) (by omega) dX8_field_64 (by decide) (fun c17 => ?_) (fun c17 => ?_)
            · refine lv_aload hx hb dX8_field_70 (lv_at hl 0 rfl) ?_
              refine lv_iload_n hx hb dX8_field_72 rfl (lv_at hl 3 rfl) ?_
              refine lv_iload_n hx hb dX8_field_73 rfl (lv_at hl 4 rfl) ?_
              refine lv_iload_n hx hb dX8_field_74 rfl (lv_at hl 4 rfl) ?_
              refine x_if_ne (tgt := 83) hx hb (by omega) dX8_field_75 (by decide) (fun c18 => ?_) (fun c18 => ?_)
              · refine lv_ldc2 (v := jL (-1)) hx hb hown (hts (.constantLong RX8 88 (-1)) (by first | exact gj_X8_field_0 _ (gp_1 (gp_1 (gp_1 gp_h))) | decide +kernel)) dX8_field_83 ?_
                refine gos_i (run_V (As := [.int (jI name), .int (jI lane), .long (jL (-1))]) (rest := []) hx hb hml hown hts (c_X7_addField l D tc base ad cnt X Y ln hR hFx hLn hCI z1 name lane (-1) (by omega) (by omega) (by omega) (by omega) (by omega)) (cwV 3 hts gX8_field_X7_addField rfl rfl rfl (by first | exact hd_X7_addField | decide +kernel) ⟨Nat.le_of_ble_eq_true rfl, Nat.le_of_ble_eq_true rfl⟩) hK hw (by first | exact Int.le_refl 0 | omega) (by first | exact zlt hc19 | omega) sl_19_0 rfl rfl hl.1 rfl (Nat.le_of_ble_eq_true rfl) dX8_field_86 ⟨Nat.le_of_ble_eq_true rfl, Nat.le_of_ble_eq_true rfl⟩) hS (fun z19 u20 H locs p21 hw hS => ?_)
                obtain ⟨X22, eu20, hRX22, hG23, hCIX22, p21, hazX22, hafX22, hayX22, hacX22, haoX22⟩ := p21
                subst eu20
                have hFX22 : Frm [1902, 2000, 2100, 2200, 2300, 1600] X X22 := Frm.tr Frm.rf (Frm.mono hG23 (by first | exact nls_of rfl | decide))
                refine lv_istore (lv' := [(7, .int (jI z19)), (6, .ref (ad 19 z1)), (0, .ref (ad 0 0)), (1, .int (jI t)), (2, .int (jI name)), (3, .int (jI lane)), (4, .long (jL v))]) hx hb dX8_field_89 hl (by decide) rfl (fun ls hl => ?_)
                refine lv_iconst (v := jI 0) hx hb dX8_field_91 rfl ?_
                refine lv_istore (lv' := [(8, .int (jI 0)), (7, .int (jI z19)), (6, .ref (ad 19 z1)), (0, .ref (ad 0 0)), (1, .int (jI t)), (2, .int (jI name)), (3, .int (jI lane)), (4, .long (jL v))]) hx hb dX8_field_92 hl (by decide) rfl (fun ls hl => ?_)
                have lp94 : ∀ (nn : Nat) (x : Int) (Xa : Nat → Int → Int → Int) (Ya : Nat → Int → Int → Option Int) (H : Heap) (locs : List Loc) (ls : Array Slot), (30 - x) < (nn : Int) → (Rng Xa) → (Frm [1600] X22 Xa) → (Frm [1700] Y Ya) → (0 ≤ x ∧ x ≤ 30) → (CInv cnt Xa Ya ln) → (FdC X Xa Y Ya z1 z19 (if lane = 0 then v else -1) x) → wd D tc base (ad, cnt, Xa, Ya, ln) H → va_S (frA base) s.heap H locs → lv_has ls 9 [(0, .ref (ad 0 0)), (6, .ref (ad 19 z1)), (7, .int (jI z19)), (8, .int (jI x))] → W p l e ({ frames := 2, cells := 0, slots := 0, locals := 42 } : Room) s m av9 below meth c H locs 0 0 Q9 (F0 m 94 ls []) := by
                  intro nn
                  induction nn with
                  | zero => intro x Xa Ya H locs ls hm hRXa hGXa hGYa hx8 hCIXa hFd hw hS hl; exfalso; omega
                  | succ nn ih94 =>
                    intro x Xa Ya H locs ls hm hRXa hGXa hGYa hx8 hCIXa hFd hw hS hl
                    have hHYa : Frm [1700] Y Ya := Frm.tr Frm.rf (Frm.mono hGYa (by first | exact nls_of rfl | decide))
                    have hFXa : Frm [1902, 2000, 2100, 2200, 2300, 1600] X Xa := Frm.tr hFX22 (Frm.mono hGXa (by first | exact nls_of rfl | decide))
                    refine lv_iload hx hb dX8_field_94 (lv_at hl 3 rfl) ?_
                    refine lv_aload_n hx hb dX8_field_96 rfl (lv_at hl 0 rfl) ?_
                    refine x_geti (jz := 3) hx hb hf8 hw (by first | exact Int.le_refl 0 | omega) (by first | exact zlt hc0 | omega) sl_0_3 rfl lk94 dX8_field_97 ?_
                    have e24 : Xa 0 0 3 = X 0 0 3 := by rw [hGXa 0 0 3 (show 4 ∉ [1600] by first | exact nlm_ni rfl | decide), hG23 0 0 3 (show 4 ∉ [1902, 2000, 2100, 2200, 2300] by first | exact nlm_ni rfl | decide)]
                    rw [e24]
                    have f25 : 0 ≤ X 0 0 3 ∧ X 0 0 3 ≤ 30 := hR 0 0 3
                    refine x_icmp_ge (tgt := 136) hx hb (by omega) (by omega) dX8_field_100 (by decide) (fun c26 => ?_) (fun c26 => ?_)
                    · refine lv_iload hx hb dX8_field_136 (lv_at hl 2 rfl) ?_
                      rw [hQ9]
                      refine ret_i (mc := 0) (ms := 0) hx hb hr hlocks hw hS (by first | exact Nat.le_of_ble_eq_true rfl | omega) (by first | exact Nat.le_of_ble_eq_true rfl | omega) dX8_field_138 ?_
                      have e27 : Xa 19 z1 1 = X22 19 z1 1 := (by rw [hGXa 19 z1 1 (show 1902 ∉ [1600] by first | exact nlm_ni rfl | decide)])
                      exact ⟨Xa, Ya, rfl, hRXa, hFXa, hHYa, hCIXa, by omega, (by rw [← ezz1]; (try delta Hid at *); first | exact Or.inr (Or.inr (Or.inr (Or.inr ((⟨by omega, by omega, by omega, by omega, by omega, by omega, by omega⟩))))) | omega), fun h => ⟨(by rw [← ezz1, hazX22]; rw [hGXa 20 z1 (X 19 z1 1) (show 2000 ∉ [1600] by first | exact nlm_ni rfl | decide)]; exact hacX22.1), (by rw [← ezz1, hazX22]; rw [hGXa 21 z1 (X 19 z1 1) (show 2100 ∉ [1600] by first | exact nlm_ni rfl | decide)]; exact hacX22.2.1), (by rw [← ezz1, hazX22]; rw [hGXa 22 z1 (X 19 z1 1) (show 2200 ∉ [1600] by first | exact nlm_ni rfl | decide), hacX22.2.2.1]; split <;> omega), (by rw [← ezz1, hazX22]; rw [hGXa 23 z1 (X 19 z1 1) (show 2300 ∉ [1600] by first | exact nlm_ni rfl | decide)]; exact hacX22.2.2.2)⟩, fun y j h => ⟨(by rw [hGXa 20 y j (show 2000 ∉ [1600] by first | exact nlm_ni rfl | decide)]; exact (haoX22 y j (by omega)).1), (by rw [hGXa 21 y j (show 2100 ∉ [1600] by first | exact nlm_ni rfl | decide)]; exact (haoX22 y j (by omega)).2.1), (by rw [hGXa 22 y j (show 2200 ∉ [1600] by first | exact nlm_ni rfl | decide)]; exact (haoX22 y j (by omega)).2.2.1), (by rw [hGXa 23 y j (show 2300 ∉ [1600] by first | exact nlm_ni rfl | decide)]; exact (haoX22 y j (by omega)).2.2.2)⟩, fun y h => (by rw [hGXa 19 y 1 (show 1902 ∉ [1600] by first | exact nlm_ni rfl | decide)]; exact hayX22 y (by omega)), fun _ => (by rw [← ezz1]; exact ⟨fun y a b c => hFd.1 y a (by omega) c, fun y j a b c => hFd.2 y j (fun q9 => c ⟨q9.2.2.1, q9.2.2.2⟩)⟩), fun q => (by exfalso; omega)⟩
                    · refine lv_aload_n hx hb dX8_field_103 rfl (lv_at hl 0 rfl) ?_
                      refine x_geto hx hb hf8 hw (by first | exact Int.le_refl 0 | omega) (by first | exact zlt hc0 | omega) sl_0_2 lk17 dX8_field_104 ?_
                      refine lv_iload hx hb dX8_field_107 (lv_at hl 3 rfl) ?_
                      refine x_aald hx hb hK.1 hw (by first | exact Int.le_refl 0 | omega) (by first | exact zlt hc2 | omega) ar_2 rfl (len_E ar_2 (by first | exact Nat.ne_of_beq_eq_false rfl | decide)) (by omega) (by omega) (by omega) dX8_field_109 (fun y28 => ?_) (fun r29 y28 gr29 lr29 => ?_)
                      · exfalso
                        have e30 : ∀ p9 q9 : Int, Ya 2 p9 q9 = Y 2 p9 q9 := fun p9 q9 => by rw [hGYa 2 p9 q9 (show 200 ∉ [1700] by first | exact nlm_ni rfl | decide)]
                        rw [e30] at y28
                        have h9 := hCI.1 x (by omega) (by omega); rw [h9] at y28; cases y28
                      · have e31 : ∀ p9 q9 : Int, Ya 2 p9 q9 = Y 2 p9 q9 := fun p9 q9 => by rw [hGYa 2 p9 q9 (show 200 ∉ [1700] by first | exact nlm_ni rfl | decide)]
                        rw [e31] at y28
                        have er29 : r29 = x := by have h9 := hCI.1 x (by omega) (by omega); rw [h9] at y28; cases y28; rfl
                        rw [er29]
                        refine x_getr (jz := 0) hx hb hf6 hw (by omega) (by omega) sl_15_0 rfl lk97 dX8_field_110 (fun y32 => ?_) (fun r33 y32 gr33 lr33 => ?_)
                        · exfalso
                          have e34 : Ya 15 x 0 = Y 15 x 0 := by rw [hGYa 15 x 0 (show 1501 ∉ [1700] by first | exact nlm_ni rfl | decide)]
                          rw [e34] at y32
                          exact absurd y32 (hCI.2.2.2.2.1 x (by omega) (by omega))
                        · have e35 : Ya 15 x 0 = Y 15 x 0 := by rw [hGYa 15 x 0 (show 1501 ∉ [1700] by first | exact nlm_ni rfl | decide)]
                          rw [e35] at y32
                          refine lv_aload hx hb dX8_field_113 (lv_at hl 1 rfl) ?_
                          refine lv_acmp_ne (rx := some (ad 19 r33)) (ry := some (ad 19 z1)) (tgt := 130) hx hb dX8_field_115 (by decide) (fun c36 => ?_) (fun c36 => ?_)
                          · have c36 : ¬ r33 = z1 := fun q => c36 (by rw [q])
                            refine lv_iinc (v := jI (x + 1)) (lv' := [(8, .int (jI (x + 1))), (0, .ref (ad 0 0)), (6, .ref (ad 19 z1)), (7, .int (jI z19))]) hx hb dX8_field_130 hl (k := 3) rfl (jI_add _ _) (by decide) rfl (fun ls hl => ?_)
                            refine lv_goto (tgt := 94) hx hb dX8_field_133 (by decide) ?_
                            have q37 : Frm [1600] X22 Xa := Frm.tr Frm.rf (Frm.mono hGXa (by first | exact nls_of rfl | decide))
                            have q38 : Frm [1700] Y Ya := Frm.tr Frm.rf (Frm.mono hGYa (by first | exact nls_of rfl | decide))
                            exact ih94 (x + 1) Xa Ya _ _ _ (by omega) hRXa q37 q38 (by omega) (hCIXa) (FdC.no hFd (by rw [y32]; exact fun q9 => (by have h9 := Option.some.inj q9; omega))) hw hS (lv_sub hl [1, 2, 3, 0] rfl)
                          · have c36 : r33 = z1 := (wd_inj hw (by omega) (by omega) (by omega) (by omega) (Option.some.inj c36)).2
                            refine lv_aload_n hx hb dX8_field_118 rfl (lv_at hl 0 rfl) ?_
                            refine x_geto hx hb hf8 hw (by first | exact Int.le_refl 0 | omega) (by first | exact zlt hc0 | omega) sl_0_2 lk17 dX8_field_119 ?_
                            refine lv_iload hx hb dX8_field_122 (lv_at hl 3 rfl) ?_
                            refine x_aald hx hb hK.1 hw (by first | exact Int.le_refl 0 | omega) (by first | exact zlt hc2 | omega) ar_2 rfl (len_E ar_2 (by first | exact Nat.ne_of_beq_eq_false rfl | decide)) (by omega) (by omega) (by omega) dX8_field_124 (fun y39 => ?_) (fun r40 y39 gr40 lr40 => ?_)
                            · exfalso
                              have e41 : ∀ p9 q9 : Int, Ya 2 p9 q9 = Y 2 p9 q9 := fun p9 q9 => by rw [hGYa 2 p9 q9 (show 200 ∉ [1700] by first | exact nlm_ni rfl | decide)]
                              rw [e41] at y39
                              have h9 := hCI.1 x (by omega) (by omega); rw [h9] at y39; cases y39
                            · have e42 : ∀ p9 q9 : Int, Ya 2 p9 q9 = Y 2 p9 q9 := fun p9 q9 => by rw [hGYa 2 p9 q9 (show 200 ∉ [1700] by first | exact nlm_ni rfl | decide)]
                              rw [e42] at y39
                              have er40 : r40 = x := by have h9 := hCI.1 x (by omega) (by omega); rw [h9] at y39; cases y39; rfl
                              rw [er40]
                              refine lv_iload hx hb dX8_field_125 (lv_at hl 2 rfl) ?_
                              refine gos_v (run_V (As := [.int (jI z19)]) (rest := []) hx hb hml hown hts (c_X6_setDefault l D tc base ad cnt Xa Ya ln hRXa hFx hLn hCIXa x z19 (by omega) (by omega) (by rw [hGYa 15 x 0 (show 1501 ∉ [1700] by first | exact nlm_ni rfl | decide), y32]; exact fun q => by cases q)) (cwV 1 hts gX8_field_X6_setDefault rfl rfl rfl (by first | exact hd_X6_setDefault | decide +kernel) ⟨Nat.le_of_ble_eq_true rfl, Nat.le_of_ble_eq_true rfl⟩) hK hw (by first | exact Int.le_refl 0 | omega) (by first | exact zlt hc15 | omega) sl_15_0 rfl rfl hl.1 rfl (Nat.le_of_ble_eq_true rfl) dX8_field_127 ⟨Nat.le_of_ble_eq_true rfl, Nat.le_of_ble_eq_true rfl⟩) hS (fun u44 H locs p45 hw hS => ?_)
                              obtain ⟨X46, Y47, eu44, hRX46, hG48, hJ49, hCIX46, p45, hs1X46, hs2X46, hs3X46, hs4X46⟩ := p45
                              subst eu44
                              have hFX46 : Frm [1902, 2000, 2100, 2200, 2300, 1600] X X46 := Frm.tr hFXa (Frm.mono hG48 (by first | exact nls_of rfl | decide))
                              have hHY47 : Frm [1700] Y Y47 := Frm.tr hHYa (Frm.mono hJ49 (by first | exact nls_of rfl | decide))
                              refine lv_iinc (v := jI (x + 1)) (lv' := [(8, .int (jI (x + 1))), (0, .ref (ad 0 0)), (6, .ref (ad 19 z1)), (7, .int (jI z19))]) hx hb dX8_field_130 hl (k := 3) rfl (jI_add _ _) (by decide) rfl (fun ls hl => ?_)
                              refine lv_goto (tgt := 94) hx hb dX8_field_133 (by decide) ?_
                              have q50 : Frm [1600] X22 Xa := Frm.tr Frm.rf (Frm.mono hGXa (by first | exact nls_of rfl | decide))
                              have q51 : Frm [1600] X22 X46 := Frm.tr q50 (Frm.mono hG48 (by first | exact nls_of rfl | decide))
                              have q52 : Frm [1700] Y Ya := Frm.tr Frm.rf (Frm.mono hGYa (by first | exact nls_of rfl | decide))
                              have hty954 : tyo (Ya 15 x 0) = z1 := by rw [tyo_some (show Ya 15 x 0 = some r33 from (by rw [hGYa 15 x 0 (show 1501 ∉ [1700] by first | exact nlm_ni rfl | decide)]; exact y32))]; omega
                              have hdv55 : Xa 22 z1 z19 = (if lane = 0 then v else -1) := by rw [hGXa 22 z1 z19 (show 2200 ∉ [1600] by first | exact nlm_ni rfl | decide), hazX22, hacX22.2.2.1]; split <;> omega
                              exact ih94 (x + 1) X46 Y47 _ _ _ (by omega) hRX46 q51 hHY47 (by omega) (hCIX46) (FdC.yes hFd (by rw [hs1X46, hty954]; exact hdv55) (fun y j hy => (by rw [hs2X46 y j hy])) hs3X46 (fun y j hy => (by rw [hs4X46 y j hy])) (by omega) (by rw [y32, show r33 = z1 by omega])) hw hS (lv_sub hl [1, 2, 3, 0] rfl)
                exact lp94 (30 - 0 : Int).toNat.succ 0 X22 Y _ _ _ (by omega) hRX22 Frm.rf Frm.rf (by omega) (hCIX22) (FdC.in_ (fun y j => (by rw [hG23 16 y j (show 1600 ∉ [1902, 2000, 2100, 2200, 2300] by first | exact nlm_ni rfl | decide)])) (fun y j => (by rfl))) hw hS (lv_sub hl [3, 2, 1, 0] rfl)
              · refine lv_lload hx hb dX8_field_78 (lv_at hl 5 rfl) ?_
                refine lv_goto (tgt := 86) hx hb dX8_field_80 (by decide) ?_
                refine gos_i (run_V (As := [.int (jI name), .int (jI lane), .long (jL v)]) (rest := []) hx hb hml hown hts (c_X7_addField l D tc base ad cnt X Y ln hR hFx hLn hCI z1 name lane v (by omega) (by omega) (by omega) (by omega) (by omega)) (cwV 3 hts gX8_field_X7_addField rfl rfl rfl (by first | exact hd_X7_addField | decide +kernel) ⟨Nat.le_of_ble_eq_true rfl, Nat.le_of_ble_eq_true rfl⟩) hK hw (by first | exact Int.le_refl 0 | omega) (by first | exact zlt hc19 | omega) sl_19_0 rfl rfl hl.1 rfl (Nat.le_of_ble_eq_true rfl) dX8_field_86 ⟨Nat.le_of_ble_eq_true rfl, Nat.le_of_ble_eq_true rfl⟩) hS (fun z56 u57 H locs p58 hw hS => ?_)
                obtain ⟨X59, eu57, hRX59, hG60, hCIX59, p58, hazX59, hafX59, hayX59, hacX59, haoX59⟩ := p58
                subst eu57
                have hFX59 : Frm [1902, 2000, 2100, 2200, 2300, 1600] X X59 := Frm.tr Frm.rf (Frm.mono hG60 (by first | exact nls_of rfl | decide))
                refine lv_istore (lv' := [(7, .int (jI z56)), (6, .ref (ad 19 z1)), (0, .ref (ad 0 0)), (1, .int (jI t)), (2, .int (jI name)), (3, .int (jI lane)), (4, .long (jL v))]) hx hb dX8_field_89 hl (by decide) rfl (fun ls hl => ?_)
                refine lv_iconst (v := jI 0) hx hb dX8_field_91 rfl ?_
                refine lv_istore (lv' := [(8, .int (jI 0)), (7, .int (jI z56)), (6, .ref (ad 19 z1)), (0, .ref (ad 0 0)), (1, .int (jI t)), (2, .int (jI name)), (3, .int (jI lane)), (4, .long (jL v))]) hx hb dX8_field_92 hl (by decide) rfl (fun ls hl => ?_)
                have lp94 : ∀ (nn : Nat) (x : Int) (Xa : Nat → Int → Int → Int) (Ya : Nat → Int → Int → Option Int) (H : Heap) (locs : List Loc) (ls : Array Slot), (30 - x) < (nn : Int) → (Rng Xa) → (Frm [1600] X59 Xa) → (Frm [1700] Y Ya) → (0 ≤ x ∧ x ≤ 30) → (CInv cnt Xa Ya ln) → (FdC X Xa Y Ya z1 z56 (if lane = 0 then v else -1) x) → wd D tc base (ad, cnt, Xa, Ya, ln) H → va_S (frA base) s.heap H locs → lv_has ls 9 [(0, .ref (ad 0 0)), (6, .ref (ad 19 z1)), (7, .int (jI z56)), (8, .int (jI x))] → W p l e ({ frames := 2, cells := 0, slots := 0, locals := 42 } : Room) s m av9 below meth c H locs 0 0 Q9 (F0 m 94 ls []) := by
                  intro nn
                  induction nn with
                  | zero => intro x Xa Ya H locs ls hm hRXa hGXa hGYa hx8 hCIXa hFd hw hS hl; exfalso; omega
                  | succ nn ih94 =>
                    intro x Xa Ya H locs ls hm hRXa hGXa hGYa hx8 hCIXa hFd hw hS hl
                    have hHYa : Frm [1700] Y Ya := Frm.tr Frm.rf (Frm.mono hGYa (by first | exact nls_of rfl | decide))
                    have hFXa : Frm [1902, 2000, 2100, 2200, 2300, 1600] X Xa := Frm.tr hFX59 (Frm.mono hGXa (by first | exact nls_of rfl | decide))
                    refine lv_iload hx hb dX8_field_94 (lv_at hl 3 rfl) ?_
                    refine lv_aload_n hx hb dX8_field_96 rfl (lv_at hl 0 rfl) ?_
                    refine x_geti (jz := 3) hx hb hf8 hw (by first | exact Int.le_refl 0 | omega) (by first | exact zlt hc0 | omega) sl_0_3 rfl lk94 dX8_field_97 ?_
                    have e61 : Xa 0 0 3 = X 0 0 3 := by rw [hGXa 0 0 3 (show 4 ∉ [1600] by first | exact nlm_ni rfl | decide), hG60 0 0 3 (show 4 ∉ [1902, 2000, 2100, 2200, 2300] by first | exact nlm_ni rfl | decide)]
                    rw [e61]
                    have f62 : 0 ≤ X 0 0 3 ∧ X 0 0 3 ≤ 30 := hR 0 0 3
                    refine x_icmp_ge (tgt := 136) hx hb (by omega) (by omega) dX8_field_100 (by decide) (fun c63 => ?_) (fun c63 => ?_)
                    · refine lv_iload hx hb dX8_field_136 (lv_at hl 2 rfl) ?_
                      rw [hQ9]
                      refine ret_i (mc := 0) (ms := 0) hx hb hr hlocks hw hS (by first | exact Nat.le_of_ble_eq_true rfl | omega) (by first | exact Nat.le_of_ble_eq_true rfl | omega) dX8_field_138 ?_
                      have e64 : Xa 19 z1 1 = X59 19 z1 1 := (by rw [hGXa 19 z1 1 (show 1902 ∉ [1600] by first | exact nlm_ni rfl | decide)])
                      exact ⟨Xa, Ya, rfl, hRXa, hFXa, hHYa, hCIXa, by omega, (by rw [← ezz1]; (try delta Hid at *); first | exact Or.inr (Or.inr (Or.inr (Or.inr ((⟨by omega, by omega, by omega, by omega, by omega, by omega, by omega⟩))))) | omega), fun h => ⟨(by rw [← ezz1, hazX59]; rw [hGXa 20 z1 (X 19 z1 1) (show 2000 ∉ [1600] by first | exact nlm_ni rfl | decide)]; exact hacX59.1), (by rw [← ezz1, hazX59]; rw [hGXa 21 z1 (X 19 z1 1) (show 2100 ∉ [1600] by first | exact nlm_ni rfl | decide)]; exact hacX59.2.1), (by rw [← ezz1, hazX59]; rw [hGXa 22 z1 (X 19 z1 1) (show 2200 ∉ [1600] by first | exact nlm_ni rfl | decide), hacX59.2.2.1]; split <;> omega), (by rw [← ezz1, hazX59]; rw [hGXa 23 z1 (X 19 z1 1) (show 2300 ∉ [1600] by first | exact nlm_ni rfl | decide)]; exact hacX59.2.2.2)⟩, fun y j h => ⟨(by rw [hGXa 20 y j (show 2000 ∉ [1600] by first | exact nlm_ni rfl | decide)]; exact (haoX59 y j (by omega)).1), (by rw [hGXa 21 y j (show 2100 ∉ [1600] by first | exact nlm_ni rfl | decide)]; exact (haoX59 y j (by omega)).2.1), (by rw [hGXa 22 y j (show 2200 ∉ [1600] by first | exact nlm_ni rfl | decide)]; exact (haoX59 y j (by omega)).2.2.1), (by rw [hGXa 23 y j (show 2300 ∉ [1600] by first | exact nlm_ni rfl | decide)]; exact (haoX59 y j (by omega)).2.2.2)⟩, fun y h => (by rw [hGXa 19 y 1 (show 1902 ∉ [1600] by first | exact nlm_ni rfl | decide)]; exact hayX59 y (by omega)), fun _ => (by rw [← ezz1]; exact ⟨fun y a b c => hFd.1 y a (by omega) c, fun y j a b c => hFd.2 y j (fun q9 => c ⟨q9.2.2.1, q9.2.2.2⟩)⟩), fun q => (by exfalso; omega)⟩
                    · refine lv_aload_n hx hb dX8_field_103 rfl (lv_at hl 0 rfl) ?_
                      refine x_geto hx hb hf8 hw (by first | exact Int.le_refl 0 | omega) (by first | exact zlt hc0 | omega) sl_0_2 lk17 dX8_field_104 ?_
                      refine lv_iload hx hb dX8_field_107 (lv_at hl 3 rfl) ?_
                      refine x_aald hx hb hK.1 hw (by first | exact Int.le_refl 0 | omega) (by first | exact zlt hc2 | omega) ar_2 rfl (len_E ar_2 (by first | exact Nat.ne_of_beq_eq_false rfl | decide)) (by omega) (by omega) (by omega) dX8_field_109 (fun y65 => ?_) (fun r66 y65 gr66 lr66 => ?_)
                      · exfalso
                        have e67 : ∀ p9 q9 : Int, Ya 2 p9 q9 = Y 2 p9 q9 := fun p9 q9 => by rw [hGYa 2 p9 q9 (show 200 ∉ [1700] by first | exact nlm_ni rfl | decide)]
                        rw [e67] at y65
                        have h9 := hCI.1 x (by omega) (by omega); rw [h9] at y65; cases y65
                      · have e68 : ∀ p9 q9 : Int, Ya 2 p9 q9 = Y 2 p9 q9 := fun p9 q9 => by rw [hGYa 2 p9 q9 (show 200 ∉ [1700] by first | exact nlm_ni rfl | decide)]
                        rw [e68] at y65
                        have er66 : r66 = x := by have h9 := hCI.1 x (by omega) (by omega); rw [h9] at y65; cases y65; rfl
                        rw [er66]
                        refine x_getr (jz := 0) hx hb hf6 hw (by omega) (by omega) sl_15_0 rfl lk97 dX8_field_110 (fun y69 => ?_) (fun r70 y69 gr70 lr70 => ?_)
                        · exfalso
                          have e71 : Ya 15 x 0 = Y 15 x 0 := by rw [hGYa 15 x 0 (show 1501 ∉ [1700] by first | exact nlm_ni rfl | decide)]
                          rw [e71] at y69
                          exact absurd y69 (hCI.2.2.2.2.1 x (by omega) (by omega))
                        · have e72 : Ya 15 x 0 = Y 15 x 0 := by rw [hGYa 15 x 0 (show 1501 ∉ [1700] by first | exact nlm_ni rfl | decide)]
                          rw [e72] at y69
                          refine lv_aload hx hb dX8_field_113 (lv_at hl 1 rfl) ?_
                          refine lv_acmp_ne (rx := some (ad 19 r70)) (ry := some (ad 19 z1)) (tgt := 130) hx hb dX8_field_115 (by decide) (fun c73 => ?_) (fun c73 => ?_)
                          · have c73 : ¬ r70 = z1 := fun q => c73 (by rw [q])
                            refine lv_iinc (v := jI (x + 1)) (lv' := [(8, .int (jI (x + 1))), (0, .ref (ad 0 0)), (6, .ref (ad 19 z1)), (7, .int (jI z56))]) hx hb dX8_field_130 hl (k := 3) rfl (jI_add _ _) (by decide) rfl (fun ls hl => ?_)
                            refine lv_goto (tgt := 94) hx hb dX8_field_133 (by decide) ?_
                            have q74 : Frm [1600] X59 Xa := Frm.tr Frm.rf (Frm.mono hGXa (by first | exact nls_of rfl | decide))
                            have q75 : Frm [1700] Y Ya := Frm.tr Frm.rf (Frm.mono hGYa (by first | exact nls_of rfl | decide))
                            exact ih94 (x + 1) Xa Ya _ _ _ (by omega) hRXa q74 q75 (by omega) (hCIXa) (FdC.no hFd (by rw [y69]; exact fun q9 => (by have h9 := Option.some.inj q9; omega))) hw hS (lv_sub hl [1, 2, 3, 0] rfl)
                          · have c73 : r70 = z1 := (wd_inj hw (by omega) (by omega) (by omega) (by omega) (Option.some.inj c73)).2
                            refine lv_aload_n hx hb dX8_field_118 rfl (lv_at hl 0 rfl) ?_
                            refine x_geto hx hb hf8 hw (by first | exact Int.le_refl 0 | omega) (by first | exact zlt hc0 | omega) sl_0_2 lk17 dX8_field_119 ?_
                            refine lv_iload hx hb dX8_field_122 (lv_at hl 3 rfl) ?_
                            refine x_aald hx hb hK.1 hw (by first | exact Int.le_refl 0 | omega) (by first | exact zlt hc2 | omega) ar_2 rfl (len_E ar_2 (by first | exact Nat.ne_of_beq_eq_false rfl | decide)) (by omega) (by omega) (by omega) dX8_field_124 (fun y76 => ?_) (fun r77 y76 gr77 lr77 => ?_)
                            · exfalso
                              have e78 : ∀ p9 q9 : Int, Ya 2 p9 q9 = Y 2 p9 q9 := fun p9 q9 => by rw [hGYa 2 p9 q9 (show 200 ∉ [1700] by first | exact nlm_ni rfl | decide)]
                              rw [e78] at y76
                              have h9 := hCI.1 x (by omega) (by omega); rw [h9] at y76; cases y76
                            · have e79 : ∀ p9 q9 : Int, Ya 2 p9 q9 = Y 2 p9 q9 := fun p9 q9 => by rw [hGYa 2 p9 q9 (show 200 ∉ [1700] by first | exact nlm_ni rfl | decide)]
                              rw [e79] at y76
                              have er77 : r77 = x := by have h9 := hCI.1 x (by omega) (by omega); rw [h9] at y76; cases y76; rfl
                              rw [er77]
                              refine lv_iload hx hb dX8_field_125 (lv_at hl 2 rfl) ?_
                              refine gos_v (run_V (As := [.int (jI z56)]) (rest := []) hx hb hml hown hts (c_X6_setDefault l D tc base ad cnt Xa Ya ln hRXa hFx hLn hCIXa x z56 (by omega) (by omega) (by rw [hGYa 15 x 0 (show 1501 ∉ [1700] by first | exact nlm_ni rfl | decide), y69]; exact fun q => by cases q)) (cwV 1 hts gX8_field_X6_setDefault rfl rfl rfl (by first | exact hd_X6_setDefault | decide +kernel) ⟨Nat.le_of_ble_eq_true rfl, Nat.le_of_ble_eq_true rfl⟩) hK hw (by first | exact Int.le_refl 0 | omega) (by first | exact zlt hc15 | omega) sl_15_0 rfl rfl hl.1 rfl (Nat.le_of_ble_eq_true rfl) dX8_field_127 ⟨Nat.le_of_ble_eq_true rfl, Nat.le_of_ble_eq_true rfl⟩) hS (fun u81 H locs p82 hw hS => ?_)
                              obtain ⟨X83, Y84, eu81, hRX83, hG85, hJ86, hCIX83, p82, hs1X83, hs2X83, hs3X83, hs4X83⟩ := p82
                              subst eu81
                              have hFX83 : Frm [1902, 2000, 2100, 2200, 2300, 1600] X X83 := Frm.tr hFXa (Frm.mono hG85 (by first | exact nls_of rfl | decide))
                              have hHY84 : Frm [1700] Y Y84 := Frm.tr hHYa (Frm.mono hJ86 (by first | exact nls_of rfl | decide))
                              refine lv_iinc (v := jI (x + 1)) (lv' := [(8, .int (jI (x + 1))), (0, .ref (ad 0 0)), (6, .ref (ad 19 z1)), (7, .int (jI z56))]) hx hb dX8_field_130 hl (k := 3) rfl (jI_add _ _) (by decide) rfl (fun ls hl => ?_)
                              refine lv_goto (tgt := 94) hx hb dX8_field_133 (by decide) ?_
                              have q87 : Frm [1600] X59 Xa := Frm.tr Frm.rf (Frm.mono hGXa (by first | exact nls_of rfl | decide))
                              have q88 : Frm [1600] X59 X83 := Frm.tr q87 (Frm.mono hG85 (by first | exact nls_of rfl | decide))
                              have q89 : Frm [1700] Y Ya := Frm.tr Frm.rf (Frm.mono hGYa (by first | exact nls_of rfl | decide))
                              have hty991 : tyo (Ya 15 x 0) = z1 := by rw [tyo_some (show Ya 15 x 0 = some r70 from (by rw [hGYa 15 x 0 (show 1501 ∉ [1700] by first | exact nlm_ni rfl | decide)]; exact y69))]; omega
                              have hdv92 : Xa 22 z1 z56 = (if lane = 0 then v else -1) := by rw [hGXa 22 z1 z56 (show 2200 ∉ [1600] by first | exact nlm_ni rfl | decide), hazX59, hacX59.2.2.1]; split <;> omega
                              exact ih94 (x + 1) X83 Y84 _ _ _ (by omega) hRX83 q88 hHY84 (by omega) (hCIX83) (FdC.yes hFd (by rw [hs1X83, hty991]; exact hdv92) (fun y j hy => (by rw [hs2X83 y j hy])) hs3X83 (fun y j hy => (by rw [hs4X83 y j hy])) (by omega) (by rw [y69, show r70 = z1 by omega])) hw hS (lv_sub hl [1, 2, 3, 0] rfl)
                exact lp94 (30 - 0 : Int).toNat.succ 0 X59 Y _ _ _ (by omega) hRX59 Frm.rf Frm.rf (by omega) (hCIX59) (FdC.in_ (fun y j => (by rw [hG60 16 y j (show 1600 ∉ [1902, 2000, 2100, 2200, 2300] by first | exact nlm_ni rfl | decide)])) (fun y j => (by rfl))) hw hS (lv_sub hl [3, 2, 1, 0] rfl)
            · refine lv_bipush (v := jI (-4)) hx hb dX8_field_67 (by decide) ?_
              rw [hQ9]
              refine ret_i (mc := 0) (ms := 0) hx hb hr hlocks hw hS (by first | exact Nat.le_of_ble_eq_true rfl | omega) (by first | exact Nat.le_of_ble_eq_true rfl | omega) dX8_field_69 ?_
              exact ⟨X, Y, rfl, hR, Frm.rf, Frm.rf, hCI, by omega, (by rw [← ezz1]; (try delta Hid at *); first | exact Or.inr (Or.inr (Or.inr (Or.inl ⟨by omega, by omega, by omega, by omega, by omega, by omega, by omega⟩))) | exact Or.inr (Or.inr (Or.inr (Or.inr ((⟨by omega, by omega, by omega, by omega, by omega, by omega, by omega⟩))))) | omega), fun h => (by exfalso; omega), fun y j h => ⟨rfl, rfl, rfl, rfl⟩, fun y h => rfl, fun q => (by exfalso; omega), fun _ => ⟨rfl, rfl⟩⟩
          · refine lv_bipush (v := jI (-3)) hx hb dX8_field_55 (by decide) ?_
            rw [hQ9]
            refine ret_i (mc := 0) (ms := 0) hx hb hr hlocks hw hS (by first | exact Nat.le_of_ble_eq_true rfl | omega) (by first | exact Nat.le_of_ble_eq_true rfl | omega) dX8_field_57 ?_
            exact ⟨X, Y, rfl, hR, Frm.rf, Frm.rf, hCI, by omega, (by rw [← ezz1]; (try delta Hid at *); first | exact Or.inr (Or.inr (Or.inl ⟨by omega, by omega, by omega, by omega, by omega, by omega⟩)) | exact Or.inr (Or.inr (Or.inr (Or.inr ((⟨by omega, by omega, by omega, by omega, by omega, by omega, by omega⟩))))) | omega), fun h => (by exfalso; omega), fun y j h => ⟨rfl, rfl, rfl, rfl⟩, fun y h => rfl, fun q => (by exfalso; omega), fun _ => ⟨rfl, rfl⟩⟩
        · subst ez11
          refine x_if_neF (tgt := 45) hx hb (by omega) (by decide) dX8_field_39 (by decide) ?_
          refine lv_bipush (v := jI (-2)) hx hb dX8_field_42 (by decide) ?_
          rw [hQ9]
          refine ret_i (mc := 0) (ms := 0) hx hb hr hlocks hw hS (by first | exact Nat.le_of_ble_eq_true rfl | omega) (by first | exact Nat.le_of_ble_eq_true rfl | omega) dX8_field_44 ?_
          exact ⟨X, Y, rfl, hR, Frm.rf, Frm.rf, hCI, by omega, (by rw [← ezz1]; (try delta Hid at *); first | exact Or.inr (Or.inl ⟨by omega, by omega, (fun q => by omega), by omega, by omega⟩) | exact Or.inr (Or.inr (Or.inr (Or.inr ((⟨by omega, by omega, by omega, by omega, by omega, by omega, by omega⟩))))) | omega), fun h => (by exfalso; omega), fun y j h => ⟨rfl, rfl, rfl, rfl⟩, fun y h => rfl, fun q => (by exfalso; omega), fun _ => ⟨rfl, rfl⟩⟩
    · subst ez4
      refine x_if_eqT (tgt := 42) hx hb (by omega) (by decide) dX8_field_20 (by decide) ?_
      refine lv_bipush (v := jI (-2)) hx hb dX8_field_42 (by decide) ?_
      rw [hQ9]
      refine ret_i (mc := 0) (ms := 0) hx hb hr hlocks hw hS (by first | exact Nat.le_of_ble_eq_true rfl | omega) (by first | exact Nat.le_of_ble_eq_true rfl | omega) dX8_field_44 ?_
      exact ⟨X, Y, rfl, hR, Frm.rf, Frm.rf, hCI, by omega, (by rw [← ezz1]; (try delta Hid at *); first | exact Or.inr (Or.inl ⟨by omega, by omega, (fun q => by omega), by omega, by omega⟩) | exact Or.inr (Or.inr (Or.inr (Or.inr ((⟨by omega, by omega, by omega, by omega, by omega, by omega, by omega⟩))))) | omega), fun h => (by exfalso; omega), fun y j h => ⟨rfl, rfl, rfl, rfl⟩, fun y h => rfl, fun q => (by exfalso; omega), fun _ => ⟨rfl, rfl⟩⟩

set_option maxHeartbeats 4000000 in
set_option maxRecDepth 100000 in
theorem c_X8_drop (l : Launch) (D : va_G) (tc : Nat → ClassId) (base : Nat) (ad : Nat → Int → Nat) (cnt : Nat → Int) (X : Nat → Int → Int → Int) (Y : Nat → Int → Int → Option Int) (ln : Int → Int) (hR : Rng X) (hFx : Fx cnt) (hLn : LnOK ln) (hCI : CInv cnt X Y ln) (t k : Int) (ht : -2147483648 ≤ t ∧ t ≤ 2147483647) (hk : -2147483648 ≤ k ∧ k ≤ 2147483647) : KI l D tc base yX8_drop wsX8_drop ({ frames := 2, cells := 0, slots := 0, locals := 42 } : Room) [.ref (ad 0 0), .int (jI t), .int (jI k)] (ad, cnt, X, Y, ln) 0 0 (fun z u => ∃ (X1 : Nat → Int → Int → Int) (Y1 : Nat → Int → Int → Option Int), u = (ad, cnt, X1, Y1, ln) ∧ Rng X1 ∧ Frm [1902, 2000, 2100, 2200, 2300, 1600] X X1 ∧ Frm [1700] Y Y1 ∧ CInv cnt X1 Y1 ln ∧ (-2147483648 ≤ z ∧ z ≤ 2147483647) ∧ ((¬ (0 ≤ t ∧ t < X 0 0 1 ∧ 0 ≤ k ∧ k < X 19 t 1) ∧ z = -1 ∧ X1 19 t 1 = X 19 t 1) ∨ (0 ≤ t ∧ t < X 0 0 1 ∧ 0 ≤ k ∧ k < X 19 t 1 ∧ 0 < X 29 0 3 ∧ z = -3 ∧ X1 19 t 1 = X 19 t 1) ∨ (0 ≤ t ∧ t < X 0 0 1 ∧ 0 ≤ k ∧ k < X 19 t 1 ∧ X 29 0 3 = 0 ∧ z = X 19 t 1 - 1 ∧ X1 19 t 1 = X 19 t 1 - 1)) ∧ (0 ≤ z → Sh 20 X X1 t k (X 19 t 1 - 1) ∧ Sh 21 X X1 t k (X 19 t 1 - 1) ∧ Sh 22 X X1 t k (X 19 t 1 - 1) ∧ Sh 23 X X1 t k (X 19 t 1 - 1)) ∧ (z < 0 → ∀ y j, X1 20 y j = X 20 y j ∧ X1 21 y j = X 21 y j ∧ X1 22 y j = X 22 y j ∧ X1 23 y j = X 23 y j) ∧ (∀ y, y ≠ t → X1 19 y 1 = X 19 y 1) ∧ (0 ≤ z → (∀ y, 0 ≤ y → y < X 0 0 3 → Y 15 y 0 = some t → ∀ j, X1 16 y j = (if k ≤ j ∧ j < 4 then X 16 y (j + 1) else X 16 y j) ∧ Y1 17 y j = (if k ≤ j ∧ j < 4 then Y 17 y (j + 1) else Y 17 y j)) ∧ ∀ y j, 0 ≤ y → y < X 0 0 3 → ¬ (Y 15 y 0 = some t) → X1 16 y j = X 16 y j ∧ Y1 17 y j = Y 17 y j) ∧ (z < 0 → X1 = X ∧ Y1 = Y)) := by
  refine K_of (cc := cX8_drop) (maxL := 5) (ret := (some .int)) (by decide) rfl (Nat.le_of_ble_eq_true rfl) ?_
  intro p e s m below meth c ls hx hb hr hml hown hts hlocks hl hK hw hS
  have hown : s.vm.findClass RX8 = some m.cls := hown
  obtain ⟨av9, hav9⟩ : ∃ a9 : Array Value, a9 = ([.ref (ad 0 0), .int (jI t), .int (jI k)] : List Value).toArray := ⟨_, rfl⟩
  rw [← hav9] at hts ⊢
  obtain ⟨Q9, hQ9⟩ : ∃ q9Q : State → Prop, q9Q = MQ below (QI D tc base (fun z u => ∃ (X1 : Nat → Int → Int → Int) (Y1 : Nat → Int → Int → Option Int), u = (ad, cnt, X1, Y1, ln) ∧ Rng X1 ∧ Frm [1902, 2000, 2100, 2200, 2300, 1600] X X1 ∧ Frm [1700] Y Y1 ∧ CInv cnt X1 Y1 ln ∧ (-2147483648 ≤ z ∧ z ≤ 2147483647) ∧ ((¬ (0 ≤ t ∧ t < X 0 0 1 ∧ 0 ≤ k ∧ k < X 19 t 1) ∧ z = -1 ∧ X1 19 t 1 = X 19 t 1) ∨ (0 ≤ t ∧ t < X 0 0 1 ∧ 0 ≤ k ∧ k < X 19 t 1 ∧ 0 < X 29 0 3 ∧ z = -3 ∧ X1 19 t 1 = X 19 t 1) ∨ (0 ≤ t ∧ t < X 0 0 1 ∧ 0 ≤ k ∧ k < X 19 t 1 ∧ X 29 0 3 = 0 ∧ z = X 19 t 1 - 1 ∧ X1 19 t 1 = X 19 t 1 - 1)) ∧ (0 ≤ z → Sh 20 X X1 t k (X 19 t 1 - 1) ∧ Sh 21 X X1 t k (X 19 t 1 - 1) ∧ Sh 22 X X1 t k (X 19 t 1 - 1) ∧ Sh 23 X X1 t k (X 19 t 1 - 1)) ∧ (z < 0 → ∀ y j, X1 20 y j = X 20 y j ∧ X1 21 y j = X 21 y j ∧ X1 22 y j = X 22 y j ∧ X1 23 y j = X 23 y j) ∧ (∀ y, y ≠ t → X1 19 y 1 = X 19 y 1) ∧ (0 ≤ z → (∀ y, 0 ≤ y → y < X 0 0 3 → Y 15 y 0 = some t → ∀ j, X1 16 y j = (if k ≤ j ∧ j < 4 then X 16 y (j + 1) else X 16 y j) ∧ Y1 17 y j = (if k ≤ j ∧ j < 4 then Y 17 y (j + 1) else Y 17 y j)) ∧ ∀ y j, 0 ≤ y → y < X 0 0 3 → ¬ (Y 15 y 0 = some t) → X1 16 y j = X 16 y j ∧ Y1 17 y j = Y 17 y j) ∧ (z < 0 → X1 = X ∧ Y1 = Y))) av9 s 0 0 (frA base) := ⟨_, rfl⟩
  rw [← hQ9]
  have hi2 : ∀ w ∈ wsX20, w ∈ wsX8_drop := fun w h => List.mem_cons_of_mem _ (List.mem_append_left _ (List.mem_append_left _ (List.mem_append_right _ h)))
  have hf2 : fctx s m _ RX8 wsX8_drop D tc RX2 TX2 4 2 := ⟨hts, hi2, hown, hK.1, rfl⟩
  have hi6 : ∀ w ∈ wsX60, w ∈ wsX8_drop := fun w h => List.mem_cons_of_mem _ (List.mem_append_left _ (List.mem_append_right _ h))
  have hf6 : fctx s m _ RX8 wsX8_drop D tc RX6 TX6 4 6 := ⟨hts, hi6, hown, hK.1, rfl⟩
  have hi7 : ∀ w ∈ wsX70, w ∈ wsX8_drop := fun w h => List.mem_cons_of_mem _ (List.mem_append_right _ h)
  have hf7 : fctx s m _ RX8 wsX8_drop D tc RX7 TX7 8 7 := ⟨hts, hi7, hown, hK.1, rfl⟩
  have hi8 : ∀ w ∈ wsX80, w ∈ wsX8_drop := fun w h => List.mem_cons_of_mem _ (List.mem_append_left _ (List.mem_append_left _ (List.mem_append_left _ (List.mem_append_right _ h))))
  have hf8 : fctx s m _ RX8 wsX8_drop D tc RX8 TX8 12 8 := ⟨hts, hi8, hown, hK.1, rfl⟩
  have lk17 := hts (.fieldLink RX8 17 (TX8 2).1 (TX8 2).2.1 (TX8 2).2.2.1) (gj_X8_drop_0 _ (gp_1 (gp_1 (gp_1 gp_h))))
  have lk51 := hts (.fieldLink RX8 51 (TX8 10).1 (TX8 10).2.1 (TX8 10).2.2.1) (gj_X8_drop_0 _ (gp_h))
  have lk82 := hts (.fieldLink RX8 82 (TX2 3).1 (TX2 3).2.1 (TX2 3).2.2.1) (gj_X8_drop_0 _ (gp_1 gp_h))
  have lk85 := hts (.fieldLink RX8 85 (TX7 1).1 (TX7 1).2.1 (TX7 1).2.2.1) (gj_X8_drop_0 _ (gp_4 (gp_1 gp_h)))
  have lk94 := hts (.fieldLink RX8 94 (TX8 3).1 (TX8 3).2.1 (TX8 3).2.2.1) (gj_X8_drop_0 _ (gp_1 (gp_1 gp_h)))
  have lk97 := hts (.fieldLink RX8 97 (TX6 0).1 (TX6 0).2.1 (TX6 0).2.2.1) (gj_X8_drop_0 _ (gp_4 gp_h))
  have hc0 : cnt 0 = 1 := hFx.at 0 1 (by decide)
  have hc2 : cnt 2 = 1 := hFx.at 2 1 (by decide)
  have hc15 : cnt 15 = 30 := hFx.at 15 30 (by decide)
  have hc29 : cnt 29 = 1 := hFx.at 29 1 (by decide)
  have hl : lv_has ls 5 [(0, .ref (ad 0 0)), (1, .int (jI t)), (2, .int (jI k))] := hl
  have ftc : 0 ≤ X 0 0 3 ∧ X 0 0 3 ≤ 30 := hR 0 0 3
  have fty : 0 ≤ X 0 0 1 ∧ X 0 0 1 ≤ 8 := hR 0 0 1
  have hct : cnt 19 = X 0 0 1 := hCI.2.2.2.1.1
  have hfj : 0 ≤ X 29 0 3 ∧ X 29 0 3 ≤ 4 := hR 29 0 3
  have hfn : 0 ≤ X 29 0 1 ∧ X 29 0 1 ≤ 80 := hR 29 0 1
  refine lv_aload_n hx hb dX8_drop_0 rfl (lv_at hl 0 rfl) ?_
  refine lv_iload_n hx hb dX8_drop_1 rfl (lv_at hl 1 rfl) ?_
  refine gos_r (run_V (As := [.int (jI t)]) (rest := []) hx hb hml hown hts (c_X8_typeNumbered l D tc base ad cnt X Y ln hR hFx hLn hCI t (by omega)) (cwV 1 hts gX8_drop_X8_typeNumbered rfl rfl rfl (by first | exact hd_X8_typeNumbered | decide +kernel) ⟨Nat.le_of_ble_eq_true rfl, Nat.le_of_ble_eq_true rfl⟩) hK hw (by first | exact Int.le_refl 0 | omega) (by first | exact zlt hc0 | omega) sl_0_0 rfl rfl hl.1 rfl (Nat.le_of_ble_eq_true rfl) dX8_drop_2 ⟨Nat.le_of_ble_eq_true rfl, Nat.le_of_ble_eq_true rfl⟩) hS (fun u2 H locs p3 hw hS => ?_) (fun z1 u2 H locs p3 hw hS => ?_)
  · obtain ⟨eu2, hsp3, hnp3⟩ := p3
    subst eu2
    refine lv_astore_nN (lv' := [(3, .null), (0, .ref (ad 0 0)), (1, .int (jI t)), (2, .int (jI k))]) hx hb dX8_drop_5 rfl hl (by decide) rfl (fun ls hl => ?_)
    refine lv_aload_nN hx hb dX8_drop_6 rfl (lv_at hl 0 rfl) ?_
    refine lv_ifnullN (tgt := 18) hx hb dX8_drop_7 (by decide) ?_
    refine lv_iconst (v := jI (-1)) hx hb dX8_drop_18 rfl ?_
    rw [hQ9]
    refine ret_i (mc := 0) (ms := 0) hx hb hr hlocks hw hS (by first | exact Nat.le_of_ble_eq_true rfl | omega) (by first | exact Nat.le_of_ble_eq_true rfl | omega) dX8_drop_19 ?_
    exact ⟨X, Y, rfl, hR, Frm.rf, Frm.rf, hCI, by omega, (by have h9n : ¬ (0 ≤ t ∧ t < X 0 0 1) := hnp3 rfl; (try delta Hid at *); first | exact Or.inl ⟨(fun q => by omega), by omega, by omega⟩ | exact Or.inr (Or.inr ((⟨by omega, by omega, by omega, by omega, by omega, by omega, by omega⟩))) | omega), fun h => (by exfalso; omega), fun _ y j => ⟨rfl, rfl, rfl, rfl⟩, fun y h => rfl, fun q => (by exfalso; omega), fun _ => ⟨rfl, rfl⟩⟩
  · obtain ⟨eu2, hsp3, hnp3⟩ := p3
    subst eu2
    obtain ⟨ezz1, p3⟩ := hsp3 z1 rfl
    refine lv_astore_n (lv' := [(3, .ref (ad 19 z1)), (0, .ref (ad 0 0)), (1, .int (jI t)), (2, .int (jI k))]) hx hb dX8_drop_5 rfl hl (by decide) rfl (fun ls hl => ?_)
    refine lv_aload_n hx hb dX8_drop_6 rfl (lv_at hl 0 rfl) ?_
    refine lv_ifnull hx hb dX8_drop_7 ?_
    refine lv_aload_n hx hb dX8_drop_10 rfl (lv_at hl 0 rfl) ?_
    refine lv_iload_n hx hb dX8_drop_11 rfl (lv_at hl 3 rfl) ?_
    refine gos_i (run_V (As := [.int (jI k)]) (rest := []) hx hb hml hown hts (c_X7_hasField l D tc base ad cnt X Y ln hR hFx hLn z1 k (by omega) (by omega)) (cwV 1 hts gX8_drop_X7_hasField rfl rfl rfl (by first | exact hd_X7_hasField | decide +kernel) ⟨Nat.le_of_ble_eq_true rfl, Nat.le_of_ble_eq_true rfl⟩) hK hw (by first | exact Int.le_refl 0 | omega) (by first | exact zlt hc19 | omega) sl_19_0 rfl rfl hl.1 rfl (Nat.le_of_ble_eq_true rfl) dX8_drop_12 ⟨Nat.le_of_ble_eq_true rfl, Nat.le_of_ble_eq_true rfl⟩) hS (fun z4 u5 H locs p6 hw hS => ?_)
    obtain ⟨eu5, p6⟩ := p6
    subst eu5
    rcases p6 with ⟨ez4, p6⟩ | ⟨ez4, p6⟩
    · subst ez4
      refine x_if_neT (tgt := 20) hx hb (by omega) (by decide) dX8_drop_15 (by decide) ?_
      refine lv_aload_n hx hb dX8_drop_20 rfl (lv_at hl 1 rfl) ?_
      refine x_geto hx hb hf8 hw (by first | exact Int.le_refl 0 | omega) (by first | exact zlt hc0 | omega) sl_0_10 lk51 dX8_drop_21 ?_
      refine x_geti (jz := 3) hx hb hf2 hw (by first | exact Int.le_refl 0 | omega) (by first | exact zlt hc29 | omega) sl_29_3 rfl lk82 dX8_drop_24 ?_
      have f7 : 0 ≤ X 29 0 3 ∧ X 29 0 3 ≤ 4 := hR 29 0 3
      refine x_if_le (tgt := 33) hx hb (by omega) dX8_drop_27 (by decide) (fun c8 => ?_) (fun c8 => ?_)
      · refine lv_aload_n hx hb dX8_drop_33 rfl (lv_at hl 0 rfl) ?_
        refine lv_iload_n hx hb dX8_drop_34 rfl (lv_at hl 3 rfl) ?_
        refine gos_v (run_V (As := [.int (jI k)]) (rest := []) hx hb hml hown hts (c_X7_removeField l D tc base ad cnt X Y ln hR hFx hLn hCI z1 k (by omega) (by omega)) (cwV 1 hts gX8_drop_X7_removeField rfl rfl rfl (by first | exact hd_X7_removeField | decide +kernel) ⟨Nat.le_of_ble_eq_true rfl, Nat.le_of_ble_eq_true rfl⟩) hK hw (by first | exact Int.le_refl 0 | omega) (by first | exact zlt hc19 | omega) sl_19_0 rfl rfl hl.1 rfl (Nat.le_of_ble_eq_true rfl) dX8_drop_35 ⟨Nat.le_of_ble_eq_true rfl, Nat.le_of_ble_eq_true rfl⟩) hS (fun u10 H locs p11 hw hS => ?_)
        obtain ⟨X12, eu10, hRX12, hG13, hCIX12, p11, hrfX12, hryX12, h20X12, h21X12, h22X12, h23X12⟩ := p11
        subst eu10
        have hFX12 : Frm [1902, 2000, 2100, 2200, 2300, 1600] X X12 := Frm.tr Frm.rf (Frm.mono hG13 (by first | exact nls_of rfl | decide))
        refine lv_iconst (v := jI 0) hx hb dX8_drop_38 rfl ?_
        refine lv_istore (lv' := [(4, .int (jI 0)), (3, .ref (ad 19 z1)), (0, .ref (ad 0 0)), (1, .int (jI t)), (2, .int (jI k))]) hx hb dX8_drop_39 hl (by decide) rfl (fun ls hl => ?_)
        have lp41 : ∀ (nn : Nat) (x : Int) (Xa : Nat → Int → Int → Int) (Ya : Nat → Int → Int → Option Int) (H : Heap) (locs : List Loc) (ls : Array Slot), (30 - x) < (nn : Int) → (Rng Xa) → (Frm [1600] X12 Xa) → (Frm [1700] Y Ya) → (0 ≤ x ∧ x ≤ 30) → (CInv cnt Xa Ya ln) → (DrC X Xa Y Ya z1 k x) → wd D tc base (ad, cnt, Xa, Ya, ln) H → va_S (frA base) s.heap H locs → lv_has ls 5 [(0, .ref (ad 0 0)), (1, .int (jI t)), (2, .int (jI k)), (3, .ref (ad 19 z1)), (4, .int (jI x))] → W p l e ({ frames := 2, cells := 0, slots := 0, locals := 42 } : Room) s m av9 below meth c H locs 0 0 Q9 (F0 m 41 ls []) := by
          intro nn
          induction nn with
          | zero => intro x Xa Ya H locs ls hm hRXa hGXa hGYa hx8 hCIXa hDr hw hS hl; exfalso; omega
          | succ nn ih41 =>
            intro x Xa Ya H locs ls hm hRXa hGXa hGYa hx8 hCIXa hDr hw hS hl
            have hHYa : Frm [1700] Y Ya := Frm.tr Frm.rf (Frm.mono hGYa (by first | exact nls_of rfl | decide))
            have hFXa : Frm [1902, 2000, 2100, 2200, 2300, 1600] X Xa := Frm.tr hFX12 (Frm.mono hGXa (by first | exact nls_of rfl | decide))
            refine lv_iload hx hb dX8_drop_41 (lv_at hl 4 rfl) ?_
            refine lv_aload_n hx hb dX8_drop_43 rfl (lv_at hl 0 rfl) ?_
            refine x_geti (jz := 3) hx hb hf8 hw (by first | exact Int.le_refl 0 | omega) (by first | exact zlt hc0 | omega) sl_0_3 rfl lk94 dX8_drop_44 ?_
            have e14 : Xa 0 0 3 = X 0 0 3 := by rw [hGXa 0 0 3 (show 4 ∉ [1600] by first | exact nlm_ni rfl | decide), hG13 0 0 3 (show 4 ∉ [1902, 2000, 2100, 2200, 2300] by first | exact nlm_ni rfl | decide)]
            rw [e14]
            have f15 : 0 ≤ X 0 0 3 ∧ X 0 0 3 ≤ 30 := hR 0 0 3
            refine x_icmp_ge (tgt := 81) hx hb (by omega) (by omega) dX8_drop_47 (by decide) (fun c16 => ?_) (fun c16 => ?_)
            · refine lv_aload_n hx hb dX8_drop_81 rfl (lv_at hl 3 rfl) ?_
              refine x_geti (jz := 1) hx hb hf7 hw (by omega) (by omega) sl_19_1 rfl lk85 dX8_drop_82 ?_
              have e17 : Xa 19 z1 1 = X12 19 z1 1 := by rw [hGXa 19 z1 1 (show 1902 ∉ [1600] by first | exact nlm_ni rfl | decide)]
              rw [e17]
              have f18 : 0 ≤ X12 19 z1 1 ∧ X12 19 z1 1 ≤ 5 := hRX12 19 z1 1
              rw [hQ9]
              refine ret_i (mc := 0) (ms := 0) hx hb hr hlocks hw hS (by first | exact Nat.le_of_ble_eq_true rfl | omega) (by first | exact Nat.le_of_ble_eq_true rfl | omega) dX8_drop_85 ?_
              have e19 : Xa 19 z1 1 = X12 19 z1 1 := (by rw [hGXa 19 z1 1 (show 1902 ∉ [1600] by first | exact nlm_ni rfl | decide)])
              exact ⟨Xa, Ya, rfl, hRXa, hFXa, hHYa, hCIXa, by omega, (by rw [← ezz1]; (try delta Hid at *); first | exact Or.inr (Or.inr ((⟨by omega, by omega, by omega, by omega, by omega, by omega, by omega⟩))) | omega), fun h => ⟨(by rw [← ezz1]; exact Sh.of h20X12 (by rw [(funext fun y9 => funext fun j9 => hGXa 20 y9 j9 (show 2000 ∉ [1600] by first | exact nlm_ni rfl | decide) : Xa 20 = X12 20)])), (by rw [← ezz1]; exact Sh.of h21X12 (by rw [(funext fun y9 => funext fun j9 => hGXa 21 y9 j9 (show 2100 ∉ [1600] by first | exact nlm_ni rfl | decide) : Xa 21 = X12 21)])), (by rw [← ezz1]; exact Sh.of h22X12 (by rw [(funext fun y9 => funext fun j9 => hGXa 22 y9 j9 (show 2200 ∉ [1600] by first | exact nlm_ni rfl | decide) : Xa 22 = X12 22)])), (by rw [← ezz1]; exact Sh.of h23X12 (by rw [(funext fun y9 => funext fun j9 => hGXa 23 y9 j9 (show 2300 ∉ [1600] by first | exact nlm_ni rfl | decide) : Xa 23 = X12 23)]))⟩, fun h => (by exfalso; omega), fun y h => (by rw [hGXa 19 y 1 (show 1902 ∉ [1600] by first | exact nlm_ni rfl | decide)]; exact hryX12 y (by omega)), fun _ => (by rw [← ezz1]; exact ⟨fun y a b c => hDr.1 y a (by omega) c, fun y j a b c => hDr.2 y (fun q9 => c q9.2.2) j⟩), fun q => (by exfalso; omega)⟩
            · refine lv_aload_n hx hb dX8_drop_50 rfl (lv_at hl 0 rfl) ?_
              refine x_geto hx hb hf8 hw (by first | exact Int.le_refl 0 | omega) (by first | exact zlt hc0 | omega) sl_0_2 lk17 dX8_drop_51 ?_
              refine lv_iload hx hb dX8_drop_54 (lv_at hl 4 rfl) ?_
              refine x_aald hx hb hK.1 hw (by first | exact Int.le_refl 0 | omega) (by first | exact zlt hc2 | omega) ar_2 rfl (len_E ar_2 (by first | exact Nat.ne_of_beq_eq_false rfl | decide)) (by omega) (by omega) (by omega) dX8_drop_56 (fun y20 => ?_) (fun r21 y20 gr21 lr21 => ?_)
              · exfalso
                have e22 : ∀ p9 q9 : Int, Ya 2 p9 q9 = Y 2 p9 q9 := fun p9 q9 => by rw [hGYa 2 p9 q9 (show 200 ∉ [1700] by first | exact nlm_ni rfl | decide)]
                rw [e22] at y20
                have h9 := hCI.1 x (by omega) (by omega); rw [h9] at y20; cases y20
              · have e23 : ∀ p9 q9 : Int, Ya 2 p9 q9 = Y 2 p9 q9 := fun p9 q9 => by rw [hGYa 2 p9 q9 (show 200 ∉ [1700] by first | exact nlm_ni rfl | decide)]
                rw [e23] at y20
                have er21 : r21 = x := by have h9 := hCI.1 x (by omega) (by omega); rw [h9] at y20; cases y20; rfl
                rw [er21]
                refine x_getr (jz := 0) hx hb hf6 hw (by omega) (by omega) sl_15_0 rfl lk97 dX8_drop_57 (fun y24 => ?_) (fun r25 y24 gr25 lr25 => ?_)
                · exfalso
                  have e26 : Ya 15 x 0 = Y 15 x 0 := by rw [hGYa 15 x 0 (show 1501 ∉ [1700] by first | exact nlm_ni rfl | decide)]
                  rw [e26] at y24
                  exact absurd y24 (hCI.2.2.2.2.1 x (by omega) (by omega))
                · have e27 : Ya 15 x 0 = Y 15 x 0 := by rw [hGYa 15 x 0 (show 1501 ∉ [1700] by first | exact nlm_ni rfl | decide)]
                  rw [e27] at y24
                  refine lv_aload_n hx hb dX8_drop_60 rfl (lv_at hl 3 rfl) ?_
                  refine lv_acmp_ne (rx := some (ad 19 r25)) (ry := some (ad 19 z1)) (tgt := 75) hx hb dX8_drop_61 (by decide) (fun c28 => ?_) (fun c28 => ?_)
                  · have c28 : ¬ r25 = z1 := fun q => c28 (by rw [q])
                    refine lv_iinc (v := jI (x + 1)) (lv' := [(4, .int (jI (x + 1))), (0, .ref (ad 0 0)), (1, .int (jI t)), (2, .int (jI k)), (3, .ref (ad 19 z1))]) hx hb dX8_drop_75 hl (k := 4) rfl (jI_add _ _) (by decide) rfl (fun ls hl => ?_)
                    refine lv_goto (tgt := 41) hx hb dX8_drop_78 (by decide) ?_
                    have q29 : Frm [1600] X12 Xa := Frm.tr Frm.rf (Frm.mono hGXa (by first | exact nls_of rfl | decide))
                    have q30 : Frm [1700] Y Ya := Frm.tr Frm.rf (Frm.mono hGYa (by first | exact nls_of rfl | decide))
                    exact ih41 (x + 1) Xa Ya _ _ _ (by omega) hRXa q29 q30 (by omega) (hCIXa) (DrC.no hDr (by rw [y24]; exact fun q9 => (by have h9 := Option.some.inj q9; omega))) hw hS (lv_sub hl [1, 2, 3, 4, 0] rfl)
                  · have c28 : r25 = z1 := (wd_inj hw (by omega) (by omega) (by omega) (by omega) (Option.some.inj c28)).2
                    refine lv_aload_n hx hb dX8_drop_64 rfl (lv_at hl 0 rfl) ?_
                    refine x_geto hx hb hf8 hw (by first | exact Int.le_refl 0 | omega) (by first | exact zlt hc0 | omega) sl_0_2 lk17 dX8_drop_65 ?_
                    refine lv_iload hx hb dX8_drop_68 (lv_at hl 4 rfl) ?_
                    refine x_aald hx hb hK.1 hw (by first | exact Int.le_refl 0 | omega) (by first | exact zlt hc2 | omega) ar_2 rfl (len_E ar_2 (by first | exact Nat.ne_of_beq_eq_false rfl | decide)) (by omega) (by omega) (by omega) dX8_drop_70 (fun y31 => ?_) (fun r32 y31 gr32 lr32 => ?_)
                    · exfalso
                      have e33 : ∀ p9 q9 : Int, Ya 2 p9 q9 = Y 2 p9 q9 := fun p9 q9 => by rw [hGYa 2 p9 q9 (show 200 ∉ [1700] by first | exact nlm_ni rfl | decide)]
                      rw [e33] at y31
                      have h9 := hCI.1 x (by omega) (by omega); rw [h9] at y31; cases y31
                    · have e34 : ∀ p9 q9 : Int, Ya 2 p9 q9 = Y 2 p9 q9 := fun p9 q9 => by rw [hGYa 2 p9 q9 (show 200 ∉ [1700] by first | exact nlm_ni rfl | decide)]
                      rw [e34] at y31
                      have er32 : r32 = x := by have h9 := hCI.1 x (by omega) (by omega); rw [h9] at y31; cases y31; rfl
                      rw [er32]
                      refine lv_iload_n hx hb dX8_drop_71 rfl (lv_at hl 2 rfl) ?_
                      refine gos_v (run_V (As := [.int (jI k)]) (rest := []) hx hb hml hown hts (c_X6_removeField l D tc base ad cnt Xa Ya ln hRXa hFx hLn hCIXa x k (by omega) (by omega)) (cwV 1 hts gX8_drop_X6_removeField rfl rfl rfl (by first | exact hd_X6_removeField | decide +kernel) ⟨Nat.le_of_ble_eq_true rfl, Nat.le_of_ble_eq_true rfl⟩) hK hw (by first | exact Int.le_refl 0 | omega) (by first | exact zlt hc15 | omega) sl_15_0 rfl rfl hl.1 rfl (Nat.le_of_ble_eq_true rfl) dX8_drop_72 ⟨Nat.le_of_ble_eq_true rfl, Nat.le_of_ble_eq_true rfl⟩) hS (fun u36 H locs p37 hw hS => ?_)
                      obtain ⟨X38, Y39, eu36, hRX38, hG40, hJ41, hCIX38, p37, hsxX38, hsyX38⟩ := p37
                      subst eu36
                      have hFX38 : Frm [1902, 2000, 2100, 2200, 2300, 1600] X X38 := Frm.tr hFXa (Frm.mono hG40 (by first | exact nls_of rfl | decide))
                      have hHY39 : Frm [1700] Y Y39 := Frm.tr hHYa (Frm.mono hJ41 (by first | exact nls_of rfl | decide))
                      refine lv_iinc (v := jI (x + 1)) (lv' := [(4, .int (jI (x + 1))), (0, .ref (ad 0 0)), (1, .int (jI t)), (2, .int (jI k)), (3, .ref (ad 19 z1))]) hx hb dX8_drop_75 hl (k := 4) rfl (jI_add _ _) (by decide) rfl (fun ls hl => ?_)
                      refine lv_goto (tgt := 41) hx hb dX8_drop_78 (by decide) ?_
                      have q42 : Frm [1600] X12 Xa := Frm.tr Frm.rf (Frm.mono hGXa (by first | exact nls_of rfl | decide))
                      have q43 : Frm [1600] X12 X38 := Frm.tr q42 (Frm.mono hG40 (by first | exact nls_of rfl | decide))
                      have q44 : Frm [1700] Y Ya := Frm.tr Frm.rf (Frm.mono hGYa (by first | exact nls_of rfl | decide))
                      exact ih41 (x + 1) X38 Y39 _ _ _ (by omega) hRX38 q43 hHY39 (by omega) (hCIX38) (DrC.yes hDr hsxX38 hsyX38 (fun y j => (by rfl)) (fun y j => (by rfl)) (by omega) (by rw [y24, show r25 = z1 by omega])) hw hS (lv_sub hl [1, 2, 3, 4, 0] rfl)
        exact lp41 (30 - 0 : Int).toNat.succ 0 X12 Y _ _ _ (by omega) hRX12 Frm.rf Frm.rf (by omega) (hCIX12) (DrC.in_ (fun y j => (by rw [hG13 16 y j (show 1600 ∉ [1902, 2000, 2100, 2200, 2300] by first | exact nlm_ni rfl | decide)])) (fun y j => (by rfl))) hw hS (lv_sub hl [2, 3, 4, 1, 0] rfl)
      · refine lv_bipush (v := jI (-3)) hx hb dX8_drop_30 (by decide) ?_
        rw [hQ9]
        refine ret_i (mc := 0) (ms := 0) hx hb hr hlocks hw hS (by first | exact Nat.le_of_ble_eq_true rfl | omega) (by first | exact Nat.le_of_ble_eq_true rfl | omega) dX8_drop_32 ?_
        exact ⟨X, Y, rfl, hR, Frm.rf, Frm.rf, hCI, by omega, (by rw [← ezz1]; (try delta Hid at *); first | exact Or.inr (Or.inl ⟨by omega, by omega, by omega, by omega, by omega, by omega, by omega⟩) | exact Or.inr (Or.inr ((⟨by omega, by omega, by omega, by omega, by omega, by omega, by omega⟩))) | omega), fun h => (by exfalso; omega), fun _ y j => ⟨rfl, rfl, rfl, rfl⟩, fun y h => rfl, fun q => (by exfalso; omega), fun _ => ⟨rfl, rfl⟩⟩
    · subst ez4
      refine x_if_neF (tgt := 20) hx hb (by omega) (by decide) dX8_drop_15 (by decide) ?_
      refine lv_iconst (v := jI (-1)) hx hb dX8_drop_18 rfl ?_
      rw [hQ9]
      refine ret_i (mc := 0) (ms := 0) hx hb hr hlocks hw hS (by first | exact Nat.le_of_ble_eq_true rfl | omega) (by first | exact Nat.le_of_ble_eq_true rfl | omega) dX8_drop_19 ?_
      exact ⟨X, Y, rfl, hR, Frm.rf, Frm.rf, hCI, by omega, (by rw [← ezz1]; (try delta Hid at *); first | exact Or.inl ⟨(fun q => by omega), by omega, by omega⟩ | exact Or.inr (Or.inr ((⟨by omega, by omega, by omega, by omega, by omega, by omega, by omega⟩))) | omega), fun h => (by exfalso; omega), fun _ y j => ⟨rfl, rfl, rfl, rfl⟩, fun y h => rfl, fun q => (by exfalso; omega), fun _ => ⟨rfl, rfl⟩⟩

set_option maxHeartbeats 4000000 in
set_option maxRecDepth 100000 in
theorem c_X8_forgetNumbers (l : Launch) (D : va_G) (tc : Nat → ClassId) (base : Nat) (ad : Nat → Int → Nat) (cnt : Nat → Int) (X : Nat → Int → Int → Int) (Y : Nat → Int → Int → Option Int) (ln : Int → Int) (hR : Rng X) (hFx : Fx cnt) (hLn : LnOK ln) (hCI : CInv cnt X Y ln)  : KV l D tc base yX8_forgetNumbers wsX8_forgetNumbers ({ frames := 1, cells := 0, slots := 0, locals := 21 } : Room) [.ref (ad 0 0)] (ad, cnt, X, Y, ln) 0 0 (fun u => ∃ (X1 : Nat → Int → Int → Int), u = (ad, cnt, X1, Y, ln) ∧ Rng X1 ∧ Frm [1504, 2602] X X1 ∧ CInv cnt X1 Y ln ∧ (0 : Int) ≤ 0 ∧ (∀ x, 0 ≤ x → x < X 0 0 3 → X1 15 x 3 = -1) ∧ ∀ y k w9, 0 ≤ y → y < X 0 0 3 → 0 ≤ k → k < cFc X Y y → Y 17 y k = some w9 → X1 26 w9 1 = -1) := by
  refine K_of (cc := cX8_forgetNumbers) (maxL := 2) (ret := none) (by decide) rfl (Nat.le_of_ble_eq_true rfl) ?_
  intro p e s m below meth c ls hx hb hr hml hown hts hlocks hl hK hw hS
  have hown : s.vm.findClass RX8 = some m.cls := hown
  obtain ⟨av9, hav9⟩ : ∃ a9 : Array Value, a9 = ([.ref (ad 0 0)] : List Value).toArray := ⟨_, rfl⟩
  rw [← hav9] at hts ⊢
  obtain ⟨Q9, hQ9⟩ : ∃ q9Q : State → Prop, q9Q = MQ below (QV D tc base (fun u => ∃ (X1 : Nat → Int → Int → Int), u = (ad, cnt, X1, Y, ln) ∧ Rng X1 ∧ Frm [1504, 2602] X X1 ∧ CInv cnt X1 Y ln ∧ (0 : Int) ≤ 0 ∧ (∀ x, 0 ≤ x → x < X 0 0 3 → X1 15 x 3 = -1) ∧ ∀ y k w9, 0 ≤ y → y < X 0 0 3 → 0 ≤ k → k < cFc X Y y → Y 17 y k = some w9 → X1 26 w9 1 = -1)) av9 s 0 0 (frA base) := ⟨_, rfl⟩
  rw [← hQ9]
  have hi8 : ∀ w ∈ wsX80, w ∈ wsX8_forgetNumbers := fun w h => List.mem_cons_of_mem _ (List.mem_append_left _ (List.mem_append_left _ (List.mem_append_left _ (List.mem_append_right _ h))))
  have hf8 : fctx s m _ RX8 wsX8_forgetNumbers D tc RX8 TX8 12 8 := ⟨hts, hi8, hown, hK.1, rfl⟩
  have lk17 := hts (.fieldLink RX8 17 (TX8 2).1 (TX8 2).2.1 (TX8 2).2.2.1) (gj_X8_forgetNumbers_0 _ (gp_1 gp_h))
  have lk94 := hts (.fieldLink RX8 94 (TX8 3).1 (TX8 3).2.1 (TX8 3).2.2.1) (gj_X8_forgetNumbers_0 _ (gp_h))
  have hc0 : cnt 0 = 1 := hFx.at 0 1 (by decide)
  have hc2 : cnt 2 = 1 := hFx.at 2 1 (by decide)
  have hc15 : cnt 15 = 30 := hFx.at 15 30 (by decide)
  have hl : lv_has ls 2 [(0, .ref (ad 0 0))] := hl
  have ftc : 0 ≤ X 0 0 3 ∧ X 0 0 3 ≤ 30 := hR 0 0 3
  have fty : 0 ≤ X 0 0 1 ∧ X 0 0 1 ≤ 8 := hR 0 0 1
  have hct : cnt 19 = X 0 0 1 := hCI.2.2.2.1.1
  have hfj : 0 ≤ X 29 0 3 ∧ X 29 0 3 ≤ 4 := hR 29 0 3
  have hfn : 0 ≤ X 29 0 1 ∧ X 29 0 1 ≤ 80 := hR 29 0 1
  refine lv_iconst (v := jI 0) hx hb dX8_forgetNumbers_0 rfl ?_
  refine lv_istore_n (lv' := [(1, .int (jI 0)), (0, .ref (ad 0 0))]) hx hb dX8_forgetNumbers_1 rfl hl (by decide) rfl (fun ls hl => ?_)
  have lp2 : ∀ (nn : Nat) (x : Int) (Xa : Nat → Int → Int → Int) (H : Heap) (locs : List Loc) (ls : Array Slot), (30 - x) < (nn : Int) → (Rng Xa) → (Frm [1504, 2602] X Xa) → (0 ≤ x ∧ x ≤ 30) → (CInv cnt Xa Y ln) → (∀ y, 0 ≤ y → y < x → Xa 15 y 3 = -1) → (∀ y k w9, 0 ≤ y → y < x → 0 ≤ k → k < cFc X Y y → Y 17 y k = some w9 → Xa 26 w9 1 = -1) → wd D tc base (ad, cnt, Xa, Y, ln) H → va_S (frA base) s.heap H locs → lv_has ls 2 [(0, .ref (ad 0 0)), (1, .int (jI x))] → W p l e ({ frames := 1, cells := 0, slots := 0, locals := 21 } : Room) s m av9 below meth c H locs 0 0 Q9 (F0 m 2 ls []) := by
    intro nn
    induction nn with
    | zero => intro x Xa H locs ls hm hRXa hGXa hx1 hCIXa hfn9 hrw hw hS hl; exfalso; omega
    | succ nn ih2 =>
      intro x Xa H locs ls hm hRXa hGXa hx1 hCIXa hfn9 hrw hw hS hl
      have hFXa : Frm [1504, 2602] X Xa := Frm.tr Frm.rf (Frm.mono hGXa (by first | exact nls_of rfl | decide))
      refine lv_iload_n hx hb dX8_forgetNumbers_2 rfl (lv_at hl 1 rfl) ?_
      refine lv_aload_n hx hb dX8_forgetNumbers_3 rfl (lv_at hl 0 rfl) ?_
      refine x_geti (jz := 3) hx hb hf8 hw (by first | exact Int.le_refl 0 | omega) (by first | exact zlt hc0 | omega) sl_0_3 rfl lk94 dX8_forgetNumbers_4 ?_
      have e1 : Xa 0 0 3 = X 0 0 3 := by rw [hGXa 0 0 3 (show 4 ∉ [1504, 2602] by first | exact nlm_ni rfl | decide)]
      rw [e1]
      have f2 : 0 ≤ X 0 0 3 ∧ X 0 0 3 ≤ 30 := hR 0 0 3
      refine x_icmp_ge (tgt := 25) hx hb (by omega) (by omega) dX8_forgetNumbers_7 (by decide) (fun c3 => ?_) (fun c3 => ?_)
      · rw [hQ9]
        refine ret_v (mc := 0) (ms := 0) hx hb hr hlocks hw hS (by first | exact Nat.le_of_ble_eq_true rfl | omega) (by first | exact Nat.le_of_ble_eq_true rfl | omega) dX8_forgetNumbers_25 ?_
        exact ⟨Xa, rfl, hRXa, hFXa, hCIXa, by omega, (fun x9 a b => hfn9 x9 a (by omega)), (fun y k w9 a b c d e9 => hrw y k w9 a (by omega) c d e9)⟩
      · refine lv_aload_n hx hb dX8_forgetNumbers_10 rfl (lv_at hl 0 rfl) ?_
        refine x_geto hx hb hf8 hw (by first | exact Int.le_refl 0 | omega) (by first | exact zlt hc0 | omega) sl_0_2 lk17 dX8_forgetNumbers_11 ?_
        refine lv_iload_n hx hb dX8_forgetNumbers_14 rfl (lv_at hl 1 rfl) ?_
        refine x_aald hx hb hK.1 hw (by first | exact Int.le_refl 0 | omega) (by first | exact zlt hc2 | omega) ar_2 rfl (len_E ar_2 (by first | exact Nat.ne_of_beq_eq_false rfl | decide)) (by omega) (by omega) (by omega) dX8_forgetNumbers_15 (fun y4 => ?_) (fun r5 y4 gr5 lr5 => ?_)
        · exfalso
          have h9 := hCI.1 x (by omega) (by omega); rw [h9] at y4; cases y4
        · have er5 : r5 = x := by have h9 := hCI.1 x (by omega) (by omega); rw [h9] at y4; cases y4; rfl
          rw [er5]
          have e6 : Xa 0 0 3 = X 0 0 3 := by rw [hGXa 0 0 3 (show 4 ∉ [1504, 2602] by first | exact nlm_ni rfl | decide)]
          refine gos_v (run_V (As := []) (rest := []) hx hb hml hown hts (c_X6_forgetNumbers l D tc base ad cnt Xa Y ln hRXa hFx hLn hCIXa x (by omega) (by simp only [e6]; omega)) (cwV 0 hts gX8_forgetNumbers_X6_forgetNumbers rfl rfl rfl (by first | exact hd_X6_forgetNumbers | decide +kernel) ⟨Nat.le_of_ble_eq_true rfl, Nat.le_of_ble_eq_true rfl⟩) hK hw (by first | exact Int.le_refl 0 | omega) (by first | exact zlt hc15 | omega) sl_15_0 rfl rfl hl.1 rfl (Nat.le_of_ble_eq_true rfl) dX8_forgetNumbers_16 ⟨Nat.le_of_ble_eq_true rfl, Nat.le_of_ble_eq_true rfl⟩) hS (fun u8 H locs p9 hw hS => ?_)
          obtain ⟨X10, eu8, hRX10, hG11, hCIX10, p9, hfsX10, hfoX10, hfrX10, hfmX10⟩ := p9
          subst eu8
          have hFX10 : Frm [1504, 2602] X X10 := Frm.tr hFXa (Frm.mono hG11 (by first | exact nls_of rfl | decide))
          refine lv_iinc (v := jI (x + 1)) (lv' := [(1, .int (jI (x + 1))), (0, .ref (ad 0 0))]) hx hb dX8_forgetNumbers_19 hl (k := 1) rfl (jI_add _ _) (by decide) rfl (fun ls hl => ?_)
          refine lv_goto (tgt := 2) hx hb dX8_forgetNumbers_22 (by decide) ?_
          have q12 : Frm [1504, 2602] X Xa := Frm.tr Frm.rf (Frm.mono hGXa (by first | exact nls_of rfl | decide))
          have q13 : Frm [1504, 2602] X X10 := Frm.tr q12 (Frm.mono hG11 (by first | exact nls_of rfl | decide))
          exact ih2 (x + 1) X10 _ _ _ (by omega) hRX10 q13 (by omega) (hCIX10) (fun y a b => if hy : y = x then (by rw [hy]; exact hfsX10) else (by rw [hfoX10 y hy]; exact hfn9 y a (by omega))) (fun y k w9 a b c d e9 => if hy : y = x then (by rw [hy] at d e9; exact hfrX10 k c (by have h8 := d; unfold cFc at h8; rw [hGXa 19 (tyo (Y 15 x 0)) 1 (show 1902 ∉ [1504, 2602] by first | exact nlm_ni rfl | decide)]; exact h8) w9 e9) else hfmX10 w9 (hrw y k w9 a (by omega) c d e9)) hw hS (lv_sub hl [1, 0] rfl)
  exact lp2 (30 - 0 : Int).toNat.succ 0 X _ _ _ (by omega) hR Frm.rf (by omega) (hCI) (fun y a b => by omega) (fun y k w9 a b => by omega) hw hS (lv_sub hl [1, 0] rfl)
end
section
/-! what has been recorded: each thing once, with a number -/
def rcOK (X : Nat → Int → Int → Int) (Y : Nat → Int → Int → Option Int) (g : Int) : Prop := (∀ r, 0 ≤ r → r < X 7 g 0 → ∃ x, Y 5 0 r = some x ∧ 0 ≤ x ∧ x < X 0 0 3 ∧ 0 ≤ X 15 x 3) ∧ ∀ r q x, 0 ≤ r → r < X 7 g 0 → 0 ≤ q → q < X 7 g 0 → Y 5 0 r = some x → Y 5 0 q = some x → r = q
theorem rcOK.room {X : Nat → Int → Int → Int} {Y : Nat → Int → Int → Option Int} {g x : Int} (h : rcOK X Y g) (hR : Rng X) (h0 : 0 ≤ x) (hx : x < X 0 0 3) (hn : X 15 x 3 < 0) : X 7 g 0 ≤ 29 := by
  have h1 : 0 ≤ X 7 g 0 ∧ X 7 g 0 ≤ 30 := hR 7 g 0
  have h2 : 0 ≤ X 0 0 3 ∧ X 0 0 3 ≤ 30 := hR 0 0 3
  have hat : ∀ r : Nat, (r : Int) < X 7 g 0 → ∃ y, Y 5 0 r = some y ∧ 0 ≤ y ∧ y < X 0 0 3 ∧ 0 ≤ X 15 y 3 := fun r hr => h.1 r (by omega) hr
  have h3 := pgn2 ((X 7 g 0).toNat + 1) (fun r => if (r : Int) < X 7 g 0 then (Y 5 0 r).getD 0 else x) 30 (fun r hr => by
    split
    · rename_i hc
      obtain ⟨y, e, y0, y1, -⟩ := hat r hc
      rw [e, Option.getD_some]
      omega
    · omega) (fun r q hr hq e => by
    split at e <;> split at e
    · rename_i hc hd
      obtain ⟨y, e1, -⟩ := hat r hc
      obtain ⟨y', e2, -⟩ := hat q hd
      rw [e1, e2, Option.getD_some, Option.getD_some] at e
      subst e
      have := h.2 r q y (by omega) hc (by omega) hd e1 e2
      omega
    · rename_i hc hd
      obtain ⟨y, e1, -, -, y3⟩ := hat r hc
      rw [e1, Option.getD_some] at e
      subst e
      omega
    · rename_i hc hd
      obtain ⟨y, e1, -, -, y3⟩ := hat q hd
      rw [e1, Option.getD_some] at e
      subst e
      omega
    · omega)
  omega
section RC
variable {M N : List Nat} {X X1 : Nat → Int → Int → Int} {Y Y1 : Nat → Int → Int → Option Int} {g x : Int}
theorem rcOK.frm (h : rcOK X Y g) (hF : Frm M X X1) (hH : Frm N Y Y1) (hd : ∀ c ∈ [701, 4, 1504], c ∉ M) (he : 500 ∉ N) : rcOK X1 Y1 g := by
  have a1 : X1 7 g 0 = X 7 g 0 := hF 7 g 0 (hd 701 (by decide))
  have a2 : X1 0 0 3 = X 0 0 3 := hF 0 0 3 (hd 4 (by decide))
  have a3 : ∀ i, X1 15 i 3 = X 15 i 3 := fun i => hF 15 i 3 (hd 1504 (by decide))
  have b1 : ∀ j, Y1 5 0 j = Y 5 0 j := fun j => hH 5 0 j he
  unfold rcOK at *
  simp only [a1, a2, a3, b1]
  exact h
theorem rcOK.nil (h : X 7 g 0 = 0) : rcOK X Y g := ⟨fun r h0 h1 => by omega, fun r q x h0 h1 => by omega⟩
theorem rcOK.push (h : rcOK X Y g) (h0 : 0 ≤ x ∧ x < X 0 0 3) (hn : X 15 x 3 < 0) (hp : 0 ≤ X 7 g 0) (e1 : X1 7 g 0 = X 7 g 0 + 1) (e2 : X1 0 0 3 = X 0 0 3) (e3 : X1 15 x 3 = X 7 g 0) (e4 : ∀ i, i ≠ x → X1 15 i 3 = X 15 i 3) (e5 : Y1 5 0 (X 7 g 0) = some x) (e6 : ∀ j, j ≠ X 7 g 0 → Y1 5 0 j = Y 5 0 j) : rcOK X1 Y1 g := by
  have hne : ∀ r y, 0 ≤ r → r < X 7 g 0 → Y 5 0 r = some y → y ≠ x := fun r y r0 r1 e q => by
    obtain ⟨y', f1, f2, f3, f4⟩ := h.1 r r0 r1
    rw [f1] at e
    cases e
    rw [q] at f4
    omega
  refine ⟨fun r r0 r1 => ?_, fun r q y r0 r1 q0 q1 f1 f2 => ?_⟩
  · by_cases hr : r = X 7 g 0
    · rw [hr]; exact ⟨x, e5, h0.1, by omega, by omega⟩
    · obtain ⟨y, f1, f2, f3, f4⟩ := h.1 r r0 (by omega)
      exact ⟨y, by rw [e6 r hr]; exact f1, f2, by omega, by rw [e4 y (hne r y r0 (by omega) f1)]; exact f4⟩
  · by_cases hr : r = X 7 g 0 <;> by_cases hq : q = X 7 g 0
    · omega
    · rw [hr, e5] at f1
      cases f1
      rw [e6 q hq] at f2
      exact absurd rfl (hne q x q0 (by omega) f2)
    · rw [hq, e5] at f2
      cases f2
      rw [e6 r hr] at f1
      exact absurd rfl (hne r x r0 (by omega) f1)
    · rw [e6 r hr] at f1
      rw [e6 q hq] at f2
      exact h.2 r q y r0 (by omega) q0 (by omega) f1 f2
end RC
theorem mmaxZ {a b : Int} (ha : -2147483648 ≤ a ∧ a ≤ 2147483647) (hb : -2147483648 ≤ b ∧ b ≤ 2147483647) : (if jI a < jI b then jI b else jI a) = jI (if a < b then b else a) := by
  by_cases h : a < b
  · rw [if_pos ((jI_lt ha hb).mpr h), if_pos h]
  · rw [if_neg (fun q => h ((jI_lt ha hb).mp q)), if_neg h]
end
