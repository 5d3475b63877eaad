set_option maxHeartbeats 4000000 in
set_option maxRecDepth 100000 in
theorem c_X8_changeValue (l : Launch) (D : va_G) (tc : Nat → ClassId) (base : Nat) (ad : Nat → Int → Nat) (cnt : Nat → Int) (X : Nat → Int → Int → Int) (Y : Nat → Int → Int → Option Int) (ln : Int → Int) (hR : Rng X) (hFx : Fx cnt) (hLn : LnOK ln) (hCI : CInv cnt X Y ln) (x k v : Int) (hx0 : 0 ≤ x ∧ x ≤ 29) (hk0 : 0 ≤ k ∧ k ≤ 4) (hv : -9223372036854775808 ≤ v ∧ v ≤ 9223372036854775807) : KI l D tc base yX8_changeValue wsX8_changeValue ({ frames := 3, cells := 0, slots := 0, locals := 68 } : Room) [.ref (ad 0 0), .ref (ad 15 x), .int (jI k), .long (jL v)] (ad, cnt, X, Y, ln) 0 0 (fun z u => ∃ (X1 : Nat → Int → Int → Int) (Y1 : Nat → Int → Int → Option Int), u = (ad, cnt, X1, Y1, ln) ∧ Rng X1 ∧ Frm [2802, 2803, 2902, 1600] X X1 ∧ Frm [2801, 2804] Y Y1 ∧ CInv cnt X1 Y1 ln ∧ (-2147483648 ≤ z ∧ z ≤ 2147483647) ∧ ((80 ≤ X 29 0 1 ∧ z = -4 ∧ X1 = X ∧ Y1 = Y) ∨ (X 29 0 1 ≤ 79 ∧ z = 1 ∧ eNoteC X X1 Y Y1 (some x) k (X 16 x k) (Y 17 x k) ∧ X1 16 x k = v ∧ (∀ y j, ¬ (y = x ∧ j = k) → X1 16 y j = X 16 y j) ∧ ∀ y j, Y1 17 y j = Y 17 y j))) := by
  refine K_of (cc := cX8_changeValue) (maxL := 5) (ret := (some .int)) (by decide) rfl (Nat.le_of_ble_eq_true rfl) ?_
  intro p e s m below meth c ls hx hb hr hml hown hts hlocks hl hK hw hS
  have hown : s.vm.findClass RX8 = some m.cls := hown
  obtain ⟨av9, hav9⟩ : ∃ a9 : Array Value, a9 = ([.ref (ad 0 0), .ref (ad 15 x), .int (jI k), .long (jL v)] : List Value).toArray := ⟨_, rfl⟩
  rw [← hav9] at hts ⊢
  obtain ⟨Q9, hQ9⟩ : ∃ q9Q : State → Prop, q9Q = MQ below (QI D tc base (fun z u => ∃ (X1 : Nat → Int → Int → Int) (Y1 : Nat → Int → Int → Option Int), u = (ad, cnt, X1, Y1, ln) ∧ Rng X1 ∧ Frm [2802, 2803, 2902, 1600] X X1 ∧ Frm [2801, 2804] Y Y1 ∧ CInv cnt X1 Y1 ln ∧ (-2147483648 ≤ z ∧ z ≤ 2147483647) ∧ ((80 ≤ X 29 0 1 ∧ z = -4 ∧ X1 = X ∧ Y1 = Y) ∨ (X 29 0 1 ≤ 79 ∧ z = 1 ∧ eNoteC X X1 Y Y1 (some x) k (X 16 x k) (Y 17 x k) ∧ X1 16 x k = v ∧ (∀ y j, ¬ (y = x ∧ j = k) → X1 16 y j = X 16 y j) ∧ ∀ y j, Y1 17 y j = Y 17 y j)))) av9 s 0 0 (frA base) := ⟨_, rfl⟩
  rw [← hQ9]
  have hi6 : ∀ w ∈ wsX60, w ∈ wsX8_changeValue := fun w h => List.mem_cons_of_mem _ (List.mem_append_left _ (List.mem_append_left _ (List.mem_append_right _ h)))
  have hf6 : fctx s m _ RX8 wsX8_changeValue D tc RX6 TX6 4 6 := ⟨hts, hi6, hown, hK.1, rfl⟩
  have hi8 : ∀ w ∈ wsX80, w ∈ wsX8_changeValue := fun w h => List.mem_cons_of_mem _ (List.mem_append_left _ (List.mem_append_left _ (List.mem_append_left _ (List.mem_append_right _ h))))
  have hf8 : fctx s m _ RX8 wsX8_changeValue D tc RX8 TX8 12 8 := ⟨hts, hi8, hown, hK.1, rfl⟩
  have lk51 := hts (.fieldLink RX8 51 (TX8 10).1 (TX8 10).2.1 (TX8 10).2.2.1) (gj_X8_changeValue_0 _ (gp_h))
  have lk193 := hts (.fieldLink RX8 193 (TX6 1).1 (TX6 1).2.1 (TX6 1).2.2.1) (gj_X8_changeValue_0 _ (gp_1 gp_h))
  have hc0 : cnt 0 = 1 := hFx.at 0 1 (by decide)
  have hc15 : cnt 15 = 30 := hFx.at 15 30 (by decide)
  have hc16 : cnt 16 = 30 := hFx.at 16 30 (by decide)
  have hc29 : cnt 29 = 1 := hFx.at 29 1 (by decide)
  have hl : lv_has ls 5 [(0, .ref (ad 0 0)), (1, .ref (ad 15 x)), (2, .int (jI k)), (3, .long (jL v))] := hl
  have ftc : 0 ≤ X 0 0 3 ∧ X 0 0 3 ≤ 30 := hR 0 0 3
  have fty : 0 ≤ X 0 0 1 ∧ X 0 0 1 ≤ 8 := hR 0 0 1
  have hct : cnt 19 = X 0 0 1 := hCI.2.2.2.1.1
  have hfj : 0 ≤ X 29 0 3 ∧ X 29 0 3 ≤ 4 := hR 29 0 3
  have hfn : 0 ≤ X 29 0 1 ∧ X 29 0 1 ≤ 80 := hR 29 0 1
  refine lv_aload_n hx hb dX8_changeValue_0 rfl (lv_at hl 0 rfl) ?_
  refine x_geto hx hb hf8 hw (by first | exact Int.le_refl 0 | omega) (by first | exact zlt hc0 | omega) sl_0_10 lk51 dX8_changeValue_1 ?_
  refine gos_i (run_V (As := []) (rest := []) hx hb hml hown hts (c_X2_isFull l D tc base ad cnt X Y ln hR hFx hLn hCI) (cwV 0 hts gX8_changeValue_X2_isFull rfl rfl rfl (by first | exact hd_X2_isFull | decide +kernel) ⟨Nat.le_of_ble_eq_true rfl, Nat.le_of_ble_eq_true rfl⟩) hK hw (by first | exact Int.le_refl 0 | omega) (by first | exact zlt hc29 | omega) sl_29_0 rfl rfl hl.1 rfl (Nat.le_of_ble_eq_true rfl) dX8_changeValue_4 ⟨Nat.le_of_ble_eq_true rfl, Nat.le_of_ble_eq_true rfl⟩) hS (fun z1 u2 H locs p3 hw hS => ?_)
  obtain ⟨eu2, p3⟩ := p3
  subst eu2
  rcases p3 with ⟨ez1, p3⟩ | ⟨ez1, p3⟩
  · subst ez1
    refine x_if_eqF (tgt := 13) hx hb (by omega) (by decide) dX8_changeValue_7 (by decide) ?_
    refine lv_bipush (v := jI (-4)) hx hb dX8_changeValue_10 (by decide) ?_
    rw [hQ9]
    refine ret_i (mc := 0) (ms := 0) hx hb hr hlocks hw hS (by first | exact Nat.le_of_ble_eq_true rfl | omega) (by first | exact Nat.le_of_ble_eq_true rfl | omega) dX8_changeValue_12 ?_
    exact ⟨X, Y, rfl, hR, Frm.rf, Frm.rf, hCI, by omega, Or.inl ⟨by omega, rfl, rfl, rfl⟩⟩
  · subst ez1
    refine x_if_eqT (tgt := 13) hx hb (by omega) (by decide) dX8_changeValue_7 (by decide) ?_
    refine lv_aload_n hx hb dX8_changeValue_13 rfl (lv_at hl 0 rfl) ?_
    refine x_geto hx hb hf8 hw (by first | exact Int.le_refl 0 | omega) (by first | exact zlt hc0 | omega) sl_0_10 lk51 dX8_changeValue_14 ?_
    refine lv_aload_n hx hb dX8_changeValue_17 rfl (lv_at hl 1 rfl) ?_
    refine lv_iload_n hx hb dX8_changeValue_18 rfl (lv_at hl 2 rfl) ?_
    refine gos_v (run_V (As := [.ref (ad 15 x), .int (jI k)]) (rest := []) hx hb hml hown hts (c_X2_noteField l D tc base ad cnt X Y ln hR hFx hLn hCI x k (by omega) (by omega) (by omega)) (cwV 2 hts gX8_changeValue_X2_noteField rfl rfl rfl (by first | exact hd_X2_noteField | decide +kernel) ⟨Nat.le_of_ble_eq_true rfl, Nat.le_of_ble_eq_true rfl⟩) hK hw (by first | exact Int.le_refl 0 | omega) (by first | exact zlt hc29 | omega) sl_29_0 rfl rfl hl.1 rfl (Nat.le_of_ble_eq_true rfl) dX8_changeValue_19 ⟨Nat.le_of_ble_eq_true rfl, Nat.le_of_ble_eq_true rfl⟩) hS (fun u5 H locs p6 hw hS => ?_)
    obtain ⟨X7, Y8, eu5, hRX7, hG9, hJ10, hCIX7, p6, hntX7⟩ := p6
    subst eu5
    have hFX7 : Frm [2802, 2803, 2902, 1600] X X7 := Frm.tr Frm.rf (Frm.mono hG9 (by first | exact nls_of rfl | decide))
    have hHY8 : Frm [2801, 2804] Y Y8 := Frm.tr Frm.rf (Frm.mono hJ10 (by first | exact nls_of rfl | decide))
    refine lv_aload_n hx hb dX8_changeValue_22 rfl (lv_at hl 1 rfl) ?_
    refine x_geto hx hb hf6 hw (by omega) (by omega) sl_15_1 lk193 dX8_changeValue_23 ?_
    refine lv_iload_n hx hb dX8_changeValue_26 rfl (lv_at hl 2 rfl) ?_
    refine lv_lload_n hx hb dX8_changeValue_27 rfl (lv_at hl 3 rfl) ?_
    refine x_last hx hb hK.1 hw hS (by omega) (by omega) ar_16 (len_E ar_16 (by first | exact Nat.ne_of_beq_eq_false rfl | decide)) (by omega) (by omega) (by omega) dX8_changeValue_28 (fun H locs hw hS => ?_)
    obtain ⟨X11, hX11⟩ : ∃ Xq, Xq = u3 X7 16 x k v := ⟨_, rfl⟩
    rw [← hX11] at hw
    have hRX11 : Rng X11 := by rw [hX11]; exact rng_set hRX7 (show (-9223372036854775808) ≤ v ∧ v ≤ 9223372036854775807 by omega)
    have hVX11 : X11 16 x k = v := by rw [hX11]; exact u3_s _ _ _ _ _
    have hFX11 : Frm [2802, 2803, 2902, 1600] X X11 := by rw [hX11]; exact Frm.set hFX7 (show 1600 ∈ [2802, 2803, 2902, 1600] by first | exact nlm_in rfl | decide)
    refine lv_iconst (v := jI 1) hx hb dX8_changeValue_29 rfl ?_
    rw [hQ9]
    refine ret_i (mc := 0) (ms := 0) hx hb hr hlocks hw hS (by first | exact Nat.le_of_ble_eq_true rfl | omega) (by first | exact Nat.le_of_ble_eq_true rfl | omega) dX8_changeValue_30 ?_
    have q12 : Frm [1600] X7 X11 := by rw [hX11]; exact Frm.set Frm.rf (show 1600 ∈ [1600] by first | exact nlm_in rfl | decide)
    have hCq13 : CInv cnt X11 Y8 ln := cinv_frm (M := [1600]) (N := []) hCIX7 q12 Frm.rf (by decide) (by decide)
    have q14 : Frm [1600] X7 X11 := by rw [hX11]; exact Frm.set Frm.rf (show 1600 ∈ [1600] by first | exact nlm_in rfl | decide)
    have h15 := eNoteC.to (M := [1600]) (N := []) hntX7 q14 Frm.rf (by decide) (by decide) (fun n j => (by rw [hX11, u3_k _ _ _ _ (by first | exact Nat.ne_of_beq_eq_false rfl | decide)])) (fun n j => rfl)
    exact ⟨X11, Y8, rfl, hRX11, hFX11, hHY8, hCq13, by omega, Or.inr ⟨by omega, rfl, h15, hVX11, fun y j hy => (by rw [hX11, u3_ij hy, hG9 16 y j (show 1600 ∉ [2802, 2803, 2902] by first | exact nlm_ni rfl | decide)]), fun y j => (by rw [hJ10 17 y j (show 1700 ∉ [2801, 2804] by first | exact nlm_ni rfl | decide)])⟩⟩

set_option maxHeartbeats 4000000 in
set_option maxRecDepth 100000 in
theorem c_X8_changeRow_r (l : Launch) (D : va_G) (tc : Nat → ClassId) (base : Nat) (ad : Nat → Int → Nat) (cnt : Nat → Int) (X : Nat → Int → Int → Int) (Y : Nat → Int → Int → Option Int) (ln : Int → Int) (hR : Rng X) (hFx : Fx cnt) (hLn : LnOK ln) (hCI : CInv cnt X Y ln) (x k g : Int) (hx0 : 0 ≤ x ∧ x ≤ 29) (hk0 : 0 ≤ k ∧ k ≤ 4) (hg : 0 ≤ g ∧ g < cnt 26) : KI l D tc base yX8_changeRow wsX8_changeRow ({ frames := 3, cells := 0, slots := 0, locals := 68 } : Room) [.ref (ad 0 0), .ref (ad 15 x), .int (jI k), .ref (ad 26 g)] (ad, cnt, X, Y, ln) 0 0 (fun z u => ∃ (X1 : Nat → Int → Int → Int) (Y1 : Nat → Int → Int → Option Int), u = (ad, cnt, X1, Y1, ln) ∧ Rng X1 ∧ Frm [2802, 2803, 2902] X X1 ∧ Frm [2801, 2804, 1700] Y Y1 ∧ CInv cnt X1 Y1 ln ∧ (-2147483648 ≤ z ∧ z ≤ 2147483647) ∧ ((80 ≤ X 29 0 1 ∧ z = -4 ∧ X1 = X ∧ Y1 = Y) ∨ (X 29 0 1 ≤ 79 ∧ z = 1 ∧ eNoteC X X1 Y Y1 (some x) k (X 16 x k) (Y 17 x k) ∧ Y1 17 x k = some g ∧ (∀ y j, ¬ (y = x ∧ j = k) → Y1 17 y j = Y 17 y j) ∧ ∀ y j, X1 16 y j = X 16 y j))) := by
  refine K_of (cc := cX8_changeRow) (maxL := 4) (ret := (some .int)) (by decide) rfl (Nat.le_of_ble_eq_true rfl) ?_
  intro p e s m below meth c ls hx hb hr hml hown hts hlocks hl hK hw hS
  have hown : s.vm.findClass RX8 = some m.cls := hown
  obtain ⟨av9, hav9⟩ : ∃ a9 : Array Value, a9 = ([.ref (ad 0 0), .ref (ad 15 x), .int (jI k), .ref (ad 26 g)] : List Value).toArray := ⟨_, rfl⟩
  rw [← hav9] at hts ⊢
  obtain ⟨Q9, hQ9⟩ : ∃ q9Q : State → Prop, q9Q = MQ below (QI D tc base (fun z u => ∃ (X1 : Nat → Int → Int → Int) (Y1 : Nat → Int → Int → Option Int), u = (ad, cnt, X1, Y1, ln) ∧ Rng X1 ∧ Frm [2802, 2803, 2902] X X1 ∧ Frm [2801, 2804, 1700] Y Y1 ∧ CInv cnt X1 Y1 ln ∧ (-2147483648 ≤ z ∧ z ≤ 2147483647) ∧ ((80 ≤ X 29 0 1 ∧ z = -4 ∧ X1 = X ∧ Y1 = Y) ∨ (X 29 0 1 ≤ 79 ∧ z = 1 ∧ eNoteC X X1 Y Y1 (some x) k (X 16 x k) (Y 17 x k) ∧ Y1 17 x k = some g ∧ (∀ y j, ¬ (y = x ∧ j = k) → Y1 17 y j = Y 17 y j) ∧ ∀ y j, X1 16 y j = X 16 y j)))) av9 s 0 0 (frA base) := ⟨_, rfl⟩
  rw [← hQ9]
  have hi6 : ∀ w ∈ wsX60, w ∈ wsX8_changeRow := fun w h => List.mem_cons_of_mem _ (List.mem_append_left _ (List.mem_append_left _ (List.mem_append_right _ h)))
  have hf6 : fctx s m _ RX8 wsX8_changeRow D tc RX6 TX6 4 6 := ⟨hts, hi6, hown, hK.1, rfl⟩
  have hi8 : ∀ w ∈ wsX80, w ∈ wsX8_changeRow := fun w h => List.mem_cons_of_mem _ (List.mem_append_left _ (List.mem_append_left _ (List.mem_append_left _ (List.mem_append_right _ h))))
  have hf8 : fctx s m _ RX8 wsX8_changeRow D tc RX8 TX8 12 8 := ⟨hts, hi8, hown, hK.1, rfl⟩
  have lk51 := hts (.fieldLink RX8 51 (TX8 10).1 (TX8 10).2.1 (TX8 10).2.2.1) (gj_X8_changeRow_0 _ (gp_h))
  have lk158 := hts (.fieldLink RX8 158 (TX6 2).1 (TX6 2).2.1 (TX6 2).2.2.1) (gj_X8_changeRow_0 _ (gp_1 gp_h))
  have hc0 : cnt 0 = 1 := hFx.at 0 1 (by decide)
  have hc15 : cnt 15 = 30 := hFx.at 15 30 (by decide)
  have hc17 : cnt 17 = 30 := hFx.at 17 30 (by decide)
  have hc29 : cnt 29 = 1 := hFx.at 29 1 (by decide)
  have hl : lv_has ls 4 [(0, .ref (ad 0 0)), (1, .ref (ad 15 x)), (2, .int (jI k)), (3, .ref (ad 26 g))] := hl
  have ftc : 0 ≤ X 0 0 3 ∧ X 0 0 3 ≤ 30 := hR 0 0 3
  have fty : 0 ≤ X 0 0 1 ∧ X 0 0 1 ≤ 8 := hR 0 0 1
  have hct : cnt 19 = X 0 0 1 := hCI.2.2.2.1.1
  have hfj : 0 ≤ X 29 0 3 ∧ X 29 0 3 ≤ 4 := hR 29 0 3
  have hfn : 0 ≤ X 29 0 1 ∧ X 29 0 1 ≤ 80 := hR 29 0 1
  refine lv_aload_n hx hb dX8_changeRow_0 rfl (lv_at hl 0 rfl) ?_
  refine x_geto hx hb hf8 hw (by first | exact Int.le_refl 0 | omega) (by first | exact zlt hc0 | omega) sl_0_10 lk51 dX8_changeRow_1 ?_
  refine gos_i (run_V (As := []) (rest := []) hx hb hml hown hts (c_X2_isFull l D tc base ad cnt X Y ln hR hFx hLn hCI) (cwV 0 hts gX8_changeRow_X2_isFull rfl rfl rfl (by first | exact hd_X2_isFull | decide +kernel) ⟨Nat.le_of_ble_eq_true rfl, Nat.le_of_ble_eq_true rfl⟩) hK hw (by first | exact Int.le_refl 0 | omega) (by first | exact zlt hc29 | omega) sl_29_0 rfl rfl hl.1 rfl (Nat.le_of_ble_eq_true rfl) dX8_changeRow_4 ⟨Nat.le_of_ble_eq_true rfl, Nat.le_of_ble_eq_true rfl⟩) hS (fun z1 u2 H locs p3 hw hS => ?_)
  obtain ⟨eu2, p3⟩ := p3
  subst eu2
  rcases p3 with ⟨ez1, p3⟩ | ⟨ez1, p3⟩
  · subst ez1
    refine x_if_eqF (tgt := 13) hx hb (by omega) (by decide) dX8_changeRow_7 (by decide) ?_
    refine lv_bipush (v := jI (-4)) hx hb dX8_changeRow_10 (by decide) ?_
    rw [hQ9]
    refine ret_i (mc := 0) (ms := 0) hx hb hr hlocks hw hS (by first | exact Nat.le_of_ble_eq_true rfl | omega) (by first | exact Nat.le_of_ble_eq_true rfl | omega) dX8_changeRow_12 ?_
    exact ⟨X, Y, rfl, hR, Frm.rf, Frm.rf, hCI, by omega, Or.inl ⟨by omega, rfl, rfl, rfl⟩⟩
  · subst ez1
    refine x_if_eqT (tgt := 13) hx hb (by omega) (by decide) dX8_changeRow_7 (by decide) ?_
    refine lv_aload_n hx hb dX8_changeRow_13 rfl (lv_at hl 0 rfl) ?_
    refine x_geto hx hb hf8 hw (by first | exact Int.le_refl 0 | omega) (by first | exact zlt hc0 | omega) sl_0_10 lk51 dX8_changeRow_14 ?_
    refine lv_aload_n hx hb dX8_changeRow_17 rfl (lv_at hl 1 rfl) ?_
    refine lv_iload_n hx hb dX8_changeRow_18 rfl (lv_at hl 2 rfl) ?_
    refine gos_v (run_V (As := [.ref (ad 15 x), .int (jI k)]) (rest := []) hx hb hml hown hts (c_X2_noteField l D tc base ad cnt X Y ln hR hFx hLn hCI x k (by omega) (by omega) (by omega)) (cwV 2 hts gX8_changeRow_X2_noteField rfl rfl rfl (by first | exact hd_X2_noteField | decide +kernel) ⟨Nat.le_of_ble_eq_true rfl, Nat.le_of_ble_eq_true rfl⟩) hK hw (by first | exact Int.le_refl 0 | omega) (by first | exact zlt hc29 | omega) sl_29_0 rfl rfl hl.1 rfl (Nat.le_of_ble_eq_true rfl) dX8_changeRow_19 ⟨Nat.le_of_ble_eq_true rfl, Nat.le_of_ble_eq_true rfl⟩) hS (fun u5 H locs p6 hw hS => ?_)
    obtain ⟨X7, Y8, eu5, hRX7, hG9, hJ10, hCIX7, p6, hntX7⟩ := p6
    subst eu5
    have hFX7 : Frm [2802, 2803, 2902] X X7 := Frm.tr Frm.rf (Frm.mono hG9 (by first | exact nls_of rfl | decide))
    have hHY8 : Frm [2801, 2804, 1700] Y Y8 := Frm.tr Frm.rf (Frm.mono hJ10 (by first | exact nls_of rfl | decide))
    refine lv_aload_n hx hb dX8_changeRow_22 rfl (lv_at hl 1 rfl) ?_
    refine x_geto hx hb hf6 hw (by omega) (by omega) sl_15_2 lk158 dX8_changeRow_23 ?_
    refine lv_iload_n hx hb dX8_changeRow_26 rfl (lv_at hl 2 rfl) ?_
    refine lv_aload_n hx hb dX8_changeRow_27 rfl (lv_at hl 3 rfl) ?_
    refine x_aast hx hb hK.1 hw hS (by omega) (by omega) ar_17 rfl rfl sl_26_0 (len_E ar_17 (by first | exact Nat.ne_of_beq_eq_false rfl | decide)) (by omega) (by omega) (by omega) (by omega) (by omega) dX8_changeRow_28 (fun H locs hw hS => ?_)
    obtain ⟨Y11, hY11⟩ : ∃ Yq, Yq = u3 Y8 17 x k (some g) := ⟨_, rfl⟩
    rw [← hY11] at hw
    have hVY11 : Y11 17 x k = (some g) := by rw [hY11]; exact u3_s _ _ _ _ _
    have hHY11 : Frm [2801, 2804, 1700] Y Y11 := by rw [hY11]; exact Frm.set hHY8 (show 1700 ∈ [2801, 2804, 1700] by first | exact nlm_in rfl | decide)
    refine lv_iconst (v := jI 1) hx hb dX8_changeRow_29 rfl ?_
    rw [hQ9]
    refine ret_i (mc := 0) (ms := 0) hx hb hr hlocks hw hS (by first | exact Nat.le_of_ble_eq_true rfl | omega) (by first | exact Nat.le_of_ble_eq_true rfl | omega) dX8_changeRow_30 ?_
    have q12 : Frm [1700] Y8 Y11 := by rw [hY11]; exact Frm.set Frm.rf (show 1700 ∈ [1700] by first | exact nlm_in rfl | decide)
    have hCq13 : CInv cnt X7 Y11 ln := cinv_frm (M := []) (N := [1700]) hCIX7 Frm.rf q12 (by decide) (by decide)
    have q14 : Frm [1700] Y8 Y11 := by rw [hY11]; exact Frm.set Frm.rf (show 1700 ∈ [1700] by first | exact nlm_in rfl | decide)
    have h15 := eNoteC.to (M := []) (N := [1700]) hntX7 Frm.rf q14 (by decide) (by decide) (fun n j => rfl) (fun n j => (by rw [hY11, u3_k _ _ _ _ (by first | exact Nat.ne_of_beq_eq_false rfl | decide)]))
    exact ⟨X7, Y11, rfl, hRX7, hFX7, hHY11, hCq13, by omega, Or.inr ⟨by omega, rfl, h15, hVY11, fun y j hy => (by rw [hY11, u3_ij hy, hJ10 17 y j (show 1700 ∉ [2801, 2804] by first | exact nlm_ni rfl | decide)]), fun y j => (by rw [hG9 16 y j (show 1600 ∉ [2802, 2803, 2902] by first | exact nlm_ni rfl | decide)])⟩⟩

set_option maxHeartbeats 4000000 in
set_option maxRecDepth 100000 in
theorem c_X8_changeRow_n (l : Launch) (D : va_G) (tc : Nat → ClassId) (base : Nat) (ad : Nat → Int → Nat) (cnt : Nat → Int) (X : Nat → Int → Int → Int) (Y : Nat → Int → Int → Option Int) (ln : Int → Int) (hR : Rng X) (hFx : Fx cnt) (hLn : LnOK ln) (hCI : CInv cnt X Y ln) (x k : Int) (hx0 : 0 ≤ x ∧ x ≤ 29) (hk0 : 0 ≤ k ∧ k ≤ 4) : KI l D tc base yX8_changeRow wsX8_changeRow ({ frames := 3, cells := 0, slots := 0, locals := 68 } : Room) [.ref (ad 0 0), .ref (ad 15 x), .int (jI k), .null] (ad, cnt, X, Y, ln) 0 0 (fun z u => ∃ (X1 : Nat → Int → Int → Int) (Y1 : Nat → Int → Int → Option Int), u = (ad, cnt, X1, Y1, ln) ∧ Rng X1 ∧ Frm [2802, 2803, 2902] X X1 ∧ Frm [2801, 2804, 1700] Y Y1 ∧ CInv cnt X1 Y1 ln ∧ (-2147483648 ≤ z ∧ z ≤ 2147483647) ∧ ((80 ≤ X 29 0 1 ∧ z = -4 ∧ X1 = X ∧ Y1 = Y) ∨ (X 29 0 1 ≤ 79 ∧ z = 1 ∧ eNoteC X X1 Y Y1 (some x) k (X 16 x k) (Y 17 x k) ∧ Y1 17 x k = none ∧ (∀ y j, ¬ (y = x ∧ j = k) → Y1 17 y j = Y 17 y j) ∧ ∀ y j, X1 16 y j = X 16 y j))) := by
  refine K_of (cc := cX8_changeRow) (maxL := 4) (ret := (some .int)) (by decide) rfl (Nat.le_of_ble_eq_true rfl) ?_
  intro p e s m below meth c ls hx hb hr hml hown hts hlocks hl hK hw hS
  have hown : s.vm.findClass RX8 = some m.cls := hown
  obtain ⟨av9, hav9⟩ : ∃ a9 : Array Value, a9 = ([.ref (ad 0 0), .ref (ad 15 x), .int (jI k), .null] : List Value).toArray := ⟨_, rfl⟩
  rw [← hav9] at hts ⊢
  obtain ⟨Q9, hQ9⟩ : ∃ q9Q : State → Prop, q9Q = MQ below (QI D tc base (fun z u => ∃ (X1 : Nat → Int → Int → Int) (Y1 : Nat → Int → Int → Option Int), u = (ad, cnt, X1, Y1, ln) ∧ Rng X1 ∧ Frm [2802, 2803, 2902] X X1 ∧ Frm [2801, 2804, 1700] Y Y1 ∧ CInv cnt X1 Y1 ln ∧ (-2147483648 ≤ z ∧ z ≤ 2147483647) ∧ ((80 ≤ X 29 0 1 ∧ z = -4 ∧ X1 = X ∧ Y1 = Y) ∨ (X 29 0 1 ≤ 79 ∧ z = 1 ∧ eNoteC X X1 Y Y1 (some x) k (X 16 x k) (Y 17 x k) ∧ Y1 17 x k = none ∧ (∀ y j, ¬ (y = x ∧ j = k) → Y1 17 y j = Y 17 y j) ∧ ∀ y j, X1 16 y j = X 16 y j)))) av9 s 0 0 (frA base) := ⟨_, rfl⟩
  rw [← hQ9]
  have hi6 : ∀ w ∈ wsX60, w ∈ wsX8_changeRow := fun w h => List.mem_cons_of_mem _ (List.mem_append_left _ (List.mem_append_left _ (List.mem_append_right _ h)))
  have hf6 : fctx s m _ RX8 wsX8_changeRow D tc RX6 TX6 4 6 := ⟨hts, hi6, hown, hK.1, rfl⟩
  have hi8 : ∀ w ∈ wsX80, w ∈ wsX8_changeRow := fun w h => List.mem_cons_of_mem _ (List.mem_append_left _ (List.mem_append_left _ (List.mem_append_left _ (List.mem_append_right _ h))))
  have hf8 : fctx s m _ RX8 wsX8_changeRow D tc RX8 TX8 12 8 := ⟨hts, hi8, hown, hK.1, rfl⟩
  have lk51 := hts (.fieldLink RX8 51 (TX8 10).1 (TX8 10).2.1 (TX8 10).2.2.1) (gj_X8_changeRow_0 _ (gp_h))
  have lk158 := hts (.fieldLink RX8 158 (TX6 2).1 (TX6 2).2.1 (TX6 2).2.2.1) (gj_X8_changeRow_0 _ (gp_1 gp_h))
  have hc0 : cnt 0 = 1 := hFx.at 0 1 (by decide)
  have hc15 : cnt 15 = 30 := hFx.at 15 30 (by decide)
  have hc17 : cnt 17 = 30 := hFx.at 17 30 (by decide)
  have hc29 : cnt 29 = 1 := hFx.at 29 1 (by decide)
  have hl : lv_has ls 4 [(0, .ref (ad 0 0)), (1, .ref (ad 15 x)), (2, .int (jI k)), (3, .null)] := hl
  have ftc : 0 ≤ X 0 0 3 ∧ X 0 0 3 ≤ 30 := hR 0 0 3
  have fty : 0 ≤ X 0 0 1 ∧ X 0 0 1 ≤ 8 := hR 0 0 1
  have hct : cnt 19 = X 0 0 1 := hCI.2.2.2.1.1
  have hfj : 0 ≤ X 29 0 3 ∧ X 29 0 3 ≤ 4 := hR 29 0 3
  have hfn : 0 ≤ X 29 0 1 ∧ X 29 0 1 ≤ 80 := hR 29 0 1
  refine lv_aload_n hx hb dX8_changeRow_0 rfl (lv_at hl 0 rfl) ?_
  refine x_geto hx hb hf8 hw (by first | exact Int.le_refl 0 | omega) (by first | exact zlt hc0 | omega) sl_0_10 lk51 dX8_changeRow_1 ?_
  refine gos_i (run_V (As := []) (rest := []) hx hb hml hown hts (c_X2_isFull l D tc base ad cnt X Y ln hR hFx hLn hCI) (cwV 0 hts gX8_changeRow_X2_isFull rfl rfl rfl (by first | exact hd_X2_isFull | decide +kernel) ⟨Nat.le_of_ble_eq_true rfl, Nat.le_of_ble_eq_true rfl⟩) hK hw (by first | exact Int.le_refl 0 | omega) (by first | exact zlt hc29 | omega) sl_29_0 rfl rfl hl.1 rfl (Nat.le_of_ble_eq_true rfl) dX8_changeRow_4 ⟨Nat.le_of_ble_eq_true rfl, Nat.le_of_ble_eq_true rfl⟩) hS (fun z1 u2 H locs p3 hw hS => ?_)
  obtain ⟨eu2, p3⟩ := p3
  subst eu2
  rcases p3 with ⟨ez1, p3⟩ | ⟨ez1, p3⟩
  · subst ez1
    refine x_if_eqF (tgt := 13) hx hb (by omega) (by decide) dX8_changeRow_7 (by decide) ?_
    refine lv_bipush (v := jI (-4)) hx hb dX8_changeRow_10 (by decide) ?_
    rw [hQ9]
    refine ret_i (mc := 0) (ms := 0) hx hb hr hlocks hw hS (by first | exact Nat.le_of_ble_eq_true rfl | omega) (by first | exact Nat.le_of_ble_eq_true rfl | omega) dX8_changeRow_12 ?_
    exact ⟨X, Y, rfl, hR, Frm.rf, Frm.rf, hCI, by omega, Or.inl ⟨by omega, rfl, rfl, rfl⟩⟩
  · subst ez1
    refine x_if_eqT (tgt := 13) hx hb (by omega) (by decide) dX8_changeRow_7 (by decide) ?_
    refine lv_aload_n hx hb dX8_changeRow_13 rfl (lv_at hl 0 rfl) ?_
    refine x_geto hx hb hf8 hw (by first | exact Int.le_refl 0 | omega) (by first | exact zlt hc0 | omega) sl_0_10 lk51 dX8_changeRow_14 ?_
    refine lv_aload_n hx hb dX8_changeRow_17 rfl (lv_at hl 1 rfl) ?_
    refine lv_iload_n hx hb dX8_changeRow_18 rfl (lv_at hl 2 rfl) ?_
    refine gos_v (run_V (As := [.ref (ad 15 x), .int (jI k)]) (rest := []) hx hb hml hown hts (c_X2_noteField l D tc base ad cnt X Y ln hR hFx hLn hCI x k (by omega) (by omega) (by omega)) (cwV 2 hts gX8_changeRow_X2_noteField rfl rfl rfl (by first | exact hd_X2_noteField | decide +kernel) ⟨Nat.le_of_ble_eq_true rfl, Nat.le_of_ble_eq_true rfl⟩) hK hw (by first | exact Int.le_refl 0 | omega) (by first | exact zlt hc29 | omega) sl_29_0 rfl rfl hl.1 rfl (Nat.le_of_ble_eq_true rfl) dX8_changeRow_19 ⟨Nat.le_of_ble_eq_true rfl, Nat.le_of_ble_eq_true rfl⟩) hS (fun u5 H locs p6 hw hS => ?_)
    obtain ⟨X7, Y8, eu5, hRX7, hG9, hJ10, hCIX7, p6, hntX7⟩ := p6
    subst eu5
    have hFX7 : Frm [2802, 2803, 2902] X X7 := Frm.tr Frm.rf (Frm.mono hG9 (by first | exact nls_of rfl | decide))
    have hHY8 : Frm [2801, 2804, 1700] Y Y8 := Frm.tr Frm.rf (Frm.mono hJ10 (by first | exact nls_of rfl | decide))
    refine lv_aload_n hx hb dX8_changeRow_22 rfl (lv_at hl 1 rfl) ?_
    refine x_geto hx hb hf6 hw (by omega) (by omega) sl_15_2 lk158 dX8_changeRow_23 ?_
    refine lv_iload_n hx hb dX8_changeRow_26 rfl (lv_at hl 2 rfl) ?_
    refine lv_aload_nN hx hb dX8_changeRow_27 rfl (lv_at hl 3 rfl) ?_
    refine x_aastn hx hb hK.1 hw hS (by omega) (by omega) ar_17 rfl (len_E ar_17 (by first | exact Nat.ne_of_beq_eq_false rfl | decide)) (by omega) (by omega) (by omega) dX8_changeRow_28 (fun H locs hw hS => ?_)
    obtain ⟨Y11, hY11⟩ : ∃ Yq, Yq = u3 Y8 17 x k none := ⟨_, rfl⟩
    rw [← hY11] at hw
    have hVY11 : Y11 17 x k = none := by rw [hY11]; exact u3_s _ _ _ _ _
    have hHY11 : Frm [2801, 2804, 1700] Y Y11 := by rw [hY11]; exact Frm.set hHY8 (show 1700 ∈ [2801, 2804, 1700] by first | exact nlm_in rfl | decide)
    refine lv_iconst (v := jI 1) hx hb dX8_changeRow_29 rfl ?_
    rw [hQ9]
    refine ret_i (mc := 0) (ms := 0) hx hb hr hlocks hw hS (by first | exact Nat.le_of_ble_eq_true rfl | omega) (by first | exact Nat.le_of_ble_eq_true rfl | omega) dX8_changeRow_30 ?_
    have q12 : Frm [1700] Y8 Y11 := by rw [hY11]; exact Frm.set Frm.rf (show 1700 ∈ [1700] by first | exact nlm_in rfl | decide)
    have hCq13 : CInv cnt X7 Y11 ln := cinv_frm (M := []) (N := [1700]) hCIX7 Frm.rf q12 (by decide) (by decide)
    have q14 : Frm [1700] Y8 Y11 := by rw [hY11]; exact Frm.set Frm.rf (show 1700 ∈ [1700] by first | exact nlm_in rfl | decide)
    have h15 := eNoteC.to (M := []) (N := [1700]) hntX7 Frm.rf q14 (by decide) (by decide) (fun n j => rfl) (fun n j => (by rw [hY11, u3_k _ _ _ _ (by first | exact Nat.ne_of_beq_eq_false rfl | decide)]))
    exact ⟨X7, Y11, rfl, hRX7, hFX7, hHY11, hCq13, by omega, Or.inr ⟨by omega, rfl, h15, hVY11, fun y j hy => (by rw [hY11, u3_ij hy, hJ10 17 y j (show 1700 ∉ [2801, 2804] by first | exact nlm_ni rfl | decide)]), fun y j => (by rw [hG9 16 y j (show 1600 ∉ [2802, 2803, 2902] by first | exact nlm_ni rfl | decide)])⟩⟩

set_option maxHeartbeats 4000000 in
set_option maxRecDepth 100000 in
theorem c_X8_lowestBits (l : Launch) (D : va_G) (tc : Nat → ClassId) (base : Nat) (ad : Nat → Int → Nat) (cnt : Nat → Int) (X : Nat → Int → Int → Int) (Y : Nat → Int → Int → Option Int) (ln : Int → Int) (v lane : Int) (hv : -9223372036854775808 ≤ v ∧ v ≤ 9223372036854775807) (hlane : 0 ≤ lane ∧ lane ≤ 5) : KL l D tc base yX8_lowestBits wsX8_lowestBits ({ frames := 0, cells := 0, slots := 0, locals := 0 } : Room) [.long (jL v), .int (jI lane)] (ad, cnt, X, Y, ln) 0 0 (fun z u => u = (ad, cnt, X, Y, ln) ∧ (-9223372036854775808 ≤ z ∧ z ≤ 9223372036854775807) ∧ z = cutZ lane v) := by
  refine K_of (cc := cX8_lowestBits) (maxL := 3) (ret := (some .long)) (by decide) rfl (Nat.le_of_ble_eq_true rfl) ?_
  intro p e s m below meth c ls hx hb hr hml hown hts hlocks hl hK hw hS
  have hown : s.vm.findClass RX8 = some m.cls := hown
  obtain ⟨av9, hav9⟩ : ∃ a9 : Array Value, a9 = ([.long (jL v), .int (jI lane)] : List Value).toArray := ⟨_, rfl⟩
  rw [← hav9] at hts ⊢
  obtain ⟨Q9, hQ9⟩ : ∃ q9Q : State → Prop, q9Q = MQ below (QL D tc base (fun z u => u = (ad, cnt, X, Y, ln) ∧ (-9223372036854775808 ≤ z ∧ z ≤ 9223372036854775807) ∧ z = cutZ lane v)) av9 s 0 0 (frA base) := ⟨_, rfl⟩
  rw [← hQ9]
  have hl : lv_has ls 3 [(0, .long (jL v)), (2, .int (jI lane))] := hl
  refine lv_iload_n hx hb dX8_lowestBits_0 rfl (lv_at hl 1 rfl) ?_
  refine lv_iconst (v := jI 3) hx hb dX8_lowestBits_1 rfl ?_
  refine x_icmp_ne (tgt := 10) hx hb (by omega) (by omega) dX8_lowestBits_2 (by decide) (fun c1 => ?_) (fun c1 => ?_)
  · refine lv_iload_n hx hb dX8_lowestBits_10 rfl (lv_at hl 1 rfl) ?_
    refine lv_iconst (v := jI 4) hx hb dX8_lowestBits_11 rfl ?_
    refine x_icmp_ne (tgt := 21) hx hb (by omega) (by omega) dX8_lowestBits_12 (by decide) (fun c2 => ?_) (fun c2 => ?_)
    · refine lv_lload_n hx hb dX8_lowestBits_21 rfl (lv_at hl 0 rfl) ?_
      rw [hQ9]
      refine ret_l (mc := 0) (ms := 0) hx hb hr hlocks hw hS (by first | exact Nat.le_of_ble_eq_true rfl | omega) (by first | exact Nat.le_of_ble_eq_true rfl | omega) dX8_lowestBits_22 ?_
      exact ⟨rfl, by omega, by first | (unfold cutZ; rw [if_pos (by omega)]; assumption) | (unfold cutZ; rw [if_neg (by omega), if_pos (by omega)]; assumption) | (unfold cutZ; rw [if_neg (by omega), if_neg (by omega)])⟩
    · refine lv_lload_n hx hb dX8_lowestBits_15 rfl (lv_at hl 0 rfl) ?_
      refine x_l2i hx hb dX8_lowestBits_16 ?_
      refine x_eqi (fun z3 hz3 ez3 => ?_)
      refine x_i2l hx hb (by omega) dX8_lowestBits_17 ?_
      refine lv_goto (tgt := 22) hx hb dX8_lowestBits_18 (by decide) ?_
      rw [hQ9]
      refine ret_l (mc := 0) (ms := 0) hx hb hr hlocks hw hS (by first | exact Nat.le_of_ble_eq_true rfl | omega) (by first | exact Nat.le_of_ble_eq_true rfl | omega) dX8_lowestBits_22 ?_
      exact ⟨rfl, by omega, by first | (unfold cutZ; rw [if_pos (by omega)]; assumption) | (unfold cutZ; rw [if_neg (by omega), if_pos (by omega)]; assumption) | (unfold cutZ; rw [if_neg (by omega), if_neg (by omega)])⟩
  · refine lv_lload_n hx hb dX8_lowestBits_5 rfl (lv_at hl 0 rfl) ?_
    refine x_l2i hx hb dX8_lowestBits_6 ?_
    refine lv_i2b hx hb dX8_lowestBits_7 rfl ?_
    refine x_eqi (fun z4 hz4 ez4 => ?_)
    refine x_i2l hx hb (by omega) dX8_lowestBits_8 ?_
    rw [hQ9]
    refine ret_l (mc := 0) (ms := 0) hx hb hr hlocks hw hS (by first | exact Nat.le_of_ble_eq_true rfl | omega) (by first | exact Nat.le_of_ble_eq_true rfl | omega) dX8_lowestBits_9 ?_
    exact ⟨rfl, by omega, by first | (unfold cutZ; rw [if_pos (by omega)]; assumption) | (unfold cutZ; rw [if_neg (by omega), if_pos (by omega)]; assumption) | (unfold cutZ; rw [if_neg (by omega), if_neg (by omega)])⟩

set_option maxHeartbeats 4000000 in
set_option maxRecDepth 100000 in
theorem c_X8_shut (l : Launch) (D : va_G) (tc : Nat → ClassId) (base : Nat) (ad : Nat → Int → Nat) (cnt : Nat → Int) (X : Nat → Int → Int → Int) (Y : Nat → Int → Int → Option Int) (ln : Int → Int) (hR : Rng X) (hFx : Fx cnt) (hLn : LnOK ln) (hCI : CInv cnt X Y ln) (t k on : Int) (ht : -2147483648 ≤ t ∧ t ≤ 2147483647) (hk : -2147483648 ≤ k ∧ k ≤ 2147483647) (hon : 0 ≤ on ∧ on ≤ 1) : KI l D tc base yX8_shut wsX8_shut ({ frames := 2, cells := 0, slots := 0, locals := 42 } : Room) [.ref (ad 0 0), .int (jI t), .int (jI k), .int (jI on)] (ad, cnt, X, Y, ln) 0 0 (fun z u => ∃ (X1 : Nat → Int → Int → Int), u = (ad, cnt, X1, Y, ln) ∧ Rng X1 ∧ Frm [2300] X X1 ∧ CInv cnt X1 Y ln ∧ (-2147483648 ≤ z ∧ z ≤ 2147483647) ∧ ((0 ≤ t ∧ t < X 0 0 1 ∧ 0 ≤ k ∧ k < X 19 t 1 ∧ z = X 23 t k ∧ X1 23 t k = on) ∨ (¬ (0 ≤ t ∧ t < X 0 0 1 ∧ 0 ≤ k ∧ k < X 19 t 1) ∧ z = -1 ∧ X1 23 t k = X 23 t k)) ∧ ∀ y j, ¬ (y = t ∧ j = k) → X1 23 y j = X 23 y j) := by
  refine K_of (cc := cX8_shut) (maxL := 6) (ret := (some .int)) (by decide) rfl (Nat.le_of_ble_eq_true rfl) ?_
  intro p e s m below meth c ls hx hb hr hml hown hts hlocks hl hK hw hS
  have hown : s.vm.findClass RX8 = some m.cls := hown
  obtain ⟨av9, hav9⟩ : ∃ a9 : Array Value, a9 = ([.ref (ad 0 0), .int (jI t), .int (jI k), .int (jI on)] : List Value).toArray := ⟨_, rfl⟩
  rw [← hav9] at hts ⊢
  obtain ⟨Q9, hQ9⟩ : ∃ q9Q : State → Prop, q9Q = MQ below (QI D tc base (fun z u => ∃ (X1 : Nat → Int → Int → Int), u = (ad, cnt, X1, Y, ln) ∧ Rng X1 ∧ Frm [2300] X X1 ∧ CInv cnt X1 Y ln ∧ (-2147483648 ≤ z ∧ z ≤ 2147483647) ∧ ((0 ≤ t ∧ t < X 0 0 1 ∧ 0 ≤ k ∧ k < X 19 t 1 ∧ z = X 23 t k ∧ X1 23 t k = on) ∨ (¬ (0 ≤ t ∧ t < X 0 0 1 ∧ 0 ≤ k ∧ k < X 19 t 1) ∧ z = -1 ∧ X1 23 t k = X 23 t k)) ∧ ∀ y j, ¬ (y = t ∧ j = k) → X1 23 y j = X 23 y j)) av9 s 0 0 (frA base) := ⟨_, rfl⟩
  rw [← hQ9]
  have hi7 : ∀ w ∈ wsX70, w ∈ wsX8_shut := fun w h => List.mem_cons_of_mem _ (List.mem_append_left _ (List.mem_append_right _ h))
  have hf7 : fctx s m _ RX8 wsX8_shut D tc RX7 TX7 8 7 := ⟨hts, hi7, hown, hK.1, rfl⟩
  have lk112 := hts (.fieldLink RX8 112 (TX7 5).1 (TX7 5).2.1 (TX7 5).2.2.1) (gj_X8_shut_0 _ (gp_h))
  have hc0 : cnt 0 = 1 := hFx.at 0 1 (by decide)
  have hc23 : cnt 23 = cnt 19 := hFx.2.1 23 (by decide)
  have hl : lv_has ls 6 [(0, .ref (ad 0 0)), (1, .int (jI t)), (2, .int (jI k)), (3, .int (jI on))] := hl
  have ftc : 0 ≤ X 0 0 3 ∧ X 0 0 3 ≤ 30 := hR 0 0 3
  have fty : 0 ≤ X 0 0 1 ∧ X 0 0 1 ≤ 8 := hR 0 0 1
  have hct : cnt 19 = X 0 0 1 := hCI.2.2.2.1.1
  have hfj : 0 ≤ X 29 0 3 ∧ X 29 0 3 ≤ 4 := hR 29 0 3
  have hfn : 0 ≤ X 29 0 1 ∧ X 29 0 1 ≤ 80 := hR 29 0 1
  refine lv_aload_n hx hb dX8_shut_0 rfl (lv_at hl 0 rfl) ?_
  refine lv_iload_n hx hb dX8_shut_1 rfl (lv_at hl 1 rfl) ?_
  refine gos_r (run_V (As := [.int (jI t)]) (rest := []) hx hb hml hown hts (c_X8_typeNumbered l D tc base ad cnt X Y ln hR hFx hLn hCI t (by omega)) (cwV 1 hts gX8_shut_X8_typeNumbered rfl rfl rfl (by first | exact hd_X8_typeNumbered | decide +kernel) ⟨Nat.le_of_ble_eq_true rfl, Nat.le_of_ble_eq_true rfl⟩) hK hw (by first | exact Int.le_refl 0 | omega) (by first | exact zlt hc0 | omega) sl_0_0 rfl rfl hl.1 rfl (Nat.le_of_ble_eq_true rfl) dX8_shut_2 ⟨Nat.le_of_ble_eq_true rfl, Nat.le_of_ble_eq_true rfl⟩) hS (fun u2 H locs p3 hw hS => ?_) (fun z1 u2 H locs p3 hw hS => ?_)
  · obtain ⟨eu2, hsp3, hnp3⟩ := p3
    subst eu2
    refine lv_astoreN (lv' := [(4, .null), (0, .ref (ad 0 0)), (1, .int (jI t)), (2, .int (jI k)), (3, .int (jI on))]) hx hb dX8_shut_5 hl (by decide) rfl (fun ls hl => ?_)
    refine lv_aloadN hx hb dX8_shut_7 (lv_at hl 0 rfl) ?_
    refine lv_ifnullN (tgt := 21) hx hb dX8_shut_9 (by decide) ?_
    refine lv_iconst (v := jI (-1)) hx hb dX8_shut_21 rfl ?_
    rw [hQ9]
    refine ret_i (mc := 0) (ms := 0) hx hb hr hlocks hw hS (by first | exact Nat.le_of_ble_eq_true rfl | omega) (by first | exact Nat.le_of_ble_eq_true rfl | omega) dX8_shut_22 ?_
    exact ⟨X, rfl, hR, Frm.rf, hCI, by omega, (by have h9n : ¬ (0 ≤ t ∧ t < X 0 0 1) := hnp3 rfl; (try delta Hid at *); first | exact Or.inr ((⟨(fun q => by omega), by omega, by omega⟩)) | exact Or.inl ⟨by omega, by omega, by omega, by omega, by omega, by omega⟩ | omega), fun y j h => (by rfl)⟩
  · obtain ⟨eu2, hsp3, hnp3⟩ := p3
    subst eu2
    obtain ⟨ezz1, p3⟩ := hsp3 z1 rfl
    refine lv_astore (lv' := [(4, .ref (ad 19 z1)), (0, .ref (ad 0 0)), (1, .int (jI t)), (2, .int (jI k)), (3, .int (jI on))]) hx hb dX8_shut_5 hl (by decide) rfl (fun ls hl => ?_)
    refine lv_aload hx hb dX8_shut_7 (lv_at hl 0 rfl) ?_
    refine lv_ifnull hx hb dX8_shut_9 ?_
    refine lv_aload hx hb dX8_shut_12 (lv_at hl 0 rfl) ?_
    refine lv_iload_n hx hb dX8_shut_14 rfl (lv_at hl 3 rfl) ?_
    refine gos_i (run_V (As := [.int (jI k)]) (rest := []) hx hb hml hown hts (c_X7_hasField l D tc base ad cnt X Y ln hR hFx hLn z1 k (by omega) (by omega)) (cwV 1 hts gX8_shut_X7_hasField rfl rfl rfl (by first | exact hd_X7_hasField | decide +kernel) ⟨Nat.le_of_ble_eq_true rfl, Nat.le_of_ble_eq_true rfl⟩) hK hw (by first | exact Int.le_refl 0 | omega) (by first | exact zlt hc19 | omega) sl_19_0 rfl rfl hl.1 rfl (Nat.le_of_ble_eq_true rfl) dX8_shut_15 ⟨Nat.le_of_ble_eq_true rfl, Nat.le_of_ble_eq_true rfl⟩) hS (fun z4 u5 H locs p6 hw hS => ?_)
    obtain ⟨eu5, p6⟩ := p6
    subst eu5
    rcases p6 with ⟨ez4, p6⟩ | ⟨ez4, p6⟩
    · subst ez4
      refine x_if_neT (tgt := 23) hx hb (by omega) (by decide) dX8_shut_18 (by decide) ?_
      refine lv_aload hx hb dX8_shut_23 (lv_at hl 0 rfl) ?_
      refine x_geto hx hb hf7 hw (by omega) (by omega) sl_19_5 lk112 dX8_shut_25 ?_
      refine lv_iload_n hx hb dX8_shut_28 rfl (lv_at hl 3 rfl) ?_
      refine x_zald hx hb hK.1 hw (by omega) (by omega) ar_23 (len_E ar_23 (by first | exact Nat.ne_of_beq_eq_false rfl | decide)) (by omega) (by omega) (by omega) dX8_shut_29 ?_
      have f7 : 0 ≤ X 23 z1 k ∧ X 23 z1 k ≤ 1 := hR 23 z1 k
      refine x_if_eq (tgt := 37) hx hb (by omega) dX8_shut_30 (by decide) (fun c8 => ?_) (fun c8 => ?_)
      · refine lv_iconst (v := jI 0) hx hb dX8_shut_37 rfl ?_
        refine lv_istore (lv' := [(5, .int (jI 0)), (4, .ref (ad 19 z1)), (0, .ref (ad 0 0)), (1, .int (jI t)), (2, .int (jI k)), (3, .int (jI on))]) hx hb dX8_shut_38 hl (by decide) rfl (fun ls hl => ?_)
        refine lv_aload hx hb dX8_shut_40 (lv_at hl 1 rfl) ?_
        refine x_geto hx hb hf7 hw (by omega) (by omega) sl_19_5 lk112 dX8_shut_42 ?_
        refine lv_iload_n hx hb dX8_shut_45 rfl (lv_at hl 4 rfl) ?_
        refine lv_iload_n hx hb dX8_shut_46 rfl (lv_at hl 5 rfl) ?_
        refine x_zast hx hb hK.1 hw hS (by omega) (by omega) ar_23 (len_E ar_23 (by first | exact Nat.ne_of_beq_eq_false rfl | decide)) (by omega) (by omega) (by omega) (by omega) (by omega) dX8_shut_47 (fun H locs hw hS => ?_)
        obtain ⟨X9, hX9⟩ : ∃ Xq, Xq = u3 X 23 z1 k on := ⟨_, rfl⟩
        rw [← hX9] at hw
        have hRX9 : Rng X9 := by rw [hX9]; exact rng_set hR (show 0 ≤ on ∧ on ≤ 1 by omega)
        have hVX9 : X9 23 z1 k = on := by rw [hX9]; exact u3_s _ _ _ _ _
        have hFX9 : Frm [2300] X X9 := by rw [hX9]; exact Frm.set Frm.rf (show 2300 ∈ [2300] by first | exact nlm_in rfl | decide)
        refine lv_iload hx hb dX8_shut_48 (lv_at hl 0 rfl) ?_
        rw [hQ9]
        refine ret_i (mc := 0) (ms := 0) hx hb hr hlocks hw hS (by first | exact Nat.le_of_ble_eq_true rfl | omega) (by first | exact Nat.le_of_ble_eq_true rfl | omega) dX8_shut_50 ?_
        have q10 : Frm [2300] X X9 := by rw [hX9]; exact Frm.set Frm.rf (show 2300 ∈ [2300] by first | exact nlm_in rfl | decide)
        have hCq11 : CInv cnt X9 Y ln := cinv_frm (M := [2300]) (N := []) hCI q10 Frm.rf (by decide) (by decide)
        exact ⟨X9, rfl, hRX9, hFX9, hCq11, by omega, (by rw [← ezz1]; (try delta Hid at *); first | exact Or.inl ⟨by omega, by omega, by omega, by omega, by omega, by omega⟩ | omega), fun y j h => (by rw [hX9, u3_ij (by omega)])⟩
      · refine lv_iconst (v := jI 1) hx hb dX8_shut_33 rfl ?_
        refine lv_goto (tgt := 38) hx hb dX8_shut_34 (by decide) ?_
        refine lv_istore (lv' := [(5, .int (jI 1)), (4, .ref (ad 19 z1)), (0, .ref (ad 0 0)), (1, .int (jI t)), (2, .int (jI k)), (3, .int (jI on))]) hx hb dX8_shut_38 hl (by decide) rfl (fun ls hl => ?_)
        refine lv_aload hx hb dX8_shut_40 (lv_at hl 1 rfl) ?_
        refine x_geto hx hb hf7 hw (by omega) (by omega) sl_19_5 lk112 dX8_shut_42 ?_
        refine lv_iload_n hx hb dX8_shut_45 rfl (lv_at hl 4 rfl) ?_
        refine lv_iload_n hx hb dX8_shut_46 rfl (lv_at hl 5 rfl) ?_
        refine x_zast hx hb hK.1 hw hS (by omega) (by omega) ar_23 (len_E ar_23 (by first | exact Nat.ne_of_beq_eq_false rfl | decide)) (by omega) (by omega) (by omega) (by omega) (by omega) dX8_shut_47 (fun H locs hw hS => ?_)
        obtain ⟨X12, hX12⟩ : ∃ Xq, Xq = u3 X 23 z1 k on := ⟨_, rfl⟩
        rw [← hX12] at hw
        have hRX12 : Rng X12 := by rw [hX12]; exact rng_set hR (show 0 ≤ on ∧ on ≤ 1 by omega)
        have hVX12 : X12 23 z1 k = on := by rw [hX12]; exact u3_s _ _ _ _ _
        have hFX12 : Frm [2300] X X12 := by rw [hX12]; exact Frm.set Frm.rf (show 2300 ∈ [2300] by first | exact nlm_in rfl | decide)
        refine lv_iload hx hb dX8_shut_48 (lv_at hl 0 rfl) ?_
        rw [hQ9]
        refine ret_i (mc := 0) (ms := 0) hx hb hr hlocks hw hS (by first | exact Nat.le_of_ble_eq_true rfl | omega) (by first | exact Nat.le_of_ble_eq_true rfl | omega) dX8_shut_50 ?_
        have q13 : Frm [2300] X X12 := by rw [hX12]; exact Frm.set Frm.rf (show 2300 ∈ [2300] by first | exact nlm_in rfl | decide)
        have hCq14 : CInv cnt X12 Y ln := cinv_frm (M := [2300]) (N := []) hCI q13 Frm.rf (by decide) (by decide)
        exact ⟨X12, rfl, hRX12, hFX12, hCq14, by omega, (by rw [← ezz1]; (try delta Hid at *); first | exact Or.inl ⟨by omega, by omega, by omega, by omega, by omega, by omega⟩ | omega), fun y j h => (by rw [hX12, u3_ij (by omega)])⟩
    · subst ez4
      refine x_if_neF (tgt := 23) hx hb (by omega) (by decide) dX8_shut_18 (by decide) ?_
      refine lv_iconst (v := jI (-1)) hx hb dX8_shut_21 rfl ?_
      rw [hQ9]
      refine ret_i (mc := 0) (ms := 0) hx hb hr hlocks hw hS (by first | exact Nat.le_of_ble_eq_true rfl | omega) (by first | exact Nat.le_of_ble_eq_true rfl | omega) dX8_shut_22 ?_
      exact ⟨X, rfl, hR, Frm.rf, hCI, by omega, (by rw [← ezz1]; (try delta Hid at *); first | exact Or.inr ((⟨(fun q => by omega), by omega, by omega⟩)) | exact Or.inl ⟨by omega, by omega, by omega, by omega, by omega, by omega⟩ | omega), fun y j h => (by rfl)⟩

set_option maxHeartbeats 4000000 in
set_option maxRecDepth 100000 in
theorem c_X8_unchecked (l : Launch) (D : va_G) (tc : Nat → ClassId) (base : Nat) (ad : Nat → Int → Nat) (cnt : Nat → Int) (X : Nat → Int → Int → Int) (Y : Nat → Int → Int → Option Int) (ln : Int → Int) (hR : Rng X) (hFx : Fx cnt) (hLn : LnOK ln) (hCI : CInv cnt X Y ln) (t : Int) (ht : -2147483648 ≤ t ∧ t ≤ 2147483647) : KI l D tc base yX8_unchecked wsX8_unchecked ({ frames := 2, cells := 0, slots := 0, locals := 42 } : Room) [.ref (ad 0 0), .int (jI t)] (ad, cnt, X, Y, ln) 0 0 (fun z u => ∃ (X1 : Nat → Int → Int → Int), u = (ad, cnt, X1, Y, ln) ∧ Rng X1 ∧ Frm [1907] X X1 ∧ CInv cnt X1 Y ln ∧ (-2147483648 ≤ z ∧ z ≤ 2147483647) ∧ ((0 ≤ t ∧ t < X 0 0 1 ∧ z = X 19 t 6 ∧ X1 19 t 6 = 0) ∨ (¬ (0 ≤ t ∧ t < X 0 0 1) ∧ z = -1 ∧ X1 19 t 6 = X 19 t 6)) ∧ ∀ y, y ≠ t → X1 19 y 6 = X 19 y 6) := by
  refine K_of (cc := cX8_unchecked) (maxL := 4) (ret := (some .int)) (by decide) rfl (Nat.le_of_ble_eq_true rfl) ?_
  intro p e s m below meth c ls hx hb hr hml hown hts hlocks hl hK hw hS
  have hown : s.vm.findClass RX8 = some m.cls := hown
  obtain ⟨av9, hav9⟩ : ∃ a9 : Array Value, a9 = ([.ref (ad 0 0), .int (jI t)] : List Value).toArray := ⟨_, rfl⟩
  rw [← hav9] at hts ⊢
  obtain ⟨Q9, hQ9⟩ : ∃ q9Q : State → Prop, q9Q = MQ below (QI D tc base (fun z u => ∃ (X1 : Nat → Int → Int → Int), u = (ad, cnt, X1, Y, ln) ∧ Rng X1 ∧ Frm [1907] X X1 ∧ CInv cnt X1 Y ln ∧ (-2147483648 ≤ z ∧ z ≤ 2147483647) ∧ ((0 ≤ t ∧ t < X 0 0 1 ∧ z = X 19 t 6 ∧ X1 19 t 6 = 0) ∨ (¬ (0 ≤ t ∧ t < X 0 0 1) ∧ z = -1 ∧ X1 19 t 6 = X 19 t 6)) ∧ ∀ y, y ≠ t → X1 19 y 6 = X 19 y 6)) av9 s 0 0 (frA base) := ⟨_, rfl⟩
  rw [← hQ9]
  have hi7 : ∀ w ∈ wsX70, w ∈ wsX8_unchecked := fun w h => List.mem_cons_of_mem _ (List.mem_append_left _ (List.mem_append_right _ h))
  have hf7 : fctx s m _ RX8 wsX8_unchecked D tc RX7 TX7 8 7 := ⟨hts, hi7, hown, hK.1, rfl⟩
  have lk115 := hts (.fieldLink RX8 115 (TX7 6).1 (TX7 6).2.1 (TX7 6).2.2.1) (gj_X8_unchecked_0 _ (gp_h))
  have hc0 : cnt 0 = 1 := hFx.at 0 1 (by decide)
  have hl : lv_has ls 4 [(0, .ref (ad 0 0)), (1, .int (jI t))] := hl
  have ftc : 0 ≤ X 0 0 3 ∧ X 0 0 3 ≤ 30 := hR 0 0 3
  have fty : 0 ≤ X 0 0 1 ∧ X 0 0 1 ≤ 8 := hR 0 0 1
  have hct : cnt 19 = X 0 0 1 := hCI.2.2.2.1.1
  have hfj : 0 ≤ X 29 0 3 ∧ X 29 0 3 ≤ 4 := hR 29 0 3
  have hfn : 0 ≤ X 29 0 1 ∧ X 29 0 1 ≤ 80 := hR 29 0 1
  refine lv_aload_n hx hb dX8_unchecked_0 rfl (lv_at hl 0 rfl) ?_
  refine lv_iload_n hx hb dX8_unchecked_1 rfl (lv_at hl 1 rfl) ?_
  refine gos_r (run_V (As := [.int (jI t)]) (rest := []) hx hb hml hown hts (c_X8_typeNumbered l D tc base ad cnt X Y ln hR hFx hLn hCI t (by omega)) (cwV 1 hts gX8_unchecked_X8_typeNumbered rfl rfl rfl (by first | exact hd_X8_typeNumbered | decide +kernel) ⟨Nat.le_of_ble_eq_true rfl, Nat.le_of_ble_eq_true rfl⟩) hK hw (by first | exact Int.le_refl 0 | omega) (by first | exact zlt hc0 | omega) sl_0_0 rfl rfl hl.1 rfl (Nat.le_of_ble_eq_true rfl) dX8_unchecked_2 ⟨Nat.le_of_ble_eq_true rfl, Nat.le_of_ble_eq_true rfl⟩) hS (fun u2 H locs p3 hw hS => ?_) (fun z1 u2 H locs p3 hw hS => ?_)
  · obtain ⟨eu2, hsp3, hnp3⟩ := p3
    subst eu2
    refine lv_astore_nN (lv' := [(2, .null), (0, .ref (ad 0 0)), (1, .int (jI t))]) hx hb dX8_unchecked_5 rfl hl (by decide) rfl (fun ls hl => ?_)
    refine lv_aload_nN hx hb dX8_unchecked_6 rfl (lv_at hl 0 rfl) ?_
    refine lv_ifnonnullN hx hb dX8_unchecked_7 ?_
    refine lv_iconst (v := jI (-1)) hx hb dX8_unchecked_10 rfl ?_
    rw [hQ9]
    refine ret_i (mc := 0) (ms := 0) hx hb hr hlocks hw hS (by first | exact Nat.le_of_ble_eq_true rfl | omega) (by first | exact Nat.le_of_ble_eq_true rfl | omega) dX8_unchecked_11 ?_
    exact ⟨X, rfl, hR, Frm.rf, hCI, by omega, (by have h9n : ¬ (0 ≤ t ∧ t < X 0 0 1) := hnp3 rfl; (try delta Hid at *); first | exact Or.inr ((⟨(fun q => by omega), by omega, by omega⟩)) | exact Or.inl ⟨by omega, by omega, by omega, by omega⟩ | omega), fun y hy => (by rfl)⟩
  · obtain ⟨eu2, hsp3, hnp3⟩ := p3
    subst eu2
    obtain ⟨ezz1, p3⟩ := hsp3 z1 rfl
    refine lv_astore_n (lv' := [(2, .ref (ad 19 z1)), (0, .ref (ad 0 0)), (1, .int (jI t))]) hx hb dX8_unchecked_5 rfl hl (by decide) rfl (fun ls hl => ?_)
    refine lv_aload_n hx hb dX8_unchecked_6 rfl (lv_at hl 0 rfl) ?_
    refine lv_ifnonnull (tgt := 12) hx hb dX8_unchecked_7 (by decide) ?_
    refine lv_aload_n hx hb dX8_unchecked_12 rfl (lv_at hl 0 rfl) ?_
    refine x_geti (jz := 6) hx hb hf7 hw (by omega) (by omega) sl_19_6 rfl lk115 dX8_unchecked_13 ?_
    have f4 : 0 ≤ X 19 z1 6 ∧ X 19 z1 6 ≤ 4 := hR 19 z1 6
    refine lv_istore_n (lv' := [(3, .int (jI (X 19 z1 6))), (2, .ref (ad 19 z1)), (0, .ref (ad 0 0)), (1, .int (jI t))]) hx hb dX8_unchecked_16 rfl hl (by decide) rfl (fun ls hl => ?_)
    refine lv_aload_n hx hb dX8_unchecked_17 rfl (lv_at hl 1 rfl) ?_
    refine lv_iconst (v := jI 0) hx hb dX8_unchecked_18 rfl ?_
    refine x_puti (jz := 6) hx hb hf7 ⟨tyX7_ok, nmX7⟩ hw hS (by omega) (by omega) sl_19_6 rfl lk115 rfl (tyX7_ok 6 (by decide)) rfl rfl dX8_unchecked_19 (fun H locs hw hS => ?_)
    obtain ⟨X5, hX5⟩ : ∃ Xq, Xq = u3 X 19 z1 6 0 := ⟨_, rfl⟩
    rw [← hX5] at hw
    have hRX5 : Rng X5 := by rw [hX5]; exact rng_set hR (show 0 ≤ 0 ∧ 0 ≤ 4 by omega)
    have hVX5 : X5 19 z1 6 = 0 := by rw [hX5]; exact u3_s _ _ _ _ _
    have hFX5 : Frm [1907] X X5 := by rw [hX5]; exact Frm.set Frm.rf (show 1907 ∈ [1907] by first | exact nlm_in rfl | decide)
    refine lv_iload_n hx hb dX8_unchecked_22 rfl (lv_at hl 0 rfl) ?_
    rw [hQ9]
    refine ret_i (mc := 0) (ms := 0) hx hb hr hlocks hw hS (by first | exact Nat.le_of_ble_eq_true rfl | omega) (by first | exact Nat.le_of_ble_eq_true rfl | omega) dX8_unchecked_23 ?_
    have q6 : Frm [1907] X X5 := by rw [hX5]; exact Frm.set Frm.rf (show 1907 ∈ [1907] by first | exact nlm_in rfl | decide)
    exact ⟨X5, rfl, hRX5, hFX5, cinv_checks (q := z1) hCI q6 Frm.rf (fun i hi => (by rw [hX5, u3_ij (by omega)])) (fun i j _ => rfl) (fun j a b c => by rw [hVX5] at b; omega), by omega, (by rw [← ezz1]; (try delta Hid at *); first | exact Or.inl ⟨by omega, by omega, by omega, by omega⟩ | omega), fun y hy => (by rw [hX5, u3_ij (by omega)])⟩

set_option maxHeartbeats 4000000 in
set_option maxRecDepth 100000 in
theorem c_X8_word (l : Launch) (D : va_G) (tc : Nat → ClassId) (base : Nat) (ad : Nat → Int → Nat) (cnt : Nat → Int) (X : Nat → Int → Int → Int) (Y : Nat → Int → Int → Option Int) (ln : Int → Int) (hR : Rng X) (hFx : Fx cnt) (hLn : LnOK ln) (hCI : CInv cnt X Y ln) (w on : Int) (hw : -2147483648 ≤ w ∧ w ≤ 2147483647) (hon : 0 ≤ on ∧ on ≤ 1) : KI l D tc base yX8_word wsX8_word ({ frames := 1, cells := 0, slots := 0, locals := 21 } : Room) [.ref (ad 0 0), .int (jI w), .int (jI on)] (ad, cnt, X, Y, ln) 0 0 (fun z u => ∃ (X1 : Nat → Int → Int → Int), u = (ad, cnt, X1, Y, ln) ∧ Rng X1 ∧ Frm [300] X X1 ∧ CInv cnt X1 Y ln ∧ (-2147483648 ≤ z ∧ z ≤ 2147483647) ∧ ((0 ≤ w ∧ w < 16 ∧ z = X 3 0 w ∧ X1 3 0 w = on) ∨ (¬ (0 ≤ w ∧ w < 16) ∧ z = -1 ∧ X1 3 0 w = X 3 0 w)) ∧ ∀ y, y ≠ w → X1 3 0 y = X 3 0 y) := by
  refine K_of (cc := cX8_word) (maxL := 4) (ret := (some .int)) (by decide) rfl (Nat.le_of_ble_eq_true rfl) ?_
  intro p e s m below meth c ls hx hb hr hml hown hts hlocks hl hK hw hS
  have hown : s.vm.findClass RX8 = some m.cls := hown
  obtain ⟨av9, hav9⟩ : ∃ a9 : Array Value, a9 = ([.ref (ad 0 0), .int (jI w), .int (jI on)] : List Value).toArray := ⟨_, rfl⟩
  rw [← hav9] at hts ⊢
  obtain ⟨Q9, hQ9⟩ : ∃ q9Q : State → Prop, q9Q = MQ below (QI D tc base (fun z u => ∃ (X1 : Nat → Int → Int → Int), u = (ad, cnt, X1, Y, ln) ∧ Rng X1 ∧ Frm [300] X X1 ∧ CInv cnt X1 Y ln ∧ (-2147483648 ≤ z ∧ z ≤ 2147483647) ∧ ((0 ≤ w ∧ w < 16 ∧ z = X 3 0 w ∧ X1 3 0 w = on) ∨ (¬ (0 ≤ w ∧ w < 16) ∧ z = -1 ∧ X1 3 0 w = X 3 0 w)) ∧ ∀ y, y ≠ w → X1 3 0 y = X 3 0 y)) av9 s 0 0 (frA base) := ⟨_, rfl⟩
  rw [← hQ9]
  have hi8 : ∀ w ∈ wsX80, w ∈ wsX8_word := fun w h => List.mem_cons_of_mem _ (List.mem_append_right _ h)
  have hf8 : fctx s m _ RX8 wsX8_word D tc RX8 TX8 12 8 := ⟨hts, hi8, hown, hK.1, rfl⟩
  have lk21 := hts (.fieldLink RX8 21 (TX8 4).1 (TX8 4).2.1 (TX8 4).2.2.1) (gj_X8_word_0 _ (gp_h))
  have hc0 : cnt 0 = 1 := hFx.at 0 1 (by decide)
  have hc3 : cnt 3 = 1 := hFx.at 3 1 (by decide)
  have hl : lv_has ls 4 [(0, .ref (ad 0 0)), (1, .int (jI w)), (2, .int (jI on))] := hl
  have ftc : 0 ≤ X 0 0 3 ∧ X 0 0 3 ≤ 30 := hR 0 0 3
  have fty : 0 ≤ X 0 0 1 ∧ X 0 0 1 ≤ 8 := hR 0 0 1
  have hct : cnt 19 = X 0 0 1 := hCI.2.2.2.1.1
  have hfj : 0 ≤ X 29 0 3 ∧ X 29 0 3 ≤ 4 := hR 29 0 3
  have hfn : 0 ≤ X 29 0 1 ∧ X 29 0 1 ≤ 80 := hR 29 0 1
  refine lv_iload_n hx hb dX8_word_0 rfl (lv_at hl 1 rfl) ?_
  refine lv_bipush (v := jI 16) hx hb dX8_word_1 (by decide) ?_
  refine gos_i (run_S (As := [.int (jI w), .int (jI 16)]) (rest := []) hx hb hml hown hts (c_X8_isBelow l D tc base ad cnt X Y ln w 16 (by omega) (by omega)) (cwS 2 hts gX8_word_X8_isBelow rfl rfl rfl (by first | exact hd_X8_isBelow | decide +kernel) ⟨Nat.le_of_ble_eq_true rfl, Nat.le_of_ble_eq_true rfl⟩) hK hw rfl hl.1 rfl (Nat.le_of_ble_eq_true rfl) dX8_word_3 ⟨Nat.le_of_ble_eq_true rfl, Nat.le_of_ble_eq_true rfl⟩) hS (fun z1 u2 H locs p3 hw hS => ?_)
  obtain ⟨eu2, p3⟩ := p3
  subst eu2
  rcases p3 with ⟨ez1, p3⟩ | ⟨ez1, p3⟩
  · subst ez1
    refine x_if_neT (tgt := 11) hx hb (by omega) (by decide) dX8_word_6 (by decide) ?_
    refine lv_aload_n hx hb dX8_word_11 rfl (lv_at hl 0 rfl) ?_
    refine x_geto hx hb hf8 hw (by first | exact Int.le_refl 0 | omega) (by first | exact zlt hc0 | omega) sl_0_4 lk21 dX8_word_12 ?_
    refine lv_iload_n hx hb dX8_word_15 rfl (lv_at hl 1 rfl) ?_
    refine x_zald hx hb hK.1 hw (by first | exact Int.le_refl 0 | omega) (by first | exact zlt hc3 | omega) ar_3 (len_E ar_3 (by first | exact Nat.ne_of_beq_eq_false rfl | decide)) (by omega) (by omega) (by omega) dX8_word_16 ?_
    have f4 : 0 ≤ X 3 0 w ∧ X 3 0 w ≤ 1 := hR 3 0 w
    refine x_if_eq (tgt := 24) hx hb (by omega) dX8_word_17 (by decide) (fun c5 => ?_) (fun c5 => ?_)
    · refine lv_iconst (v := jI 0) hx hb dX8_word_24 rfl ?_
      refine lv_istore_n (lv' := [(3, .int (jI 0)), (0, .ref (ad 0 0)), (1, .int (jI w)), (2, .int (jI on))]) hx hb dX8_word_25 rfl hl (by decide) rfl (fun ls hl => ?_)
      refine lv_aload_n hx hb dX8_word_26 rfl (lv_at hl 1 rfl) ?_
      refine x_geto hx hb hf8 hw (by first | exact Int.le_refl 0 | omega) (by first | exact zlt hc0 | omega) sl_0_4 lk21 dX8_word_27 ?_
      refine lv_iload_n hx hb dX8_word_30 rfl (lv_at hl 2 rfl) ?_
      refine lv_iload_n hx hb dX8_word_31 rfl (lv_at hl 3 rfl) ?_
      refine x_zast hx hb hK.1 hw hS (by first | exact Int.le_refl 0 | omega) (by first | exact zlt hc3 | omega) ar_3 (len_E ar_3 (by first | exact Nat.ne_of_beq_eq_false rfl | decide)) (by omega) (by omega) (by omega) (by omega) (by omega) dX8_word_32 (fun H locs hw hS => ?_)
      obtain ⟨X6, hX6⟩ : ∃ Xq, Xq = u3 X 3 0 w on := ⟨_, rfl⟩
      rw [← hX6] at hw
      have hRX6 : Rng X6 := by rw [hX6]; exact rng_set hR (show 0 ≤ on ∧ on ≤ 1 by omega)
      have hVX6 : X6 3 0 w = on := by rw [hX6]; exact u3_s _ _ _ _ _
      have hFX6 : Frm [300] X X6 := by rw [hX6]; exact Frm.set Frm.rf (show 300 ∈ [300] by first | exact nlm_in rfl | decide)
      refine lv_iload_n hx hb dX8_word_33 rfl (lv_at hl 0 rfl) ?_
      rw [hQ9]
      refine ret_i (mc := 0) (ms := 0) hx hb hr hlocks hw hS (by first | exact Nat.le_of_ble_eq_true rfl | omega) (by first | exact Nat.le_of_ble_eq_true rfl | omega) dX8_word_34 ?_
      have q7 : Frm [300] X X6 := by rw [hX6]; exact Frm.set Frm.rf (show 300 ∈ [300] by first | exact nlm_in rfl | decide)
      have hCq8 : CInv cnt X6 Y ln := cinv_frm (M := [300]) (N := []) hCI q7 Frm.rf (by decide) (by decide)
      exact ⟨X6, rfl, hRX6, hFX6, hCq8, by omega, (by (try delta Hid at *); first | exact Or.inl ⟨by omega, by omega, by omega, by omega⟩ | omega), fun y hy => (by rw [hX6, u3_ij (by omega)])⟩
    · refine lv_iconst (v := jI 1) hx hb dX8_word_20 rfl ?_
      refine lv_goto (tgt := 25) hx hb dX8_word_21 (by decide) ?_
      refine lv_istore_n (lv' := [(3, .int (jI 1)), (0, .ref (ad 0 0)), (1, .int (jI w)), (2, .int (jI on))]) hx hb dX8_word_25 rfl hl (by decide) rfl (fun ls hl => ?_)
      refine lv_aload_n hx hb dX8_word_26 rfl (lv_at hl 1 rfl) ?_
      refine x_geto hx hb hf8 hw (by first | exact Int.le_refl 0 | omega) (by first | exact zlt hc0 | omega) sl_0_4 lk21 dX8_word_27 ?_
      refine lv_iload_n hx hb dX8_word_30 rfl (lv_at hl 2 rfl) ?_
      refine lv_iload_n hx hb dX8_word_31 rfl (lv_at hl 3 rfl) ?_
      refine x_zast hx hb hK.1 hw hS (by first | exact Int.le_refl 0 | omega) (by first | exact zlt hc3 | omega) ar_3 (len_E ar_3 (by first | exact Nat.ne_of_beq_eq_false rfl | decide)) (by omega) (by omega) (by omega) (by omega) (by omega) dX8_word_32 (fun H locs hw hS => ?_)
      obtain ⟨X9, hX9⟩ : ∃ Xq, Xq = u3 X 3 0 w on := ⟨_, rfl⟩
      rw [← hX9] at hw
      have hRX9 : Rng X9 := by rw [hX9]; exact rng_set hR (show 0 ≤ on ∧ on ≤ 1 by omega)
      have hVX9 : X9 3 0 w = on := by rw [hX9]; exact u3_s _ _ _ _ _
      have hFX9 : Frm [300] X X9 := by rw [hX9]; exact Frm.set Frm.rf (show 300 ∈ [300] by first | exact nlm_in rfl | decide)
      refine lv_iload_n hx hb dX8_word_33 rfl (lv_at hl 0 rfl) ?_
      rw [hQ9]
      refine ret_i (mc := 0) (ms := 0) hx hb hr hlocks hw hS (by first | exact Nat.le_of_ble_eq_true rfl | omega) (by first | exact Nat.le_of_ble_eq_true rfl | omega) dX8_word_34 ?_
      have q10 : Frm [300] X X9 := by rw [hX9]; exact Frm.set Frm.rf (show 300 ∈ [300] by first | exact nlm_in rfl | decide)
      have hCq11 : CInv cnt X9 Y ln := cinv_frm (M := [300]) (N := []) hCI q10 Frm.rf (by decide) (by decide)
      exact ⟨X9, rfl, hRX9, hFX9, hCq11, by omega, (by (try delta Hid at *); first | exact Or.inl ⟨by omega, by omega, by omega, by omega⟩ | omega), fun y hy => (by rw [hX9, u3_ij (by omega)])⟩
  · subst ez1
    refine x_if_neF (tgt := 11) hx hb (by omega) (by decide) dX8_word_6 (by decide) ?_
    refine lv_iconst (v := jI (-1)) hx hb dX8_word_9 rfl ?_
    rw [hQ9]
    refine ret_i (mc := 0) (ms := 0) hx hb hr hlocks hw hS (by first | exact Nat.le_of_ble_eq_true rfl | omega) (by first | exact Nat.le_of_ble_eq_true rfl | omega) dX8_word_10 ?_
    exact ⟨X, rfl, hR, Frm.rf, hCI, by omega, (by (try delta Hid at *); first | exact Or.inr ((⟨(fun q => by omega), by omega, by omega⟩)) | exact Or.inl ⟨by omega, by omega, by omega, by omega⟩ | omega), fun y hy => (by rfl)⟩

set_option maxHeartbeats 4000000 in
set_option maxRecDepth 100000 in
theorem c_X8_thing (l : Launch) (D : va_G) (tc : Nat → ClassId) (base : Nat) (ad : Nat → Int → Nat) (cnt : Nat → Int) (X : Nat → Int → Int → Int) (Y : Nat → Int → Int → Option Int) (ln : Int → Int) (hR : Rng X) (hFx : Fx cnt) (hLn : LnOK ln) (hCI : CInv cnt X Y ln) (t : Int) (ht : -2147483648 ≤ t ∧ t ≤ 2147483647) : KI l D tc base yX8_thing wsX8_thing ({ frames := 2, cells := 0, slots := 0, locals := 43 } : Room) [.ref (ad 0 0), .int (jI t)] (ad, cnt, X, Y, ln) 0 0 (fun z u => ∃ (X1 : Nat → Int → Int → Int) (Y1 : Nat → Int → Int → Option Int), u = (ad, cnt, X1, Y1, ln) ∧ Rng X1 ∧ Frm [4, 1600] X X1 ∧ Frm [1501, 1700] Y Y1 ∧ CInv cnt X1 Y1 ln ∧ (-2147483648 ≤ z ∧ z ≤ 2147483647) ∧ ((¬ (0 ≤ t ∧ t < X 0 0 1) ∧ z = -1) ∨ ((0 ≤ t ∧ t < X 0 0 1) ∧ 30 ≤ X 0 0 3 ∧ z = -4) ∨ ((0 ≤ t ∧ t < X 0 0 1) ∧ X 0 0 3 < 30 ∧ z = X 0 0 3)) ∧ (z < 0 → X1 = X ∧ Y1 = Y) ∧ (0 ≤ z → X1 0 0 3 = X 0 0 3 + 1 ∧ Y1 15 (X 0 0 3) 0 = some t ∧ (∀ y, y ≠ X 0 0 3 → Y1 15 y 0 = Y 15 y 0) ∧ (∀ j, 0 ≤ j → j < X 19 t 1 → X1 16 (X 0 0 3) j = X 22 t j ∧ Y1 17 (X 0 0 3) j = none) ∧ ∀ y j, y ≠ X 0 0 3 → X1 16 y j = X 16 y j ∧ Y1 17 y j = Y 17 y j)) := by
  refine K_of (cc := cX8_thing) (maxL := 3) (ret := (some .int)) (by decide) rfl (Nat.le_of_ble_eq_true rfl) ?_
  intro p e s m below meth c ls hx hb hr hml hown hts hlocks hl hK hw hS
  have hown : s.vm.findClass RX8 = some m.cls := hown
  obtain ⟨av9, hav9⟩ : ∃ a9 : Array Value, a9 = ([.ref (ad 0 0), .int (jI t)] : List Value).toArray := ⟨_, rfl⟩
  rw [← hav9] at hts ⊢
  obtain ⟨Q9, hQ9⟩ : ∃ q9Q : State → Prop, q9Q = MQ below (QI D tc base (fun z u => ∃ (X1 : Nat → Int → Int → Int) (Y1 : Nat → Int → Int → Option Int), u = (ad, cnt, X1, Y1, ln) ∧ Rng X1 ∧ Frm [4, 1600] X X1 ∧ Frm [1501, 1700] Y Y1 ∧ CInv cnt X1 Y1 ln ∧ (-2147483648 ≤ z ∧ z ≤ 2147483647) ∧ ((¬ (0 ≤ t ∧ t < X 0 0 1) ∧ z = -1) ∨ ((0 ≤ t ∧ t < X 0 0 1) ∧ 30 ≤ X 0 0 3 ∧ z = -4) ∨ ((0 ≤ t ∧ t < X 0 0 1) ∧ X 0 0 3 < 30 ∧ z = X 0 0 3)) ∧ (z < 0 → X1 = X ∧ Y1 = Y) ∧ (0 ≤ z → X1 0 0 3 = X 0 0 3 + 1 ∧ Y1 15 (X 0 0 3) 0 = some t ∧ (∀ y, y ≠ X 0 0 3 → Y1 15 y 0 = Y 15 y 0) ∧ (∀ j, 0 ≤ j → j < X 19 t 1 → X1 16 (X 0 0 3) j = X 22 t j ∧ Y1 17 (X 0 0 3) j = none) ∧ ∀ y j, y ≠ X 0 0 3 → X1 16 y j = X 16 y j ∧ Y1 17 y j = Y 17 y j))) av9 s 0 0 (frA base) := ⟨_, rfl⟩
  rw [← hQ9]
  have hi8 : ∀ w ∈ wsX80, w ∈ wsX8_thing := fun w h => List.mem_cons_of_mem _ (List.mem_append_left _ (List.mem_append_left _ (List.mem_append_right _ h)))
  have hf8 : fctx s m _ RX8 wsX8_thing D tc RX8 TX8 12 8 := ⟨hts, hi8, hown, hK.1, rfl⟩
  have lk17 := hts (.fieldLink RX8 17 (TX8 2).1 (TX8 2).2.1 (TX8 2).2.2.1) (gj_X8_thing_0 _ (gp_1 gp_h))
  have lk94 := hts (.fieldLink RX8 94 (TX8 3).1 (TX8 3).2.1 (TX8 3).2.2.1) (gj_X8_thing_0 _ (gp_h))
  have hc0 : cnt 0 = 1 := hFx.at 0 1 (by decide)
  have hc2 : cnt 2 = 1 := hFx.at 2 1 (by decide)
  have hc15 : cnt 15 = 30 := hFx.at 15 30 (by decide)
  have hl : lv_has ls 3 [(0, .ref (ad 0 0)), (1, .int (jI t))] := hl
  have ftc : 0 ≤ X 0 0 3 ∧ X 0 0 3 ≤ 30 := hR 0 0 3
  have fty : 0 ≤ X 0 0 1 ∧ X 0 0 1 ≤ 8 := hR 0 0 1
  have hct : cnt 19 = X 0 0 1 := hCI.2.2.2.1.1
  have hfj : 0 ≤ X 29 0 3 ∧ X 29 0 3 ≤ 4 := hR 29 0 3
  have hfn : 0 ≤ X 29 0 1 ∧ X 29 0 1 ≤ 80 := hR 29 0 1
  refine lv_aload_n hx hb dX8_thing_0 rfl (lv_at hl 0 rfl) ?_
  refine lv_iload_n hx hb dX8_thing_1 rfl (lv_at hl 1 rfl) ?_
  refine gos_r (run_V (As := [.int (jI t)]) (rest := []) hx hb hml hown hts (c_X8_typeNumbered l D tc base ad cnt X Y ln hR hFx hLn hCI t (by omega)) (cwV 1 hts gX8_thing_X8_typeNumbered rfl rfl rfl (by first | exact hd_X8_typeNumbered | decide +kernel) ⟨Nat.le_of_ble_eq_true rfl, Nat.le_of_ble_eq_true rfl⟩) hK hw (by first | exact Int.le_refl 0 | omega) (by first | exact zlt hc0 | omega) sl_0_0 rfl rfl hl.1 rfl (Nat.le_of_ble_eq_true rfl) dX8_thing_2 ⟨Nat.le_of_ble_eq_true rfl, Nat.le_of_ble_eq_true rfl⟩) hS (fun u2 H locs p3 hw hS => ?_) (fun z1 u2 H locs p3 hw hS => ?_)
  · obtain ⟨eu2, hsp3, hnp3⟩ := p3
    subst eu2
    refine lv_astore_nN (lv' := [(2, .null), (0, .ref (ad 0 0)), (1, .int (jI t))]) hx hb dX8_thing_5 rfl hl (by decide) rfl (fun ls hl => ?_)
    refine lv_aload_nN hx hb dX8_thing_6 rfl (lv_at hl 0 rfl) ?_
    refine lv_ifnonnullN hx hb dX8_thing_7 ?_
    refine lv_iconst (v := jI (-1)) hx hb dX8_thing_10 rfl ?_
    rw [hQ9]
    refine ret_i (mc := 0) (ms := 0) hx hb hr hlocks hw hS (by first | exact Nat.le_of_ble_eq_true rfl | omega) (by first | exact Nat.le_of_ble_eq_true rfl | omega) dX8_thing_11 ?_
    exact ⟨X, Y, rfl, hR, Frm.rf, Frm.rf, hCI, by omega, (by have h9n : ¬ (0 ≤ t ∧ t < X 0 0 1) := hnp3 rfl; exact Or.inl ⟨h9n, by omega⟩), fun _ => ⟨rfl, rfl⟩, fun q => (by exfalso; omega)⟩
  · obtain ⟨eu2, hsp3, hnp3⟩ := p3
    subst eu2
    obtain ⟨ezz1, p3⟩ := hsp3 z1 rfl
    refine lv_astore_n (lv' := [(2, .ref (ad 19 z1)), (0, .ref (ad 0 0)), (1, .int (jI t))]) hx hb dX8_thing_5 rfl hl (by decide) rfl (fun ls hl => ?_)
    refine lv_aload_n hx hb dX8_thing_6 rfl (lv_at hl 0 rfl) ?_
    refine lv_ifnonnull (tgt := 12) hx hb dX8_thing_7 (by decide) ?_
    refine lv_aload_n hx hb dX8_thing_12 rfl (lv_at hl 1 rfl) ?_
    refine x_geti (jz := 3) hx hb hf8 hw (by first | exact Int.le_refl 0 | omega) (by first | exact zlt hc0 | omega) sl_0_3 rfl lk94 dX8_thing_13 ?_
    have f4 : 0 ≤ X 0 0 3 ∧ X 0 0 3 ≤ 30 := hR 0 0 3
    refine lv_bipush (v := jI 30) hx hb dX8_thing_16 (by decide) ?_
    refine x_icmp_lt (tgt := 24) hx hb (by omega) (by omega) dX8_thing_18 (by decide) (fun c5 => ?_) (fun c5 => ?_)
    · refine lv_aload_n hx hb dX8_thing_24 rfl (lv_at hl 1 rfl) ?_
      refine x_geto hx hb hf8 hw (by first | exact Int.le_refl 0 | omega) (by first | exact zlt hc0 | omega) sl_0_2 lk17 dX8_thing_25 ?_
      refine lv_aload_n hx hb dX8_thing_28 rfl (lv_at hl 1 rfl) ?_
      refine x_geti (jz := 3) hx hb hf8 hw (by first | exact Int.le_refl 0 | omega) (by first | exact zlt hc0 | omega) sl_0_3 rfl lk94 dX8_thing_29 ?_
      have f6 : 0 ≤ X 0 0 3 ∧ X 0 0 3 ≤ 30 := hR 0 0 3
      refine x_aald hx hb hK.1 hw (by first | exact Int.le_refl 0 | omega) (by first | exact zlt hc2 | omega) ar_2 rfl (len_E ar_2 (by first | exact Nat.ne_of_beq_eq_false rfl | decide)) (by omega) (by omega) (by omega) dX8_thing_32 (fun y7 => ?_) (fun r8 y7 gr8 lr8 => ?_)
      · exfalso
        have h9 := hCI.1 (X 0 0 3) (by omega) (by omega); rw [h9] at y7; cases y7
      · have er8 : r8 = (X 0 0 3) := by have h9 := hCI.1 (X 0 0 3) (by omega) (by omega); rw [h9] at y7; cases y7; rfl
        rw [er8]
        refine lv_aload_n hx hb dX8_thing_33 rfl (lv_at hl 0 rfl) ?_
        refine gos_v (run_V (As := [.ref (ad 19 z1)]) (rest := []) hx hb hml hown hts (c_X6_become l D tc base ad cnt X Y ln hR hFx hLn hCI (X 0 0 3) z1 (by omega) (by omega)) (cwV 1 hts gX8_thing_X6_become rfl rfl rfl (by first | exact hd_X6_become | decide +kernel) ⟨Nat.le_of_ble_eq_true rfl, Nat.le_of_ble_eq_true rfl⟩) hK hw (by first | exact Int.le_refl 0 | omega) (by first | exact zlt hc15 | omega) sl_15_0 rfl rfl hl.1 rfl (Nat.le_of_ble_eq_true rfl) dX8_thing_34 ⟨Nat.le_of_ble_eq_true rfl, Nat.le_of_ble_eq_true rfl⟩) hS (fun u10 H locs p11 hw hS => ?_)
        obtain ⟨X12, Y13, eu10, hRX12, hG14, hJ15, hCIX12, p11, hytX12, hyoX12, hbnX12, hboX12⟩ := p11
        subst eu10
        have hFX12 : Frm [4, 1600] X X12 := Frm.tr Frm.rf (Frm.mono hG14 (by first | exact nls_of rfl | decide))
        have hHY13 : Frm [1501, 1700] Y Y13 := Frm.tr Frm.rf (Frm.mono hJ15 (by first | exact nls_of rfl | decide))
        refine lv_aload_n hx hb dX8_thing_37 rfl (lv_at hl 1 rfl) ?_
        refine lv_dup hx hb dX8_thing_38 rfl ?_
        refine x_geti (jz := 3) hx hb hf8 hw (by first | exact Int.le_refl 0 | omega) (by first | exact zlt hc0 | omega) sl_0_3 rfl lk94 dX8_thing_39 ?_
        have e16 : X12 0 0 3 = X 0 0 3 := by rw [hG14 0 0 3 (show 4 ∉ [1600] by first | exact nlm_ni rfl | decide)]
        rw [e16]
        have f17 : 0 ≤ X 0 0 3 ∧ X 0 0 3 ≤ 30 := hR 0 0 3
        refine lv_iconst (v := jI 1) hx hb dX8_thing_42 rfl ?_
        refine x_iadd hx hb dX8_thing_43 ?_
        refine x_puti (jz := 3) hx hb hf8 ⟨tyX8_ok, nmX8⟩ hw hS (by first | exact Int.le_refl 0 | omega) (by first | exact zlt hc0 | omega) sl_0_3 rfl lk94 rfl (tyX8_ok 3 (by decide)) rfl rfl dX8_thing_44 (fun H locs hw hS => ?_)
        obtain ⟨X18, hX18⟩ : ∃ Xq, Xq = u3 X12 0 0 3 ((X 0 0 3) + 1) := ⟨_, rfl⟩
        rw [← hX18] at hw
        have hRX18 : Rng X18 := by rw [hX18]; exact rng_set hRX12 (show 0 ≤ ((X 0 0 3) + 1) ∧ ((X 0 0 3) + 1) ≤ 30 by omega)
        have hVX18 : X18 0 0 3 = ((X 0 0 3) + 1) := by rw [hX18]; exact u3_s _ _ _ _ _
        have hFX18 : Frm [4, 1600] X X18 := by rw [hX18]; exact Frm.set hFX12 (show 4 ∈ [4, 1600] by first | exact nlm_in rfl | decide)
        refine lv_aload_n hx hb dX8_thing_47 rfl (lv_at hl 1 rfl) ?_
        refine x_geti (jz := 3) hx hb hf8 hw (by first | exact Int.le_refl 0 | omega) (by first | exact zlt hc0 | omega) sl_0_3 rfl lk94 dX8_thing_48 ?_
        rw [hVX18]
        refine lv_iconst (v := jI 1) hx hb dX8_thing_51 rfl ?_
        refine x_isub hx hb dX8_thing_52 ?_
        rw [hQ9]
        refine ret_i (mc := 0) (ms := 0) hx hb hr hlocks hw hS (by first | exact Nat.le_of_ble_eq_true rfl | omega) (by first | exact Nat.le_of_ble_eq_true rfl | omega) dX8_thing_53 ?_
        have e19 : X12 0 0 3 = X 0 0 3 := (by rw [hG14 0 0 3 (show 4 ∉ [1600] by first | exact nlm_ni rfl | decide)])
        have q20 : Frm [4] X12 X18 := by rw [hX18]; exact Frm.set Frm.rf (show 4 ∈ [4] by first | exact nlm_in rfl | decide)
        refine ⟨X18, Y13, rfl, hRX18, hFX18, hHY13, ?g9p593, ?g9p594, ?g9p595, ?g9p596, ?g9p597⟩
        case g9p593 => exact cinv_things hCIX12 q20 (fun x9 a b c => by rw [hVX18] at b; rw [e19] at c; rw [show x9 = X 0 0 3 by omega, hytX12]; exact fun q => by cases q)
        case g9p594 => omega
        case g9p595 => rw [← ezz1]; exact Or.inr (Or.inr ⟨⟨by omega, by omega⟩, by omega, by omega⟩)
        case g9p596 => exact fun q => (by exfalso; omega)
        case g9p597 => exact fun _ => (by rw [← ezz1]; exact ⟨(by rw [hVX18] <;> omega), hytX12, hyoX12, fun j a b => (by rw [hX18, u3_k _ _ _ _ (by first | exact Nat.ne_of_beq_eq_false rfl | decide)]; exact hbnX12 j a b), fun y j hy => (by rw [hX18, u3_k _ _ _ _ (by first | exact Nat.ne_of_beq_eq_false rfl | decide)]; exact hboX12 y j hy)⟩)
    · refine lv_bipush (v := jI (-4)) hx hb dX8_thing_21 (by decide) ?_
      rw [hQ9]
      refine ret_i (mc := 0) (ms := 0) hx hb hr hlocks hw hS (by first | exact Nat.le_of_ble_eq_true rfl | omega) (by first | exact Nat.le_of_ble_eq_true rfl | omega) dX8_thing_23 ?_
      exact ⟨X, Y, rfl, hR, Frm.rf, Frm.rf, hCI, by omega, (by rw [← ezz1]; exact Or.inr (Or.inl ⟨⟨by omega, by omega⟩, by omega, by omega⟩)), fun _ => ⟨rfl, rfl⟩, fun q => (by exfalso; omega)⟩

set_option maxHeartbeats 4000000 in
set_option maxRecDepth 100000 in
theorem c_X8_put (l : Launch) (D : va_G) (tc : Nat → ClassId) (base : Nat) (ad : Nat → Int → Nat) (cnt : Nat → Int) (X : Nat → Int → Int → Int) (Y : Nat → Int → Int → Option Int) (ln : Int → Int) (hR : Rng X) (hFx : Fx cnt) (hLn : LnOK ln) (hCI : CInv cnt X Y ln) (x k v : Int) (hx : -2147483648 ≤ x ∧ x ≤ 2147483647) (hk : -2147483648 ≤ k ∧ k ≤ 2147483647) (hv : -9223372036854775808 ≤ v ∧ v ≤ 9223372036854775807) : KI l D tc base yX8_put wsX8_put ({ frames := 4, cells := 0, slots := 0, locals := 92 } : Room) [.ref (ad 0 0), .int (jI x), .int (jI k), .long (jL v)] (ad, cnt, X, Y, ln) 0 0 (fun z u => ∃ (X1 : Nat → Int → Int → Int) (Y1 : Nat → Int → Int → Option Int), u = (ad, cnt, X1, Y1, ln) ∧ Rng X1 ∧ Frm [2802, 2803, 2902, 1600] X X1 ∧ Frm [2801, 2804] Y Y1 ∧ CInv cnt X1 Y1 ln ∧ (-2147483648 ≤ z ∧ z ≤ 2147483647) ∧ ((¬ (0 ≤ x ∧ x < X 0 0 3 ∧ 0 ≤ k ∧ k < X 19 (tyo (Y 15 x 0)) 1) ∧ z = -1) ∨ ((0 ≤ x ∧ x < X 0 0 3 ∧ 0 ≤ k ∧ k < X 19 (tyo (Y 15 x 0)) 1) ∧ 1 < X 21 (tyo (Y 15 x 0)) k ∧ z = -14) ∨ ((0 ≤ x ∧ x < X 0 0 3 ∧ 0 ≤ k ∧ k < X 19 (tyo (Y 15 x 0)) 1) ∧ X 21 (tyo (Y 15 x 0)) k = 1 ∧ v ≠ -1 ∧ ¬ (0 ≤ v ∧ v < 16 ∧ X 3 0 v = 1) ∧ z = -17) ∨ ((0 ≤ x ∧ x < X 0 0 3 ∧ 0 ≤ k ∧ k < X 19 (tyo (Y 15 x 0)) 1) ∧ X 21 (tyo (Y 15 x 0)) k ≤ 1 ∧ (X 21 (tyo (Y 15 x 0)) k = 1 → v = -1 ∨ (0 ≤ v ∧ v < 16 ∧ X 3 0 v = 1)) ∧ 80 ≤ X 29 0 1 ∧ z = -4) ∨ ((0 ≤ x ∧ x < X 0 0 3 ∧ 0 ≤ k ∧ k < X 19 (tyo (Y 15 x 0)) 1) ∧ X 21 (tyo (Y 15 x 0)) k ≤ 1 ∧ (X 21 (tyo (Y 15 x 0)) k = 1 → v = -1 ∨ (0 ≤ v ∧ v < 16 ∧ X 3 0 v = 1)) ∧ X 29 0 1 ≤ 79 ∧ z = 1)) ∧ (z < 0 → X1 = X ∧ Y1 = Y) ∧ (z = 1 → eNoteC X X1 Y Y1 (some x) k (X 16 x k) (Y 17 x k) ∧ X1 16 x k = v ∧ (∀ y j, ¬ (y = x ∧ j = k) → X1 16 y j = X 16 y j) ∧ ∀ y j, Y1 17 y j = Y 17 y j)) := by
  refine K_of (cc := cX8_put) (maxL := 7) (ret := (some .int)) (by decide) rfl (Nat.le_of_ble_eq_true rfl) ?_
  intro p e s m below meth c ls hx hb hr hml hown hts hlocks hl hK hw hS
  have hown : s.vm.findClass RX8 = some m.cls := hown
  obtain ⟨av9, hav9⟩ : ∃ a9 : Array Value, a9 = ([.ref (ad 0 0), .int (jI x), .int (jI k), .long (jL v)] : List Value).toArray := ⟨_, rfl⟩
  rw [← hav9] at hts ⊢
  obtain ⟨Q9, hQ9⟩ : ∃ q9Q : State → Prop, q9Q = MQ below (QI D tc base (fun z u => ∃ (X1 : Nat → Int → Int → Int) (Y1 : Nat → Int → Int → Option Int), u = (ad, cnt, X1, Y1, ln) ∧ Rng X1 ∧ Frm [2802, 2803, 2902, 1600] X X1 ∧ Frm [2801, 2804] Y Y1 ∧ CInv cnt X1 Y1 ln ∧ (-2147483648 ≤ z ∧ z ≤ 2147483647) ∧ ((¬ (0 ≤ x ∧ x < X 0 0 3 ∧ 0 ≤ k ∧ k < X 19 (tyo (Y 15 x 0)) 1) ∧ z = -1) ∨ ((0 ≤ x ∧ x < X 0 0 3 ∧ 0 ≤ k ∧ k < X 19 (tyo (Y 15 x 0)) 1) ∧ 1 < X 21 (tyo (Y 15 x 0)) k ∧ z = -14) ∨ ((0 ≤ x ∧ x < X 0 0 3 ∧ 0 ≤ k ∧ k < X 19 (tyo (Y 15 x 0)) 1) ∧ X 21 (tyo (Y 15 x 0)) k = 1 ∧ v ≠ -1 ∧ ¬ (0 ≤ v ∧ v < 16 ∧ X 3 0 v = 1) ∧ z = -17) ∨ ((0 ≤ x ∧ x < X 0 0 3 ∧ 0 ≤ k ∧ k < X 19 (tyo (Y 15 x 0)) 1) ∧ X 21 (tyo (Y 15 x 0)) k ≤ 1 ∧ (X 21 (tyo (Y 15 x 0)) k = 1 → v = -1 ∨ (0 ≤ v ∧ v < 16 ∧ X 3 0 v = 1)) ∧ 80 ≤ X 29 0 1 ∧ z = -4) ∨ ((0 ≤ x ∧ x < X 0 0 3 ∧ 0 ≤ k ∧ k < X 19 (tyo (Y 15 x 0)) 1) ∧ X 21 (tyo (Y 15 x 0)) k ≤ 1 ∧ (X 21 (tyo (Y 15 x 0)) k = 1 → v = -1 ∨ (0 ≤ v ∧ v < 16 ∧ X 3 0 v = 1)) ∧ X 29 0 1 ≤ 79 ∧ z = 1)) ∧ (z < 0 → X1 = X ∧ Y1 = Y) ∧ (z = 1 → eNoteC X X1 Y Y1 (some x) k (X 16 x k) (Y 17 x k) ∧ X1 16 x k = v ∧ (∀ y j, ¬ (y = x ∧ j = k) → X1 16 y j = X 16 y j) ∧ ∀ y j, Y1 17 y j = Y 17 y j))) av9 s 0 0 (frA base) := ⟨_, rfl⟩
  rw [← hQ9]
  have hi6 : ∀ w ∈ wsX60, w ∈ wsX8_put := fun w h => List.mem_cons_of_mem _ (List.mem_append_left _ (List.mem_append_left _ (List.mem_append_left _ (List.mem_append_left _ (List.mem_append_right _ h)))))
  have hf6 : fctx s m _ RX8 wsX8_put D tc RX6 TX6 4 6 := ⟨hts, hi6, hown, hK.1, rfl⟩
  have hi7 : ∀ w ∈ wsX70, w ∈ wsX8_put := fun w h => List.mem_cons_of_mem _ (List.mem_append_left _ (List.mem_append_left _ (List.mem_append_left _ (List.mem_append_right _ h))))
  have hf7 : fctx s m _ RX8 wsX8_put D tc RX7 TX7 8 7 := ⟨hts, hi7, hown, hK.1, rfl⟩
  have lk97 := hts (.fieldLink RX8 97 (TX6 0).1 (TX6 0).2.1 (TX6 0).2.2.1) (gj_X8_put_0 _ (gp_h))
  have lk135 := hts (.fieldLink RX8 135 (TX7 3).1 (TX7 3).2.1 (TX7 3).2.2.1) (gj_X8_put_0 _ (gp_1 gp_h))
  have hc0 : cnt 0 = 1 := hFx.at 0 1 (by decide)
  have hc15 : cnt 15 = 30 := hFx.at 15 30 (by decide)
  have hc21 : cnt 21 = cnt 19 := hFx.2.1 21 (by decide)
  have hl : lv_has ls 7 [(0, .ref (ad 0 0)), (1, .int (jI x)), (2, .int (jI k)), (3, .long (jL v))] := hl
  have ftc : 0 ≤ X 0 0 3 ∧ X 0 0 3 ≤ 30 := hR 0 0 3
  have fty : 0 ≤ X 0 0 1 ∧ X 0 0 1 ≤ 8 := hR 0 0 1
  have hct : cnt 19 = X 0 0 1 := hCI.2.2.2.1.1
  have hfj : 0 ≤ X 29 0 3 ∧ X 29 0 3 ≤ 4 := hR 29 0 3
  have hfn : 0 ≤ X 29 0 1 ∧ X 29 0 1 ≤ 80 := hR 29 0 1
  refine lv_aload_n hx hb dX8_put_0 rfl (lv_at hl 0 rfl) ?_
  refine lv_iload_n hx hb dX8_put_1 rfl (lv_at hl 1 rfl) ?_
  refine lv_iload_n hx hb dX8_put_2 rfl (lv_at hl 2 rfl) ?_
  refine gos_r (run_V (As := [.int (jI x), .int (jI k)]) (rest := []) hx hb hml hown hts (c_X8_thingWithField l D tc base ad cnt X Y ln hR hFx hLn hCI x k (by omega) (by omega)) (cwV 2 hts gX8_put_X8_thingWithField rfl rfl rfl (by first | exact hd_X8_thingWithField | decide +kernel) ⟨Nat.le_of_ble_eq_true rfl, Nat.le_of_ble_eq_true rfl⟩) hK hw (by first | exact Int.le_refl 0 | omega) (by first | exact zlt hc0 | omega) sl_0_0 rfl rfl hl.1 rfl (Nat.le_of_ble_eq_true rfl) dX8_put_3 ⟨Nat.le_of_ble_eq_true rfl, Nat.le_of_ble_eq_true rfl⟩) hS (fun u2 H locs p3 hw hS => ?_) (fun z1 u2 H locs p3 hw hS => ?_)
  · obtain ⟨eu2, hsp3, hnp3⟩ := p3
    subst eu2
    refine lv_astoreN (lv' := [(5, .null), (0, .ref (ad 0 0)), (1, .int (jI x)), (2, .int (jI k)), (3, .long (jL v))]) hx hb dX8_put_6 hl (by decide) rfl (fun ls hl => ?_)
    refine lv_aloadN hx hb dX8_put_8 (lv_at hl 0 rfl) ?_
    refine lv_ifnonnullN hx hb dX8_put_10 ?_
    refine lv_iconst (v := jI (-1)) hx hb dX8_put_13 rfl ?_
    rw [hQ9]
    refine ret_i (mc := 0) (ms := 0) hx hb hr hlocks hw hS (by first | exact Nat.le_of_ble_eq_true rfl | omega) (by first | exact Nat.le_of_ble_eq_true rfl | omega) dX8_put_14 ?_
    have h9n4 : ¬ (0 ≤ x ∧ x < X 0 0 3 ∧ 0 ≤ k ∧ k < X 19 (tyo (Y 15 x 0)) 1) := hnp3 rfl
    exact ⟨X, Y, rfl, hR, Frm.rf, Frm.rf, hCI, by omega, (by exact Or.inl ⟨(fun q => by (try delta Hid at *); omega), by omega⟩), fun _ => ⟨rfl, rfl⟩, fun q => (by exfalso; omega)⟩
  · obtain ⟨eu2, hsp3, hnp3⟩ := p3
    subst eu2
    obtain ⟨ezz1, p3, h1p3, h2p3, h3p3, h4p3, h5p3⟩ := hsp3 z1 rfl
    refine lv_astore (lv' := [(5, .ref (ad 15 z1)), (0, .ref (ad 0 0)), (1, .int (jI x)), (2, .int (jI k)), (3, .long (jL v))]) hx hb dX8_put_6 hl (by decide) rfl (fun ls hl => ?_)
    refine lv_aload hx hb dX8_put_8 (lv_at hl 0 rfl) ?_
    refine lv_ifnonnull (tgt := 15) hx hb dX8_put_10 (by decide) ?_
    refine lv_aload hx hb dX8_put_15 (lv_at hl 0 rfl) ?_
    refine x_getr (jz := 0) hx hb hf6 hw (by omega) (by omega) sl_15_0 rfl lk97 dX8_put_17 (fun y5 => ?_) (fun r6 y5 gr6 lr6 => ?_)
    · exfalso
      exact absurd y5 (hCI.2.2.2.2.1 z1 (by omega) (by omega))
    · refine x_geto hx hb hf7 hw (by omega) (by omega) sl_19_3 lk135 dX8_put_20 ?_
      refine lv_iload_n hx hb dX8_put_23 rfl (lv_at hl 3 rfl) ?_
      refine x_iald hx hb hK.1 hw (by omega) (by omega) ar_21 (len_E ar_21 (by first | exact Nat.ne_of_beq_eq_false rfl | decide)) (by omega) (by omega) (by omega) dX8_put_24 ?_
      have f7 : 0 ≤ X 21 r6 k ∧ X 21 r6 k ≤ 5 := hR 21 r6 k
      refine lv_istore (lv' := [(6, .int (jI (X 21 r6 k))), (5, .ref (ad 15 z1)), (0, .ref (ad 0 0)), (1, .int (jI x)), (2, .int (jI k)), (3, .long (jL v))]) hx hb dX8_put_25 hl (by decide) rfl (fun ls hl => ?_)
      refine lv_iload hx hb dX8_put_27 (lv_at hl 0 rfl) ?_
      refine x_if_eq (tgt := 43) hx hb (by omega) dX8_put_29 (by decide) (fun c8 => ?_) (fun c8 => ?_)
      · refine lv_iload hx hb dX8_put_43 (lv_at hl 0 rfl) ?_
        refine lv_iconst (v := jI 1) hx hb dX8_put_45 rfl ?_
        refine x_icmp_ne (tgt := 71) hx hb (by omega) (by omega) dX8_put_46 (by decide) (fun c9 => ?_) (fun c9 => ?_)
        · refine lv_aload_n hx hb dX8_put_71 rfl (lv_at hl 2 rfl) ?_
          refine lv_aload hx hb dX8_put_72 (lv_at hl 1 rfl) ?_
          refine lv_iload_n hx hb dX8_put_74 rfl (lv_at hl 4 rfl) ?_
          refine lv_lload_n hx hb dX8_put_75 rfl (lv_at hl 5 rfl) ?_
          refine gos_i (run_V (As := [.ref (ad 15 z1), .int (jI k), .long (jL v)]) (rest := []) hx hb hml hown hts (c_X8_changeValue l D tc base ad cnt X Y ln hR hFx hLn hCI z1 k v (by omega) (by omega) (by omega)) (cwV 3 hts gX8_put_X8_changeValue rfl rfl rfl (by first | exact hd_X8_changeValue | decide +kernel) ⟨Nat.le_of_ble_eq_true rfl, Nat.le_of_ble_eq_true rfl⟩) hK hw (by first | exact Int.le_refl 0 | omega) (by first | exact zlt hc0 | omega) sl_0_0 rfl rfl hl.1 rfl (Nat.le_of_ble_eq_true rfl) dX8_put_76 ⟨Nat.le_of_ble_eq_true rfl, Nat.le_of_ble_eq_true rfl⟩) hS (fun z10 u11 H locs p12 hw hS => ?_)
          obtain ⟨X13, Y14, eu11, hRX13, hG15, hJ16, hCIX13, p12, hcvX13⟩ := p12
          subst eu11
          have hFX13 : Frm [2802, 2803, 2902, 1600] X X13 := Frm.tr Frm.rf (Frm.mono hG15 (by first | exact nls_of rfl | decide))
          have hHY14 : Frm [2801, 2804] Y Y14 := Frm.tr Frm.rf (Frm.mono hJ16 (by first | exact nls_of rfl | decide))
          rw [hQ9]
          refine ret_i (mc := 0) (ms := 0) hx hb hr hlocks hw hS (by first | exact Nat.le_of_ble_eq_true rfl | omega) (by first | exact Nat.le_of_ble_eq_true rfl | omega) dX8_put_79 ?_
          have hT17 : tyo (Y 15 x 0) = r6 := by rw [← ezz1]; exact tyo_some y5
          have hk18 : k < X 19 r6 1 := h5p3 r6 (by rw [← ezz1]; exact y5)
          rcases hcvX13 with ⟨c1, c2, c3, c4⟩ | ⟨c1, c2, c3, c4, c5, c6⟩
          · refine ⟨X13, Y14, rfl, hRX13, hFX13, hHY14, hCIX13, ?g9p598, ?g9p599, fun _ => ⟨c3, c4⟩, ?g9p600⟩
            case g9p598 => omega
            case g9p599 => rw [hT17]; first | (have h9z : (z10 : Int) = -1 := (by omega); exact Or.inl ⟨(fun q => by (try delta Hid at *); omega), by omega⟩) | (have h9z : (z10 : Int) = -14 := (by omega); exact Or.inr (Or.inl ⟨(by (try delta Hid at *); omega), by omega, by omega⟩)) | (have h9z : (z10 : Int) = -17 := (by omega); exact Or.inr (Or.inr (Or.inl ⟨(by (try delta Hid at *); omega), by omega, by omega, (fun q => by (try delta Hid at *); omega), by omega⟩))) | (have h9z : (z10 : Int) = -4 := (by omega); exact Or.inr (Or.inr (Or.inr (Or.inl ⟨(by (try delta Hid at *); omega), by omega, (by (try delta Hid at *); omega), by omega, by omega⟩)))) | (have h9z : (z10 : Int) = 1 := (by omega); exact Or.inr (Or.inr (Or.inr (Or.inr (⟨(by (try delta Hid at *); omega), by omega, (by (try delta Hid at *); omega), by omega, by omega⟩))))) | exact Or.inl ⟨(fun q => by (try delta Hid at *); omega), by omega⟩ | exact Or.inr (Or.inl ⟨(by (try delta Hid at *); omega), by omega, by omega⟩) | exact Or.inr (Or.inr (Or.inl ⟨(by (try delta Hid at *); omega), by omega, by omega, (fun q => by (try delta Hid at *); omega), by omega⟩)) | exact Or.inr (Or.inr (Or.inr (Or.inl ⟨(by (try delta Hid at *); omega), by omega, (by (try delta Hid at *); omega), by omega, by omega⟩))) | exact Or.inr (Or.inr (Or.inr (Or.inr (⟨(by (try delta Hid at *); omega), by omega, (by (try delta Hid at *); omega), by omega, by omega⟩))))
            case g9p600 => exact fun q => (by exfalso; omega)
          · refine ⟨X13, Y14, rfl, hRX13, hFX13, hHY14, hCIX13, ?g9p601, ?g9p602, ?g9p603, ?g9p604⟩
            case g9p601 => omega
            case g9p602 => rw [hT17]; first | (have h9z : (z10 : Int) = -1 := (by omega); exact Or.inl ⟨(fun q => by (try delta Hid at *); omega), by omega⟩) | (have h9z : (z10 : Int) = -14 := (by omega); exact Or.inr (Or.inl ⟨(by (try delta Hid at *); omega), by omega, by omega⟩)) | (have h9z : (z10 : Int) = -17 := (by omega); exact Or.inr (Or.inr (Or.inl ⟨(by (try delta Hid at *); omega), by omega, by omega, (fun q => by (try delta Hid at *); omega), by omega⟩))) | (have h9z : (z10 : Int) = -4 := (by omega); exact Or.inr (Or.inr (Or.inr (Or.inl ⟨(by (try delta Hid at *); omega), by omega, (by (try delta Hid at *); omega), by omega, by omega⟩)))) | (have h9z : (z10 : Int) = 1 := (by omega); exact Or.inr (Or.inr (Or.inr (Or.inr (⟨(by (try delta Hid at *); omega), by omega, (by (try delta Hid at *); omega), by omega, by omega⟩))))) | exact Or.inl ⟨(fun q => by (try delta Hid at *); omega), by omega⟩ | exact Or.inr (Or.inl ⟨(by (try delta Hid at *); omega), by omega, by omega⟩) | exact Or.inr (Or.inr (Or.inl ⟨(by (try delta Hid at *); omega), by omega, by omega, (fun q => by (try delta Hid at *); omega), by omega⟩)) | exact Or.inr (Or.inr (Or.inr (Or.inl ⟨(by (try delta Hid at *); omega), by omega, (by (try delta Hid at *); omega), by omega, by omega⟩))) | exact Or.inr (Or.inr (Or.inr (Or.inr (⟨(by (try delta Hid at *); omega), by omega, (by (try delta Hid at *); omega), by omega, by omega⟩))))
            case g9p603 => exact fun q => (by exfalso; omega)
            case g9p604 => exact fun _ => (by rw [← ezz1]; exact ⟨c3, c4, c5, c6⟩)
        · refine lv_lload_n hx hb dX8_put_49 rfl (lv_at hl 5 rfl) ?_
          refine lv_ldc2 (v := jL (-1)) hx hb hown (hts (.constantLong RX8 88 (-1)) (by first | exact gj_X8_put_0 _ (gp_1 (gp_1 gp_h)) | decide +kernel)) dX8_put_50 ?_
          refine x_lcmp hx hb (by omega) (by omega) dX8_put_53 ?_
          obtain ⟨z19, ez19⟩ : ∃ y : Int, y = cmpZ v (-1) := ⟨_, rfl⟩
          rw [← ez19]
          have gz19 : (z19 < 0 ↔ (v : Int) < (-1)) ∧ (z19 = 0 ↔ (v : Int) = (-1)) ∧ -1 ≤ z19 ∧ z19 ≤ 1 := by rw [ez19]; exact ⟨cmpZ_lt, cmpZ_eq, (cmpZ_r _ _).1, (cmpZ_r _ _).2⟩
          clear ez19
          refine x_if_eq (tgt := 71) hx hb (by omega) dX8_put_54 (by decide) (fun c20 => ?_) (fun c20 => ?_)
          · replace c20 := cz_eqT gz19 c20
            clear gz19
            refine lv_aload_n hx hb dX8_put_71 rfl (lv_at hl 2 rfl) ?_
            refine lv_aload hx hb dX8_put_72 (lv_at hl 1 rfl) ?_
            refine lv_iload_n hx hb dX8_put_74 rfl (lv_at hl 4 rfl) ?_
            refine lv_lload_n hx hb dX8_put_75 rfl (lv_at hl 5 rfl) ?_
            refine gos_i (run_V (As := [.ref (ad 15 z1), .int (jI k), .long (jL v)]) (rest := []) hx hb hml hown hts (c_X8_changeValue l D tc base ad cnt X Y ln hR hFx hLn hCI z1 k v (by omega) (by omega) (by omega)) (cwV 3 hts gX8_put_X8_changeValue rfl rfl rfl (by first | exact hd_X8_changeValue | decide +kernel) ⟨Nat.le_of_ble_eq_true rfl, Nat.le_of_ble_eq_true rfl⟩) hK hw (by first | exact Int.le_refl 0 | omega) (by first | exact zlt hc0 | omega) sl_0_0 rfl rfl hl.1 rfl (Nat.le_of_ble_eq_true rfl) dX8_put_76 ⟨Nat.le_of_ble_eq_true rfl, Nat.le_of_ble_eq_true rfl⟩) hS (fun z21 u22 H locs p23 hw hS => ?_)
            obtain ⟨X24, Y25, eu22, hRX24, hG26, hJ27, hCIX24, p23, hcvX24⟩ := p23
            subst eu22
            have hFX24 : Frm [2802, 2803, 2902, 1600] X X24 := Frm.tr Frm.rf (Frm.mono hG26 (by first | exact nls_of rfl | decide))
            have hHY25 : Frm [2801, 2804] Y Y25 := Frm.tr Frm.rf (Frm.mono hJ27 (by first | exact nls_of rfl | decide))
            rw [hQ9]
            refine ret_i (mc := 0) (ms := 0) hx hb hr hlocks hw hS (by first | exact Nat.le_of_ble_eq_true rfl | omega) (by first | exact Nat.le_of_ble_eq_true rfl | omega) dX8_put_79 ?_
            have hT28 : tyo (Y 15 x 0) = r6 := by rw [← ezz1]; exact tyo_some y5
            have hk29 : k < X 19 r6 1 := h5p3 r6 (by rw [← ezz1]; exact y5)
            rcases hcvX24 with ⟨c1, c2, c3, c4⟩ | ⟨c1, c2, c3, c4, c5, c6⟩
            · refine ⟨X24, Y25, rfl, hRX24, hFX24, hHY25, hCIX24, ?g9p605, ?g9p606, fun _ => ⟨c3, c4⟩, ?g9p607⟩
              case g9p605 => omega
              case g9p606 => rw [hT28]; first | (have h9z : (z21 : Int) = -1 := (by omega); exact Or.inl ⟨(fun q => by (try delta Hid at *); omega), by omega⟩) | (have h9z : (z21 : Int) = -14 := (by omega); exact Or.inr (Or.inl ⟨(by (try delta Hid at *); omega), by omega, by omega⟩)) | (have h9z : (z21 : Int) = -17 := (by omega); exact Or.inr (Or.inr (Or.inl ⟨(by (try delta Hid at *); omega), by omega, by omega, (fun q => by (try delta Hid at *); omega), by omega⟩))) | (have h9z : (z21 : Int) = -4 := (by omega); exact Or.inr (Or.inr (Or.inr (Or.inl ⟨(by (try delta Hid at *); omega), by omega, (by (try delta Hid at *); omega), by omega, by omega⟩)))) | (have h9z : (z21 : Int) = 1 := (by omega); exact Or.inr (Or.inr (Or.inr (Or.inr (⟨(by (try delta Hid at *); omega), by omega, (by (try delta Hid at *); omega), by omega, by omega⟩))))) | exact Or.inl ⟨(fun q => by (try delta Hid at *); omega), by omega⟩ | exact Or.inr (Or.inl ⟨(by (try delta Hid at *); omega), by omega, by omega⟩) | exact Or.inr (Or.inr (Or.inl ⟨(by (try delta Hid at *); omega), by omega, by omega, (fun q => by (try delta Hid at *); omega), by omega⟩)) | exact Or.inr (Or.inr (Or.inr (Or.inl ⟨(by (try delta Hid at *); omega), by omega, (by (try delta Hid at *); omega), by omega, by omega⟩))) | exact Or.inr (Or.inr (Or.inr (Or.inr (⟨(by (try delta Hid at *); omega), by omega, (by (try delta Hid at *); omega), by omega, by omega⟩))))
              case g9p607 => exact fun q => (by exfalso; omega)
            · refine ⟨X24, Y25, rfl, hRX24, hFX24, hHY25, hCIX24, ?g9p608, ?g9p609, ?g9p610, ?g9p611⟩
              case g9p608 => omega
              case g9p609 => rw [hT28]; first | (have h9z : (z21 : Int) = -1 := (by omega); exact Or.inl ⟨(fun q => by (try delta Hid at *); omega), by omega⟩) | (have h9z : (z21 : Int) = -14 := (by omega); exact Or.inr (Or.inl ⟨(by (try delta Hid at *); omega), by omega, by omega⟩)) | (have h9z : (z21 : Int) = -17 := (by omega); exact Or.inr (Or.inr (Or.inl ⟨(by (try delta Hid at *); omega), by omega, by omega, (fun q => by (try delta Hid at *); omega), by omega⟩))) | (have h9z : (z21 : Int) = -4 := (by omega); exact Or.inr (Or.inr (Or.inr (Or.inl ⟨(by (try delta Hid at *); omega), by omega, (by (try delta Hid at *); omega), by omega, by omega⟩)))) | (have h9z : (z21 : Int) = 1 := (by omega); exact Or.inr (Or.inr (Or.inr (Or.inr (⟨(by (try delta Hid at *); omega), by omega, (by (try delta Hid at *); omega), by omega, by omega⟩))))) | exact Or.inl ⟨(fun q => by (try delta Hid at *); omega), by omega⟩ | exact Or.inr (Or.inl ⟨(by (try delta Hid at *); omega), by omega, by omega⟩) | exact Or.inr (Or.inr (Or.inl ⟨(by (try delta Hid at *); omega), by omega, by omega, (fun q => by (try delta Hid at *); omega), by omega⟩)) | exact Or.inr (Or.inr (Or.inr (Or.inl ⟨(by (try delta Hid at *); omega), by omega, (by (try delta Hid at *); omega), by omega, by omega⟩))) | exact Or.inr (Or.inr (Or.inr (Or.inr (⟨(by (try delta Hid at *); omega), by omega, (by (try delta Hid at *); omega), by omega, by omega⟩))))
              case g9p610 => exact fun q => (by exfalso; omega)
              case g9p611 => exact fun _ => (by rw [← ezz1]; exact ⟨c3, c4, c5, c6⟩)
          · replace c20 := cz_eqF gz19 c20
            clear gz19
            refine lv_aload_n hx hb dX8_put_57 rfl (lv_at hl 2 rfl) ?_
            refine lv_lload_n hx hb dX8_put_58 rfl (lv_at hl 5 rfl) ?_
            refine gos_i (run_V (As := [.long (jL v)]) (rest := []) hx hb hml hown hts (c_X8_isWordInUse l D tc base ad cnt X Y ln hR hFx hLn v (by omega)) (cwV 1 hts gX8_put_X8_isWordInUse rfl rfl rfl (by first | exact hd_X8_isWordInUse | decide +kernel) ⟨Nat.le_of_ble_eq_true rfl, Nat.le_of_ble_eq_true rfl⟩) hK hw (by first | exact Int.le_refl 0 | omega) (by first | exact zlt hc0 | omega) sl_0_0 rfl rfl hl.1 rfl (Nat.le_of_ble_eq_true rfl) dX8_put_59 ⟨Nat.le_of_ble_eq_true rfl, Nat.le_of_ble_eq_true rfl⟩) hS (fun z30 u31 H locs p32 hw hS => ?_)
            obtain ⟨eu31, p32⟩ := p32
            subst eu31
            rcases p32 with ⟨ez30, p32⟩ | ⟨ez30, p32⟩
            · subst ez30
              refine x_if_neT (tgt := 71) hx hb (by omega) (by decide) dX8_put_62 (by decide) ?_
              refine lv_aload_n hx hb dX8_put_71 rfl (lv_at hl 2 rfl) ?_
              refine lv_aload hx hb dX8_put_72 (lv_at hl 1 rfl) ?_
              refine lv_iload_n hx hb dX8_put_74 rfl (lv_at hl 4 rfl) ?_
              refine lv_lload_n hx hb dX8_put_75 rfl (lv_at hl 5 rfl) ?_
              refine gos_i (run_V (As := [.ref (ad 15 z1), .int (jI k), .long (jL v)]) (rest := []) hx hb hml hown hts (c_X8_changeValue l D tc base ad cnt X Y ln hR hFx hLn hCI z1 k v (by omega) (by omega) (by omega)) (cwV 3 hts gX8_put_X8_changeValue rfl rfl rfl (by first | exact hd_X8_changeValue | decide +kernel) ⟨Nat.le_of_ble_eq_true rfl, Nat.le_of_ble_eq_true rfl⟩) hK hw (by first | exact Int.le_refl 0 | omega) (by first | exact zlt hc0 | omega) sl_0_0 rfl rfl hl.1 rfl (Nat.le_of_ble_eq_true rfl) dX8_put_76 ⟨Nat.le_of_ble_eq_true rfl, Nat.le_of_ble_eq_true rfl⟩) hS (fun z33 u34 H locs p35 hw hS => ?_)
              obtain ⟨X36, Y37, eu34, hRX36, hG38, hJ39, hCIX36, p35, hcvX36⟩ := p35
              subst eu34
              have hFX36 : Frm [2802, 2803, 2902, 1600] X X36 := Frm.tr Frm.rf (Frm.mono hG38 (by first | exact nls_of rfl | decide))
              have hHY37 : Frm [2801, 2804] Y Y37 := Frm.tr Frm.rf (Frm.mono hJ39 (by first | exact nls_of rfl | decide))
              rw [hQ9]
              refine ret_i (mc := 0) (ms := 0) hx hb hr hlocks hw hS (by first | exact Nat.le_of_ble_eq_true rfl | omega) (by first | exact Nat.le_of_ble_eq_true rfl | omega) dX8_put_79 ?_
              have hT40 : tyo (Y 15 x 0) = r6 := by rw [← ezz1]; exact tyo_some y5
              have hk41 : k < X 19 r6 1 := h5p3 r6 (by rw [← ezz1]; exact y5)
              rcases hcvX36 with ⟨c1, c2, c3, c4⟩ | ⟨c1, c2, c3, c4, c5, c6⟩
              · refine ⟨X36, Y37, rfl, hRX36, hFX36, hHY37, hCIX36, ?g9p612, ?g9p613, fun _ => ⟨c3, c4⟩, ?g9p614⟩
                case g9p612 => omega
                case g9p613 => rw [hT40]; first | (have h9z : (z33 : Int) = -1 := (by omega); exact Or.inl ⟨(fun q => by (try delta Hid at *); omega), by omega⟩) | (have h9z : (z33 : Int) = -14 := (by omega); exact Or.inr (Or.inl ⟨(by (try delta Hid at *); omega), by omega, by omega⟩)) | (have h9z : (z33 : Int) = -17 := (by omega); exact Or.inr (Or.inr (Or.inl ⟨(by (try delta Hid at *); omega), by omega, by omega, (fun q => by (try delta Hid at *); omega), by omega⟩))) | (have h9z : (z33 : Int) = -4 := (by omega); exact Or.inr (Or.inr (Or.inr (Or.inl ⟨(by (try delta Hid at *); omega), by omega, (by (try delta Hid at *); omega), by omega, by omega⟩)))) | (have h9z : (z33 : Int) = 1 := (by omega); exact Or.inr (Or.inr (Or.inr (Or.inr (⟨(by (try delta Hid at *); omega), by omega, (by (try delta Hid at *); omega), by omega, by omega⟩))))) | exact Or.inl ⟨(fun q => by (try delta Hid at *); omega), by omega⟩ | exact Or.inr (Or.inl ⟨(by (try delta Hid at *); omega), by omega, by omega⟩) | exact Or.inr (Or.inr (Or.inl ⟨(by (try delta Hid at *); omega), by omega, by omega, (fun q => by (try delta Hid at *); omega), by omega⟩)) | exact Or.inr (Or.inr (Or.inr (Or.inl ⟨(by (try delta Hid at *); omega), by omega, (by (try delta Hid at *); omega), by omega, by omega⟩))) | exact Or.inr (Or.inr (Or.inr (Or.inr (⟨(by (try delta Hid at *); omega), by omega, (by (try delta Hid at *); omega), by omega, by omega⟩))))
                case g9p614 => exact fun q => (by exfalso; omega)
              · refine ⟨X36, Y37, rfl, hRX36, hFX36, hHY37, hCIX36, ?g9p615, ?g9p616, ?g9p617, ?g9p618⟩
                case g9p615 => omega
                case g9p616 => rw [hT40]; first | (have h9z : (z33 : Int) = -1 := (by omega); exact Or.inl ⟨(fun q => by (try delta Hid at *); omega), by omega⟩) | (have h9z : (z33 : Int) = -14 := (by omega); exact Or.inr (Or.inl ⟨(by (try delta Hid at *); omega), by omega, by omega⟩)) | (have h9z : (z33 : Int) = -17 := (by omega); exact Or.inr (Or.inr (Or.inl ⟨(by (try delta Hid at *); omega), by omega, by omega, (fun q => by (try delta Hid at *); omega), by omega⟩))) | (have h9z : (z33 : Int) = -4 := (by omega); exact Or.inr (Or.inr (Or.inr (Or.inl ⟨(by (try delta Hid at *); omega), by omega, (by (try delta Hid at *); omega), by omega, by omega⟩)))) | (have h9z : (z33 : Int) = 1 := (by omega); exact Or.inr (Or.inr (Or.inr (Or.inr (⟨(by (try delta Hid at *); omega), by omega, (by (try delta Hid at *); omega), by omega, by omega⟩))))) | exact Or.inl ⟨(fun q => by (try delta Hid at *); omega), by omega⟩ | exact Or.inr (Or.inl ⟨(by (try delta Hid at *); omega), by omega, by omega⟩) | exact Or.inr (Or.inr (Or.inl ⟨(by (try delta Hid at *); omega), by omega, by omega, (fun q => by (try delta Hid at *); omega), by omega⟩)) | exact Or.inr (Or.inr (Or.inr (Or.inl ⟨(by (try delta Hid at *); omega), by omega, (by (try delta Hid at *); omega), by omega, by omega⟩))) | exact Or.inr (Or.inr (Or.inr (Or.inr (⟨(by (try delta Hid at *); omega), by omega, (by (try delta Hid at *); omega), by omega, by omega⟩))))
                case g9p617 => exact fun q => (by exfalso; omega)
                case g9p618 => exact fun _ => (by rw [← ezz1]; exact ⟨c3, c4, c5, c6⟩)
            · subst ez30
              refine x_if_neF (tgt := 71) hx hb (by omega) (by decide) dX8_put_62 (by decide) ?_
              refine lv_bipush (v := jI 7) hx hb dX8_put_65 (by decide) ?_
              refine gos_i (run_S (As := [.int (jI 7)]) (rest := []) hx hb hml hown hts (c_X8_failed l D tc base ad cnt X Y ln 7 (by omega)) (cwS 1 hts gX8_put_X8_failed rfl rfl rfl (by first | exact hd_X8_failed | decide +kernel) ⟨Nat.le_of_ble_eq_true rfl, Nat.le_of_ble_eq_true rfl⟩) hK hw rfl hl.1 rfl (Nat.le_of_ble_eq_true rfl) dX8_put_67 ⟨Nat.le_of_ble_eq_true rfl, Nat.le_of_ble_eq_true rfl⟩) hS (fun z42 u43 H locs p44 hw hS => ?_)
              obtain ⟨eu43, p44⟩ := p44
              subst eu43
              rw [hQ9]
              refine ret_i (mc := 0) (ms := 0) hx hb hr hlocks hw hS (by first | exact Nat.le_of_ble_eq_true rfl | omega) (by first | exact Nat.le_of_ble_eq_true rfl | omega) dX8_put_70 ?_
              have hT45 : tyo (Y 15 x 0) = r6 := by rw [← ezz1]; exact tyo_some y5
              have hk46 : k < X 19 r6 1 := h5p3 r6 (by rw [← ezz1]; exact y5)
              refine ⟨X, Y, rfl, hR, Frm.rf, Frm.rf, hCI, ?g9p619, ?g9p620, fun _ => ⟨rfl, rfl⟩, ?g9p621⟩
              case g9p619 => omega
              case g9p620 => rw [hT45]; first | (have h9z : (z42 : Int) = -1 := (by omega); exact Or.inl ⟨(fun q => by (try delta Hid at *); omega), by omega⟩) | (have h9z : (z42 : Int) = -14 := (by omega); exact Or.inr (Or.inl ⟨(by (try delta Hid at *); omega), by omega, by omega⟩)) | (have h9z : (z42 : Int) = -17 := (by omega); exact Or.inr (Or.inr (Or.inl ⟨(by (try delta Hid at *); omega), by omega, by omega, (fun q => by (try delta Hid at *); omega), by omega⟩))) | (have h9z : (z42 : Int) = -4 := (by omega); exact Or.inr (Or.inr (Or.inr (Or.inl ⟨(by (try delta Hid at *); omega), by omega, (by (try delta Hid at *); omega), by omega, by omega⟩)))) | (have h9z : (z42 : Int) = 1 := (by omega); exact Or.inr (Or.inr (Or.inr (Or.inr (⟨(by (try delta Hid at *); omega), by omega, (by (try delta Hid at *); omega), by omega, by omega⟩))))) | exact Or.inl ⟨(fun q => by (try delta Hid at *); omega), by omega⟩ | exact Or.inr (Or.inl ⟨(by (try delta Hid at *); omega), by omega, by omega⟩) | exact Or.inr (Or.inr (Or.inl ⟨(by (try delta Hid at *); omega), by omega, by omega, (fun q => by (try delta Hid at *); omega), by omega⟩)) | exact Or.inr (Or.inr (Or.inr (Or.inl ⟨(by (try delta Hid at *); omega), by omega, (by (try delta Hid at *); omega), by omega, by omega⟩))) | exact Or.inr (Or.inr (Or.inr (Or.inr (⟨(by (try delta Hid at *); omega), by omega, (by (try delta Hid at *); omega), by omega, by omega⟩))))
              case g9p621 => exact fun q => (by exfalso; omega)
      · refine lv_iload hx hb dX8_put_32 (lv_at hl 0 rfl) ?_
        refine lv_iconst (v := jI 1) hx hb dX8_put_34 rfl ?_
        refine x_icmp_eq (tgt := 43) hx hb (by omega) (by omega) dX8_put_35 (by decide) (fun c47 => ?_) (fun c47 => ?_)
        · refine lv_iload hx hb dX8_put_43 (lv_at hl 0 rfl) ?_
          refine lv_iconst (v := jI 1) hx hb dX8_put_45 rfl ?_
          refine x_icmp_ne (tgt := 71) hx hb (by omega) (by omega) dX8_put_46 (by decide) (fun c48 => ?_) (fun c48 => ?_)
          · refine lv_aload_n hx hb dX8_put_71 rfl (lv_at hl 2 rfl) ?_
            refine lv_aload hx hb dX8_put_72 (lv_at hl 1 rfl) ?_
            refine lv_iload_n hx hb dX8_put_74 rfl (lv_at hl 4 rfl) ?_
            refine lv_lload_n hx hb dX8_put_75 rfl (lv_at hl 5 rfl) ?_
            refine gos_i (run_V (As := [.ref (ad 15 z1), .int (jI k), .long (jL v)]) (rest := []) hx hb hml hown hts (c_X8_changeValue l D tc base ad cnt X Y ln hR hFx hLn hCI z1 k v (by omega) (by omega) (by omega)) (cwV 3 hts gX8_put_X8_changeValue rfl rfl rfl (by first | exact hd_X8_changeValue | decide +kernel) ⟨Nat.le_of_ble_eq_true rfl, Nat.le_of_ble_eq_true rfl⟩) hK hw (by first | exact Int.le_refl 0 | omega) (by first | exact zlt hc0 | omega) sl_0_0 rfl rfl hl.1 rfl (Nat.le_of_ble_eq_true rfl) dX8_put_76 ⟨Nat.le_of_ble_eq_true rfl, Nat.le_of_ble_eq_true rfl⟩) hS (fun z49 u50 H locs p51 hw hS => ?_)
            obtain ⟨X52, Y53, eu50, hRX52, hG54, hJ55, hCIX52, p51, hcvX52⟩ := p51
            subst eu50
            have hFX52 : Frm [2802, 2803, 2902, 1600] X X52 := Frm.tr Frm.rf (Frm.mono hG54 (by first | exact nls_of rfl | decide))
            have hHY53 : Frm [2801, 2804] Y Y53 := Frm.tr Frm.rf (Frm.mono hJ55 (by first | exact nls_of rfl | decide))
            rw [hQ9]
            refine ret_i (mc := 0) (ms := 0) hx hb hr hlocks hw hS (by first | exact Nat.le_of_ble_eq_true rfl | omega) (by first | exact Nat.le_of_ble_eq_true rfl | omega) dX8_put_79 ?_
            have hT56 : tyo (Y 15 x 0) = r6 := by rw [← ezz1]; exact tyo_some y5
            have hk57 : k < X 19 r6 1 := h5p3 r6 (by rw [← ezz1]; exact y5)
            rcases hcvX52 with ⟨c1, c2, c3, c4⟩ | ⟨c1, c2, c3, c4, c5, c6⟩
            · refine ⟨X52, Y53, rfl, hRX52, hFX52, hHY53, hCIX52, ?g9p622, ?g9p623, fun _ => ⟨c3, c4⟩, ?g9p624⟩
              case g9p622 => omega
              case g9p623 => rw [hT56]; first | (have h9z : (z49 : Int) = -1 := (by omega); exact Or.inl ⟨(fun q => by (try delta Hid at *); omega), by omega⟩) | (have h9z : (z49 : Int) = -14 := (by omega); exact Or.inr (Or.inl ⟨(by (try delta Hid at *); omega), by omega, by omega⟩)) | (have h9z : (z49 : Int) = -17 := (by omega); exact Or.inr (Or.inr (Or.inl ⟨(by (try delta Hid at *); omega), by omega, by omega, (fun q => by (try delta Hid at *); omega), by omega⟩))) | (have h9z : (z49 : Int) = -4 := (by omega); exact Or.inr (Or.inr (Or.inr (Or.inl ⟨(by (try delta Hid at *); omega), by omega, (by (try delta Hid at *); omega), by omega, by omega⟩)))) | (have h9z : (z49 : Int) = 1 := (by omega); exact Or.inr (Or.inr (Or.inr (Or.inr (⟨(by (try delta Hid at *); omega), by omega, (by (try delta Hid at *); omega), by omega, by omega⟩))))) | exact Or.inl ⟨(fun q => by (try delta Hid at *); omega), by omega⟩ | exact Or.inr (Or.inl ⟨(by (try delta Hid at *); omega), by omega, by omega⟩) | exact Or.inr (Or.inr (Or.inl ⟨(by (try delta Hid at *); omega), by omega, by omega, (fun q => by (try delta Hid at *); omega), by omega⟩)) | exact Or.inr (Or.inr (Or.inr (Or.inl ⟨(by (try delta Hid at *); omega), by omega, (by (try delta Hid at *); omega), by omega, by omega⟩))) | exact Or.inr (Or.inr (Or.inr (Or.inr (⟨(by (try delta Hid at *); omega), by omega, (by (try delta Hid at *); omega), by omega, by omega⟩))))
              case g9p624 => exact fun q => (by exfalso; omega)
            · refine ⟨X52, Y53, rfl, hRX52, hFX52, hHY53, hCIX52, ?g9p625, ?g9p626, ?g9p627, ?g9p628⟩
              case g9p625 => omega
              case g9p626 => rw [hT56]; first | (have h9z : (z49 : Int) = -1 := (by omega); exact Or.inl ⟨(fun q => by (try delta Hid at *); omega), by omega⟩) | (have h9z : (z49 : Int) = -14 := (by omega); exact Or.inr (Or.inl ⟨(by (try delta Hid at *); omega), by omega, by omega⟩)) | (have h9z : (z49 : Int) = -17 := (by omega); exact Or.inr (Or.inr (Or.inl ⟨(by (try delta Hid at *); omega), by omega, by omega, (fun q => by (try delta Hid at *); omega), by omega⟩))) | (have h9z : (z49 : Int) = -4 := (by omega); exact Or.inr (Or.inr (Or.inr (Or.inl ⟨(by (try delta Hid at *); omega), by omega, (by (try delta Hid at *); omega), by omega, by omega⟩)))) | (have h9z : (z49 : Int) = 1 := (by omega); exact Or.inr (Or.inr (Or.inr (Or.inr (⟨(by (try delta Hid at *); omega), by omega, (by (try delta Hid at *); omega), by omega, by omega⟩))))) | exact Or.inl ⟨(fun q => by (try delta Hid at *); omega), by omega⟩ | exact Or.inr (Or.inl ⟨(by (try delta Hid at *); omega), by omega, by omega⟩) | exact Or.inr (Or.inr (Or.inl ⟨(by (try delta Hid at *); omega), by omega, by omega, (fun q => by (try delta Hid at *); omega), by omega⟩)) | exact Or.inr (Or.inr (Or.inr (Or.inl ⟨(by (try delta Hid at *); omega), by omega, (by (try delta Hid at *); omega), by omega, by omega⟩))) | exact Or.inr (Or.inr (Or.inr (Or.inr (⟨(by (try delta Hid at *); omega), by omega, (by (try delta Hid at *); omega), by omega, by omega⟩))))
              case g9p627 => exact fun q => (by exfalso; omega)
              case g9p628 => exact fun _ => (by rw [← ezz1]; exact ⟨c3, c4, c5, c6⟩)
          · refine lv_lload_n hx hb dX8_put_49 rfl (lv_at hl 5 rfl) ?_
            refine lv_ldc2 (v := jL (-1)) hx hb hown (hts (.constantLong RX8 88 (-1)) (by first | exact gj_X8_put_0 _ (gp_1 (gp_1 gp_h)) | decide +kernel)) dX8_put_50 ?_
            refine x_lcmp hx hb (by omega) (by omega) dX8_put_53 ?_
            obtain ⟨z58, ez58⟩ : ∃ y : Int, y = cmpZ v (-1) := ⟨_, rfl⟩
            rw [← ez58]
            have gz58 : (z58 < 0 ↔ (v : Int) < (-1)) ∧ (z58 = 0 ↔ (v : Int) = (-1)) ∧ -1 ≤ z58 ∧ z58 ≤ 1 := by rw [ez58]; exact ⟨cmpZ_lt, cmpZ_eq, (cmpZ_r _ _).1, (cmpZ_r _ _).2⟩
            clear ez58
            refine x_if_eq (tgt := 71) hx hb (by omega) dX8_put_54 (by decide) (fun c59 => ?_) (fun c59 => ?_)
            · replace c59 := cz_eqT gz58 c59
              clear gz58
              refine lv_aload_n hx hb dX8_put_71 rfl (lv_at hl 2 rfl) ?_
              refine lv_aload hx hb dX8_put_72 (lv_at hl 1 rfl) ?_
              refine lv_iload_n hx hb dX8_put_74 rfl (lv_at hl 4 rfl) ?_
              refine lv_lload_n hx hb dX8_put_75 rfl (lv_at hl 5 rfl) ?_
              refine gos_i (run_V (As := [.ref (ad 15 z1), .int (jI k), .long (jL v)]) (rest := []) hx hb hml hown hts (c_X8_changeValue l D tc base ad cnt X Y ln hR hFx hLn hCI z1 k v (by omega) (by omega) (by omega)) (cwV 3 hts gX8_put_X8_changeValue rfl rfl rfl (by first | exact hd_X8_changeValue | decide +kernel) ⟨Nat.le_of_ble_eq_true rfl, Nat.le_of_ble_eq_true rfl⟩) hK hw (by first | exact Int.le_refl 0 | omega) (by first | exact zlt hc0 | omega) sl_0_0 rfl rfl hl.1 rfl (Nat.le_of_ble_eq_true rfl) dX8_put_76 ⟨Nat.le_of_ble_eq_true rfl, Nat.le_of_ble_eq_true rfl⟩) hS (fun z60 u61 H locs p62 hw hS => ?_)
              obtain ⟨X63, Y64, eu61, hRX63, hG65, hJ66, hCIX63, p62, hcvX63⟩ := p62
              subst eu61
              have hFX63 : Frm [2802, 2803, 2902, 1600] X X63 := Frm.tr Frm.rf (Frm.mono hG65 (by first | exact nls_of rfl | decide))
              have hHY64 : Frm [2801, 2804] Y Y64 := Frm.tr Frm.rf (Frm.mono hJ66 (by first | exact nls_of rfl | decide))
              rw [hQ9]
              refine ret_i (mc := 0) (ms := 0) hx hb hr hlocks hw hS (by first | exact Nat.le_of_ble_eq_true rfl | omega) (by first | exact Nat.le_of_ble_eq_true rfl | omega) dX8_put_79 ?_
              have hT67 : tyo (Y 15 x 0) = r6 := by rw [← ezz1]; exact tyo_some y5
              have hk68 : k < X 19 r6 1 := h5p3 r6 (by rw [← ezz1]; exact y5)
              rcases hcvX63 with ⟨c1, c2, c3, c4⟩ | ⟨c1, c2, c3, c4, c5, c6⟩
              · refine ⟨X63, Y64, rfl, hRX63, hFX63, hHY64, hCIX63, ?g9p629, ?g9p630, fun _ => ⟨c3, c4⟩, ?g9p631⟩
                case g9p629 => omega
                case g9p630 => rw [hT67]; first | (have h9z : (z60 : Int) = -1 := (by omega); exact Or.inl ⟨(fun q => by (try delta Hid at *); omega), by omega⟩) | (have h9z : (z60 : Int) = -14 := (by omega); exact Or.inr (Or.inl ⟨(by (try delta Hid at *); omega), by omega, by omega⟩)) | (have h9z : (z60 : Int) = -17 := (by omega); exact Or.inr (Or.inr (Or.inl ⟨(by (try delta Hid at *); omega), by omega, by omega, (fun q => by (try delta Hid at *); omega), by omega⟩))) | (have h9z : (z60 : Int) = -4 := (by omega); exact Or.inr (Or.inr (Or.inr (Or.inl ⟨(by (try delta Hid at *); omega), by omega, (by (try delta Hid at *); omega), by omega, by omega⟩)))) | (have h9z : (z60 : Int) = 1 := (by omega); exact Or.inr (Or.inr (Or.inr (Or.inr (⟨(by (try delta Hid at *); omega), by omega, (by (try delta Hid at *); omega), by omega, by omega⟩))))) | exact Or.inl ⟨(fun q => by (try delta Hid at *); omega), by omega⟩ | exact Or.inr (Or.inl ⟨(by (try delta Hid at *); omega), by omega, by omega⟩) | exact Or.inr (Or.inr (Or.inl ⟨(by (try delta Hid at *); omega), by omega, by omega, (fun q => by (try delta Hid at *); omega), by omega⟩)) | exact Or.inr (Or.inr (Or.inr (Or.inl ⟨(by (try delta Hid at *); omega), by omega, (by (try delta Hid at *); omega), by omega, by omega⟩))) | exact Or.inr (Or.inr (Or.inr (Or.inr (⟨(by (try delta Hid at *); omega), by omega, (by (try delta Hid at *); omega), by omega, by omega⟩))))
                case g9p631 => exact fun q => (by exfalso; omega)
              · refine ⟨X63, Y64, rfl, hRX63, hFX63, hHY64, hCIX63, ?g9p632, ?g9p633, ?g9p634, ?g9p635⟩
                case g9p632 => omega
                case g9p633 => rw [hT67]; first | (have h9z : (z60 : Int) = -1 := (by omega); exact Or.inl ⟨(fun q => by (try delta Hid at *); omega), by omega⟩) | (have h9z : (z60 : Int) = -14 := (by omega); exact Or.inr (Or.inl ⟨(by (try delta Hid at *); omega), by omega, by omega⟩)) | (have h9z : (z60 : Int) = -17 := (by omega); exact Or.inr (Or.inr (Or.inl ⟨(by (try delta Hid at *); omega), by omega, by omega, (fun q => by (try delta Hid at *); omega), by omega⟩))) | (have h9z : (z60 : Int) = -4 := (by omega); exact Or.inr (Or.inr (Or.inr (Or.inl ⟨(by (try delta Hid at *); omega), by omega, (by (try delta Hid at *); omega), by omega, by omega⟩)))) | (have h9z : (z60 : Int) = 1 := (by omega); exact Or.inr (Or.inr (Or.inr (Or.inr (⟨(by (try delta Hid at *); omega), by omega, (by (try delta Hid at *); omega), by omega, by omega⟩))))) | exact Or.inl ⟨(fun q => by (try delta Hid at *); omega), by omega⟩ | exact Or.inr (Or.inl ⟨(by (try delta Hid at *); omega), by omega, by omega⟩) | exact Or.inr (Or.inr (Or.inl ⟨(by (try delta Hid at *); omega), by omega, by omega, (fun q => by (try delta Hid at *); omega), by omega⟩)) | exact Or.inr (Or.inr (Or.inr (Or.inl ⟨(by (try delta Hid at *); omega), by omega, (by (try delta Hid at *); omega), by omega, by omega⟩))) | exact Or.inr (Or.inr (Or.inr (Or.inr (⟨(by (try delta Hid at *); omega), by omega, (by (try delta Hid at *); omega), by omega, by omega⟩))))
                case g9p634 => exact fun q => (by exfalso; omega)
                case g9p635 => exact fun _ => (by rw [← ezz1]; exact ⟨c3, c4, c5, c6⟩)
            · replace c59 := cz_eqF gz58 c59
              clear gz58
              refine lv_aload_n hx hb dX8_put_57 rfl (lv_at hl 2 rfl) ?_
              refine lv_lload_n hx hb dX8_put_58 rfl (lv_at hl 5 rfl) ?_
              refine gos_i (run_V (As := [.long (jL v)]) (rest := []) hx hb hml hown hts (c_X8_isWordInUse l D tc base ad cnt X Y ln hR hFx hLn v (by omega)) (cwV 1 hts gX8_put_X8_isWordInUse rfl rfl rfl (by first | exact hd_X8_isWordInUse | decide +kernel) ⟨Nat.le_of_ble_eq_true rfl, Nat.le_of_ble_eq_true rfl⟩) hK hw (by first | exact Int.le_refl 0 | omega) (by first | exact zlt hc0 | omega) sl_0_0 rfl rfl hl.1 rfl (Nat.le_of_ble_eq_true rfl) dX8_put_59 ⟨Nat.le_of_ble_eq_true rfl, Nat.le_of_ble_eq_true rfl⟩) hS (fun z69 u70 H locs p71 hw hS => ?_)
              obtain ⟨eu70, p71⟩ := p71
              subst eu70
              rcases p71 with ⟨ez69, p71⟩ | ⟨ez69, p71⟩
              · subst ez69
                refine x_if_neT (tgt := 71) hx hb (by omega) (by decide) dX8_put_62 (by decide) ?_
                refine lv_aload_n hx hb dX8_put_71 rfl (lv_at hl 2 rfl) ?_
                refine lv_aload hx hb dX8_put_72 (lv_at hl 1 rfl) ?_
                refine lv_iload_n hx hb dX8_put_74 rfl (lv_at hl 4 rfl) ?_
                refine lv_lload_n hx hb dX8_put_75 rfl (lv_at hl 5 rfl) ?_
                refine gos_i (run_V (As := [.ref (ad 15 z1), .int (jI k), .long (jL v)]) (rest := []) hx hb hml hown hts (c_X8_changeValue l D tc base ad cnt X Y ln hR hFx hLn hCI z1 k v (by omega) (by omega) (by omega)) (cwV 3 hts gX8_put_X8_changeValue rfl rfl rfl (by first | exact hd_X8_changeValue | decide +kernel) ⟨Nat.le_of_ble_eq_true rfl, Nat.le_of_ble_eq_true rfl⟩) hK hw (by first | exact Int.le_refl 0 | omega) (by first | exact zlt hc0 | omega) sl_0_0 rfl rfl hl.1 rfl (Nat.le_of_ble_eq_true rfl) dX8_put_76 ⟨Nat.le_of_ble_eq_true rfl, Nat.le_of_ble_eq_true rfl⟩) hS (fun z72 u73 H locs p74 hw hS => ?_)
                obtain ⟨X75, Y76, eu73, hRX75, hG77, hJ78, hCIX75, p74, hcvX75⟩ := p74
                subst eu73
                have hFX75 : Frm [2802, 2803, 2902, 1600] X X75 := Frm.tr Frm.rf (Frm.mono hG77 (by first | exact nls_of rfl | decide))
                have hHY76 : Frm [2801, 2804] Y Y76 := Frm.tr Frm.rf (Frm.mono hJ78 (by first | exact nls_of rfl | decide))
                rw [hQ9]
                refine ret_i (mc := 0) (ms := 0) hx hb hr hlocks hw hS (by first | exact Nat.le_of_ble_eq_true rfl | omega) (by first | exact Nat.le_of_ble_eq_true rfl | omega) dX8_put_79 ?_
                have hT79 : tyo (Y 15 x 0) = r6 := by rw [← ezz1]; exact tyo_some y5
                have hk80 : k < X 19 r6 1 := h5p3 r6 (by rw [← ezz1]; exact y5)
                rcases hcvX75 with ⟨c1, c2, c3, c4⟩ | ⟨c1, c2, c3, c4, c5, c6⟩
                · refine ⟨X75, Y76, rfl, hRX75, hFX75, hHY76, hCIX75, ?g9p636, ?g9p637, fun _ => ⟨c3, c4⟩, ?g9p638⟩
                  case g9p636 => omega
                  case g9p637 => rw [hT79]; first | (have h9z : (z72 : Int) = -1 := (by omega); exact Or.inl ⟨(fun q => by (try delta Hid at *); omega), by omega⟩) | (have h9z : (z72 : Int) = -14 := (by omega); exact Or.inr (Or.inl ⟨(by (try delta Hid at *); omega), by omega, by omega⟩)) | (have h9z : (z72 : Int) = -17 := (by omega); exact Or.inr (Or.inr (Or.inl ⟨(by (try delta Hid at *); omega), by omega, by omega, (fun q => by (try delta Hid at *); omega), by omega⟩))) | (have h9z : (z72 : Int) = -4 := (by omega); exact Or.inr (Or.inr (Or.inr (Or.inl ⟨(by (try delta Hid at *); omega), by omega, (by (try delta Hid at *); omega), by omega, by omega⟩)))) | (have h9z : (z72 : Int) = 1 := (by omega); exact Or.inr (Or.inr (Or.inr (Or.inr (⟨(by (try delta Hid at *); omega), by omega, (by (try delta Hid at *); omega), by omega, by omega⟩))))) | exact Or.inl ⟨(fun q => by (try delta Hid at *); omega), by omega⟩ | exact Or.inr (Or.inl ⟨(by (try delta Hid at *); omega), by omega, by omega⟩) | exact Or.inr (Or.inr (Or.inl ⟨(by (try delta Hid at *); omega), by omega, by omega, (fun q => by (try delta Hid at *); omega), by omega⟩)) | exact Or.inr (Or.inr (Or.inr (Or.inl ⟨(by (try delta Hid at *); omega), by omega, (by (try delta Hid at *); omega), by omega, by omega⟩))) | exact Or.inr (Or.inr (Or.inr (Or.inr (⟨(by (try delta Hid at *); omega), by omega, (by (try delta Hid at *); omega), by omega, by omega⟩))))
                  case g9p638 => exact fun q => (by exfalso; omega)
                · refine ⟨X75, Y76, rfl, hRX75, hFX75, hHY76, hCIX75, ?g9p639, ?g9p640, ?g9p641, ?g9p642⟩
                  case g9p639 => omega
                  case g9p640 => rw [hT79]; first | (have h9z : (z72 : Int) = -1 := (by omega); exact Or.inl ⟨(fun q => by (try delta Hid at *); omega), by omega⟩) | (have h9z : (z72 : Int) = -14 := (by omega); exact Or.inr (Or.inl ⟨(by (try delta Hid at *); omega), by omega, by omega⟩)) | (have h9z : (z72 : Int) = -17 := (by omega); exact Or.inr (Or.inr (Or.inl ⟨(by (try delta Hid at *); omega), by omega, by omega, (fun q => by (try delta Hid at *); omega), by omega⟩))) | (have h9z : (z72 : Int) = -4 := (by omega); exact Or.inr (Or.inr (Or.inr (Or.inl ⟨(by (try delta Hid at *); omega), by omega, (by (try delta Hid at *); omega), by omega, by omega⟩)))) | (have h9z : (z72 : Int) = 1 := (by omega); exact Or.inr (Or.inr (Or.inr (Or.inr (⟨(by (try delta Hid at *); omega), by omega, (by (try delta Hid at *); omega), by omega, by omega⟩))))) | exact Or.inl ⟨(fun q => by (try delta Hid at *); omega), by omega⟩ | exact Or.inr (Or.inl ⟨(by (try delta Hid at *); omega), by omega, by omega⟩) | exact Or.inr (Or.inr (Or.inl ⟨(by (try delta Hid at *); omega), by omega, by omega, (fun q => by (try delta Hid at *); omega), by omega⟩)) | exact Or.inr (Or.inr (Or.inr (Or.inl ⟨(by (try delta Hid at *); omega), by omega, (by (try delta Hid at *); omega), by omega, by omega⟩))) | exact Or.inr (Or.inr (Or.inr (Or.inr (⟨(by (try delta Hid at *); omega), by omega, (by (try delta Hid at *); omega), by omega, by omega⟩))))
                  case g9p641 => exact fun q => (by exfalso; omega)
                  case g9p642 => exact fun _ => (by rw [← ezz1]; exact ⟨c3, c4, c5, c6⟩)
              · subst ez69
                refine x_if_neF (tgt := 71) hx hb (by omega) (by decide) dX8_put_62 (by decide) ?_
                refine lv_bipush (v := jI 7) hx hb dX8_put_65 (by decide) ?_
                refine gos_i (run_S (As := [.int (jI 7)]) (rest := []) hx hb hml hown hts (c_X8_failed l D tc base ad cnt X Y ln 7 (by omega)) (cwS 1 hts gX8_put_X8_failed rfl rfl rfl (by first | exact hd_X8_failed | decide +kernel) ⟨Nat.le_of_ble_eq_true rfl, Nat.le_of_ble_eq_true rfl⟩) hK hw rfl hl.1 rfl (Nat.le_of_ble_eq_true rfl) dX8_put_67 ⟨Nat.le_of_ble_eq_true rfl, Nat.le_of_ble_eq_true rfl⟩) hS (fun z81 u82 H locs p83 hw hS => ?_)
                obtain ⟨eu82, p83⟩ := p83
                subst eu82
                rw [hQ9]
                refine ret_i (mc := 0) (ms := 0) hx hb hr hlocks hw hS (by first | exact Nat.le_of_ble_eq_true rfl | omega) (by first | exact Nat.le_of_ble_eq_true rfl | omega) dX8_put_70 ?_
                have hT84 : tyo (Y 15 x 0) = r6 := by rw [← ezz1]; exact tyo_some y5
                have hk85 : k < X 19 r6 1 := h5p3 r6 (by rw [← ezz1]; exact y5)
                refine ⟨X, Y, rfl, hR, Frm.rf, Frm.rf, hCI, ?g9p643, ?g9p644, fun _ => ⟨rfl, rfl⟩, ?g9p645⟩
                case g9p643 => omega
                case g9p644 => rw [hT84]; first | (have h9z : (z81 : Int) = -1 := (by omega); exact Or.inl ⟨(fun q => by (try delta Hid at *); omega), by omega⟩) | (have h9z : (z81 : Int) = -14 := (by omega); exact Or.inr (Or.inl ⟨(by (try delta Hid at *); omega), by omega, by omega⟩)) | (have h9z : (z81 : Int) = -17 := (by omega); exact Or.inr (Or.inr (Or.inl ⟨(by (try delta Hid at *); omega), by omega, by omega, (fun q => by (try delta Hid at *); omega), by omega⟩))) | (have h9z : (z81 : Int) = -4 := (by omega); exact Or.inr (Or.inr (Or.inr (Or.inl ⟨(by (try delta Hid at *); omega), by omega, (by (try delta Hid at *); omega), by omega, by omega⟩)))) | (have h9z : (z81 : Int) = 1 := (by omega); exact Or.inr (Or.inr (Or.inr (Or.inr (⟨(by (try delta Hid at *); omega), by omega, (by (try delta Hid at *); omega), by omega, by omega⟩))))) | exact Or.inl ⟨(fun q => by (try delta Hid at *); omega), by omega⟩ | exact Or.inr (Or.inl ⟨(by (try delta Hid at *); omega), by omega, by omega⟩) | exact Or.inr (Or.inr (Or.inl ⟨(by (try delta Hid at *); omega), by omega, by omega, (fun q => by (try delta Hid at *); omega), by omega⟩)) | exact Or.inr (Or.inr (Or.inr (Or.inl ⟨(by (try delta Hid at *); omega), by omega, (by (try delta Hid at *); omega), by omega, by omega⟩))) | exact Or.inr (Or.inr (Or.inr (Or.inr (⟨(by (try delta Hid at *); omega), by omega, (by (try delta Hid at *); omega), by omega, by omega⟩))))
                case g9p645 => exact fun q => (by exfalso; omega)
        · refine lv_iconst (v := jI 4) hx hb dX8_put_38 rfl ?_
          refine gos_i (run_S (As := [.int (jI 4)]) (rest := []) hx hb hml hown hts (c_X8_failed l D tc base ad cnt X Y ln 4 (by omega)) (cwS 1 hts gX8_put_X8_failed rfl rfl rfl (by first | exact hd_X8_failed | decide +kernel) ⟨Nat.le_of_ble_eq_true rfl, Nat.le_of_ble_eq_true rfl⟩) hK hw rfl hl.1 rfl (Nat.le_of_ble_eq_true rfl) dX8_put_39 ⟨Nat.le_of_ble_eq_true rfl, Nat.le_of_ble_eq_true rfl⟩) hS (fun z86 u87 H locs p88 hw hS => ?_)
          obtain ⟨eu87, p88⟩ := p88
          subst eu87
          rw [hQ9]
          refine ret_i (mc := 0) (ms := 0) hx hb hr hlocks hw hS (by first | exact Nat.le_of_ble_eq_true rfl | omega) (by first | exact Nat.le_of_ble_eq_true rfl | omega) dX8_put_42 ?_
          have hT89 : tyo (Y 15 x 0) = r6 := by rw [← ezz1]; exact tyo_some y5
          have hk90 : k < X 19 r6 1 := h5p3 r6 (by rw [← ezz1]; exact y5)
          refine ⟨X, Y, rfl, hR, Frm.rf, Frm.rf, hCI, ?g9p646, ?g9p647, fun _ => ⟨rfl, rfl⟩, ?g9p648⟩
          case g9p646 => omega
          case g9p647 => rw [hT89]; first | (have h9z : (z86 : Int) = -1 := (by omega); exact Or.inl ⟨(fun q => by (try delta Hid at *); omega), by omega⟩) | (have h9z : (z86 : Int) = -14 := (by omega); exact Or.inr (Or.inl ⟨(by (try delta Hid at *); omega), by omega, by omega⟩)) | (have h9z : (z86 : Int) = -17 := (by omega); exact Or.inr (Or.inr (Or.inl ⟨(by (try delta Hid at *); omega), by omega, by omega, (fun q => by (try delta Hid at *); omega), by omega⟩))) | (have h9z : (z86 : Int) = -4 := (by omega); exact Or.inr (Or.inr (Or.inr (Or.inl ⟨(by (try delta Hid at *); omega), by omega, (by (try delta Hid at *); omega), by omega, by omega⟩)))) | (have h9z : (z86 : Int) = 1 := (by omega); exact Or.inr (Or.inr (Or.inr (Or.inr (⟨(by (try delta Hid at *); omega), by omega, (by (try delta Hid at *); omega), by omega, by omega⟩))))) | exact Or.inl ⟨(fun q => by (try delta Hid at *); omega), by omega⟩ | exact Or.inr (Or.inl ⟨(by (try delta Hid at *); omega), by omega, by omega⟩) | exact Or.inr (Or.inr (Or.inl ⟨(by (try delta Hid at *); omega), by omega, by omega, (fun q => by (try delta Hid at *); omega), by omega⟩)) | exact Or.inr (Or.inr (Or.inr (Or.inl ⟨(by (try delta Hid at *); omega), by omega, (by (try delta Hid at *); omega), by omega, by omega⟩))) | exact Or.inr (Or.inr (Or.inr (Or.inr (⟨(by (try delta Hid at *); omega), by omega, (by (try delta Hid at *); omega), by omega, by omega⟩))))
          case g9p648 => exact fun q => (by exfalso; omega)

set_option maxHeartbeats 4000000 in
set_option maxRecDepth 100000 in
theorem c_X8_refer (l : Launch) (D : va_G) (tc : Nat → ClassId) (base : Nat) (ad : Nat → Int → Nat) (cnt : Nat → Int) (X : Nat → Int → Int → Int) (Y : Nat → Int → Int → Option Int) (ln : Int → Int) (hR : Rng X) (hFx : Fx cnt) (hLn : LnOK ln) (hCI : CInv cnt X Y ln) (x k y : Int) (hx : -2147483648 ≤ x ∧ x ≤ 2147483647) (hk : -2147483648 ≤ k ∧ k ≤ 2147483647) (hy : -2147483648 ≤ y ∧ y ≤ 2147483647) : KI l D tc base yX8_refer wsX8_refer ({ frames := 4, cells := 0, slots := 0, locals := 92 } : Room) [.ref (ad 0 0), .int (jI x), .int (jI k), .int (jI y)] (ad, cnt, X, Y, ln) 0 0 (fun z u => ∃ (X1 : Nat → Int → Int → Int) (Y1 : Nat → Int → Int → Option Int), u = (ad, cnt, X1, Y1, ln) ∧ Rng X1 ∧ Frm [2802, 2803, 2902, 1600] X X1 ∧ Frm [2801, 2804] Y Y1 ∧ CInv cnt X1 Y1 ln ∧ (-2147483648 ≤ z ∧ z ≤ 2147483647) ∧ ((¬ ((0 ≤ x ∧ x < X 0 0 3 ∧ 0 ≤ k ∧ k < X 19 (tyo (Y 15 x 0)) 1) ∧ (y = -1 ∨ (0 ≤ y ∧ y < X 0 0 3))) ∧ z = -1) ∨ ((0 ≤ x ∧ x < X 0 0 3 ∧ 0 ≤ k ∧ k < X 19 (tyo (Y 15 x 0)) 1) ∧ (y = -1 ∨ (0 ≤ y ∧ y < X 0 0 3)) ∧ X 21 (tyo (Y 15 x 0)) k ≠ 2 ∧ z = -14) ∨ ((0 ≤ x ∧ x < X 0 0 3 ∧ 0 ≤ k ∧ k < X 19 (tyo (Y 15 x 0)) 1) ∧ (y = -1 ∨ (0 ≤ y ∧ y < X 0 0 3)) ∧ X 21 (tyo (Y 15 x 0)) k = 2 ∧ 80 ≤ X 29 0 1 ∧ z = -4) ∨ ((0 ≤ x ∧ x < X 0 0 3 ∧ 0 ≤ k ∧ k < X 19 (tyo (Y 15 x 0)) 1) ∧ (y = -1 ∨ (0 ≤ y ∧ y < X 0 0 3)) ∧ X 21 (tyo (Y 15 x 0)) k = 2 ∧ X 29 0 1 ≤ 79 ∧ z = 1)) ∧ (z < 0 → X1 = X ∧ Y1 = Y) ∧ (z = 1 → eNoteC X X1 Y Y1 (some x) k (X 16 x k) (Y 17 x k) ∧ X1 16 x k = y ∧ (∀ p j, ¬ (p = x ∧ j = k) → X1 16 p j = X 16 p j) ∧ ∀ p j, Y1 17 p j = Y 17 p j)) := by
  refine K_of (cc := cX8_refer) (maxL := 5) (ret := (some .int)) (by decide) rfl (Nat.le_of_ble_eq_true rfl) ?_
  intro p e s m below meth c ls hx hb hr hml hown hts hlocks hl hK hw hS
  have hown : s.vm.findClass RX8 = some m.cls := hown
  obtain ⟨av9, hav9⟩ : ∃ a9 : Array Value, a9 = ([.ref (ad 0 0), .int (jI x), .int (jI k), .int (jI y)] : List Value).toArray := ⟨_, rfl⟩
  rw [← hav9] at hts ⊢
  obtain ⟨Q9, hQ9⟩ : ∃ q9Q : State → Prop, q9Q = MQ below (QI D tc base (fun z u => ∃ (X1 : Nat → Int → Int → Int) (Y1 : Nat → Int → Int → Option Int), u = (ad, cnt, X1, Y1, ln) ∧ Rng X1 ∧ Frm [2802, 2803, 2902, 1600] X X1 ∧ Frm [2801, 2804] Y Y1 ∧ CInv cnt X1 Y1 ln ∧ (-2147483648 ≤ z ∧ z ≤ 2147483647) ∧ ((¬ ((0 ≤ x ∧ x < X 0 0 3 ∧ 0 ≤ k ∧ k < X 19 (tyo (Y 15 x 0)) 1) ∧ (y = -1 ∨ (0 ≤ y ∧ y < X 0 0 3))) ∧ z = -1) ∨ ((0 ≤ x ∧ x < X 0 0 3 ∧ 0 ≤ k ∧ k < X 19 (tyo (Y 15 x 0)) 1) ∧ (y = -1 ∨ (0 ≤ y ∧ y < X 0 0 3)) ∧ X 21 (tyo (Y 15 x 0)) k ≠ 2 ∧ z = -14) ∨ ((0 ≤ x ∧ x < X 0 0 3 ∧ 0 ≤ k ∧ k < X 19 (tyo (Y 15 x 0)) 1) ∧ (y = -1 ∨ (0 ≤ y ∧ y < X 0 0 3)) ∧ X 21 (tyo (Y 15 x 0)) k = 2 ∧ 80 ≤ X 29 0 1 ∧ z = -4) ∨ ((0 ≤ x ∧ x < X 0 0 3 ∧ 0 ≤ k ∧ k < X 19 (tyo (Y 15 x 0)) 1) ∧ (y = -1 ∨ (0 ≤ y ∧ y < X 0 0 3)) ∧ X 21 (tyo (Y 15 x 0)) k = 2 ∧ X 29 0 1 ≤ 79 ∧ z = 1)) ∧ (z < 0 → X1 = X ∧ Y1 = Y) ∧ (z = 1 → eNoteC X X1 Y Y1 (some x) k (X 16 x k) (Y 17 x k) ∧ X1 16 x k = y ∧ (∀ p j, ¬ (p = x ∧ j = k) → X1 16 p j = X 16 p j) ∧ ∀ p j, Y1 17 p j = Y 17 p j))) av9 s 0 0 (frA base) := ⟨_, rfl⟩
  rw [← hQ9]
  have hi6 : ∀ w ∈ wsX60, w ∈ wsX8_refer := fun w h => List.mem_cons_of_mem _ (List.mem_append_left _ (List.mem_append_left _ (List.mem_append_left _ (List.mem_append_right _ h))))
  have hf6 : fctx s m _ RX8 wsX8_refer D tc RX6 TX6 4 6 := ⟨hts, hi6, hown, hK.1, rfl⟩
  have hi7 : ∀ w ∈ wsX70, w ∈ wsX8_refer := fun w h => List.mem_cons_of_mem _ (List.mem_append_left _ (List.mem_append_left _ (List.mem_append_right _ h)))
  have hf7 : fctx s m _ RX8 wsX8_refer D tc RX7 TX7 8 7 := ⟨hts, hi7, hown, hK.1, rfl⟩
  have hi8 : ∀ w ∈ wsX80, w ∈ wsX8_refer := fun w h => List.mem_cons_of_mem _ (List.mem_append_left _ (List.mem_append_left _ (List.mem_append_left _ (List.mem_append_left _ (List.mem_append_right _ h)))))
  have hf8 : fctx s m _ RX8 wsX8_refer D tc RX8 TX8 12 8 := ⟨hts, hi8, hown, hK.1, rfl⟩
  have lk94 := hts (.fieldLink RX8 94 (TX8 3).1 (TX8 3).2.1 (TX8 3).2.2.1) (gj_X8_refer_0 _ (gp_h))
  have lk97 := hts (.fieldLink RX8 97 (TX6 0).1 (TX6 0).2.1 (TX6 0).2.2.1) (gj_X8_refer_0 _ (gp_1 gp_h))
  have lk135 := hts (.fieldLink RX8 135 (TX7 3).1 (TX7 3).2.1 (TX7 3).2.2.1) (gj_X8_refer_0 _ (gp_1 (gp_1 gp_h)))
  have hc0 : cnt 0 = 1 := hFx.at 0 1 (by decide)
  have hc15 : cnt 15 = 30 := hFx.at 15 30 (by decide)
  have hc21 : cnt 21 = cnt 19 := hFx.2.1 21 (by decide)
  have hl : lv_has ls 5 [(0, .ref (ad 0 0)), (1, .int (jI x)), (2, .int (jI k)), (3, .int (jI y))] := hl
  have ftc : 0 ≤ X 0 0 3 ∧ X 0 0 3 ≤ 30 := hR 0 0 3
  have fty : 0 ≤ X 0 0 1 ∧ X 0 0 1 ≤ 8 := hR 0 0 1
  have hct : cnt 19 = X 0 0 1 := hCI.2.2.2.1.1
  have hfj : 0 ≤ X 29 0 3 ∧ X 29 0 3 ≤ 4 := hR 29 0 3
  have hfn : 0 ≤ X 29 0 1 ∧ X 29 0 1 ≤ 80 := hR 29 0 1
  refine lv_aload_n hx hb dX8_refer_0 rfl (lv_at hl 0 rfl) ?_
  refine lv_iload_n hx hb dX8_refer_1 rfl (lv_at hl 1 rfl) ?_
  refine lv_iload_n hx hb dX8_refer_2 rfl (lv_at hl 2 rfl) ?_
  refine gos_r (run_V (As := [.int (jI x), .int (jI k)]) (rest := []) hx hb hml hown hts (c_X8_thingWithField l D tc base ad cnt X Y ln hR hFx hLn hCI x k (by omega) (by omega)) (cwV 2 hts gX8_refer_X8_thingWithField rfl rfl rfl (by first | exact hd_X8_thingWithField | decide +kernel) ⟨Nat.le_of_ble_eq_true rfl, Nat.le_of_ble_eq_true rfl⟩) hK hw (by first | exact Int.le_refl 0 | omega) (by first | exact zlt hc0 | omega) sl_0_0 rfl rfl hl.1 rfl (Nat.le_of_ble_eq_true rfl) dX8_refer_3 ⟨Nat.le_of_ble_eq_true rfl, Nat.le_of_ble_eq_true rfl⟩) hS (fun u2 H locs p3 hw hS => ?_) (fun z1 u2 H locs p3 hw hS => ?_)
  · obtain ⟨eu2, hsp3, hnp3⟩ := p3
    subst eu2
    refine lv_astoreN (lv' := [(4, .null), (0, .ref (ad 0 0)), (1, .int (jI x)), (2, .int (jI k)), (3, .int (jI y))]) hx hb dX8_refer_6 hl (by decide) rfl (fun ls hl => ?_)
    refine lv_aloadN hx hb dX8_refer_8 (lv_at hl 0 rfl) ?_
    refine lv_ifnullN (tgt := 29) hx hb dX8_refer_10 (by decide) ?_
    refine lv_iconst (v := jI (-1)) hx hb dX8_refer_29 rfl ?_
    rw [hQ9]
    refine ret_i (mc := 0) (ms := 0) hx hb hr hlocks hw hS (by first | exact Nat.le_of_ble_eq_true rfl | omega) (by first | exact Nat.le_of_ble_eq_true rfl | omega) dX8_refer_30 ?_
    have h9n4 : ¬ (0 ≤ x ∧ x < X 0 0 3 ∧ 0 ≤ k ∧ k < X 19 (tyo (Y 15 x 0)) 1) := hnp3 rfl
    exact ⟨X, Y, rfl, hR, Frm.rf, Frm.rf, hCI, by omega, (by exact Or.inl ⟨(fun q => by (try delta Hid at *); omega), by omega⟩), fun _ => ⟨rfl, rfl⟩, fun q => (by exfalso; omega)⟩
  · obtain ⟨eu2, hsp3, hnp3⟩ := p3
    subst eu2
    obtain ⟨ezz1, p3, h1p3, h2p3, h3p3, h4p3, h5p3⟩ := hsp3 z1 rfl
    refine lv_astore (lv' := [(4, .ref (ad 15 z1)), (0, .ref (ad 0 0)), (1, .int (jI x)), (2, .int (jI k)), (3, .int (jI y))]) hx hb dX8_refer_6 hl (by decide) rfl (fun ls hl => ?_)
    refine lv_aload hx hb dX8_refer_8 (lv_at hl 0 rfl) ?_
    refine lv_ifnull hx hb dX8_refer_10 ?_
    refine lv_iload_n hx hb dX8_refer_13 rfl (lv_at hl 4 rfl) ?_
    refine lv_iconst (v := jI (-1)) hx hb dX8_refer_14 rfl ?_
    refine x_icmp_eq (tgt := 31) hx hb (by omega) (by omega) dX8_refer_15 (by decide) (fun c5 => ?_) (fun c5 => ?_)
    · refine lv_aload hx hb dX8_refer_31 (lv_at hl 0 rfl) ?_
      refine x_getr (jz := 0) hx hb hf6 hw (by omega) (by omega) sl_15_0 rfl lk97 dX8_refer_33 (fun y6 => ?_) (fun r7 y6 gr7 lr7 => ?_)
      · exfalso
        exact absurd y6 (hCI.2.2.2.2.1 z1 (by omega) (by omega))
      · refine x_geto hx hb hf7 hw (by omega) (by omega) sl_19_3 lk135 dX8_refer_36 ?_
        refine lv_iload_n hx hb dX8_refer_39 rfl (lv_at hl 3 rfl) ?_
        refine x_iald hx hb hK.1 hw (by omega) (by omega) ar_21 (len_E ar_21 (by first | exact Nat.ne_of_beq_eq_false rfl | decide)) (by omega) (by omega) (by omega) dX8_refer_40 ?_
        have f8 : 0 ≤ X 21 r7 k ∧ X 21 r7 k ≤ 5 := hR 21 r7 k
        refine lv_iconst (v := jI 2) hx hb dX8_refer_41 rfl ?_
        refine x_icmp_eq (tgt := 50) hx hb (by omega) (by omega) dX8_refer_42 (by decide) (fun c9 => ?_) (fun c9 => ?_)
        · refine lv_aload_n hx hb dX8_refer_50 rfl (lv_at hl 1 rfl) ?_
          refine lv_aload hx hb dX8_refer_51 (lv_at hl 0 rfl) ?_
          refine lv_iload_n hx hb dX8_refer_53 rfl (lv_at hl 3 rfl) ?_
          refine lv_iload_n hx hb dX8_refer_54 rfl (lv_at hl 4 rfl) ?_
          refine x_i2l hx hb (by omega) dX8_refer_55 ?_
          refine gos_i (run_V (As := [.ref (ad 15 z1), .int (jI k), .long (jL y)]) (rest := []) hx hb hml hown hts (c_X8_changeValue l D tc base ad cnt X Y ln hR hFx hLn hCI z1 k y (by omega) (by omega) (by omega)) (cwV 3 hts gX8_refer_X8_changeValue rfl rfl rfl (by first | exact hd_X8_changeValue | decide +kernel) ⟨Nat.le_of_ble_eq_true rfl, Nat.le_of_ble_eq_true rfl⟩) hK hw (by first | exact Int.le_refl 0 | omega) (by first | exact zlt hc0 | omega) sl_0_0 rfl rfl hl.1 rfl (Nat.le_of_ble_eq_true rfl) dX8_refer_56 ⟨Nat.le_of_ble_eq_true rfl, Nat.le_of_ble_eq_true rfl⟩) hS (fun z10 u11 H locs p12 hw hS => ?_)
          obtain ⟨X13, Y14, eu11, hRX13, hG15, hJ16, hCIX13, p12, hcvX13⟩ := p12
          subst eu11
          have hFX13 : Frm [2802, 2803, 2902, 1600] X X13 := Frm.tr Frm.rf (Frm.mono hG15 (by first | exact nls_of rfl | decide))
          have hHY14 : Frm [2801, 2804] Y Y14 := Frm.tr Frm.rf (Frm.mono hJ16 (by first | exact nls_of rfl | decide))
          rw [hQ9]
          refine ret_i (mc := 0) (ms := 0) hx hb hr hlocks hw hS (by first | exact Nat.le_of_ble_eq_true rfl | omega) (by first | exact Nat.le_of_ble_eq_true rfl | omega) dX8_refer_59 ?_
          have hT17 : tyo (Y 15 x 0) = r7 := by rw [← ezz1]; exact tyo_some y6
          have hk18 : k < X 19 r7 1 := h5p3 r7 (by rw [← ezz1]; exact y6)
          rcases hcvX13 with ⟨c1, c2, c3, c4⟩ | ⟨c1, c2, c3, c4, c5, c6⟩
          · refine ⟨X13, Y14, rfl, hRX13, hFX13, hHY14, hCIX13, ?g9p649, ?g9p650, fun _ => ⟨c3, c4⟩, ?g9p651⟩
            case g9p649 => omega
            case g9p650 => rw [hT17]; first | (have h9z : (z10 : Int) = -1 := (by omega); exact Or.inl ⟨(fun q => by (try delta Hid at *); omega), by omega⟩) | (have h9z : (z10 : Int) = -14 := (by omega); exact Or.inr (Or.inl ⟨(by (try delta Hid at *); omega), (by (try delta Hid at *); omega), by omega, by omega⟩)) | (have h9z : (z10 : Int) = -4 := (by omega); exact Or.inr (Or.inr (Or.inl ⟨(by (try delta Hid at *); omega), (by (try delta Hid at *); omega), by omega, by omega, by omega⟩))) | (have h9z : (z10 : Int) = 1 := (by omega); exact Or.inr (Or.inr (Or.inr (⟨(by (try delta Hid at *); omega), (by (try delta Hid at *); omega), by omega, by omega, by omega⟩)))) | exact Or.inl ⟨(fun q => by (try delta Hid at *); omega), by omega⟩ | exact Or.inr (Or.inl ⟨(by (try delta Hid at *); omega), (by (try delta Hid at *); omega), by omega, by omega⟩) | exact Or.inr (Or.inr (Or.inl ⟨(by (try delta Hid at *); omega), (by (try delta Hid at *); omega), by omega, by omega, by omega⟩)) | exact Or.inr (Or.inr (Or.inr (⟨(by (try delta Hid at *); omega), (by (try delta Hid at *); omega), by omega, by omega, by omega⟩)))
            case g9p651 => exact fun q => (by exfalso; omega)
          · refine ⟨X13, Y14, rfl, hRX13, hFX13, hHY14, hCIX13, ?g9p652, ?g9p653, ?g9p654, ?g9p655⟩
            case g9p652 => omega
            case g9p653 => rw [hT17]; first | (have h9z : (z10 : Int) = -1 := (by omega); exact Or.inl ⟨(fun q => by (try delta Hid at *); omega), by omega⟩) | (have h9z : (z10 : Int) = -14 := (by omega); exact Or.inr (Or.inl ⟨(by (try delta Hid at *); omega), (by (try delta Hid at *); omega), by omega, by omega⟩)) | (have h9z : (z10 : Int) = -4 := (by omega); exact Or.inr (Or.inr (Or.inl ⟨(by (try delta Hid at *); omega), (by (try delta Hid at *); omega), by omega, by omega, by omega⟩))) | (have h9z : (z10 : Int) = 1 := (by omega); exact Or.inr (Or.inr (Or.inr (⟨(by (try delta Hid at *); omega), (by (try delta Hid at *); omega), by omega, by omega, by omega⟩)))) | exact Or.inl ⟨(fun q => by (try delta Hid at *); omega), by omega⟩ | exact Or.inr (Or.inl ⟨(by (try delta Hid at *); omega), (by (try delta Hid at *); omega), by omega, by omega⟩) | exact Or.inr (Or.inr (Or.inl ⟨(by (try delta Hid at *); omega), (by (try delta Hid at *); omega), by omega, by omega, by omega⟩)) | exact Or.inr (Or.inr (Or.inr (⟨(by (try delta Hid at *); omega), (by (try delta Hid at *); omega), by omega, by omega, by omega⟩)))
            case g9p654 => exact fun q => (by exfalso; omega)
            case g9p655 => exact fun _ => (by rw [← ezz1]; exact ⟨c3, c4, c5, c6⟩)
        · refine lv_iconst (v := jI 4) hx hb dX8_refer_45 rfl ?_
          refine gos_i (run_S (As := [.int (jI 4)]) (rest := []) hx hb hml hown hts (c_X8_failed l D tc base ad cnt X Y ln 4 (by omega)) (cwS 1 hts gX8_refer_X8_failed rfl rfl rfl (by first | exact hd_X8_failed | decide +kernel) ⟨Nat.le_of_ble_eq_true rfl, Nat.le_of_ble_eq_true rfl⟩) hK hw rfl hl.1 rfl (Nat.le_of_ble_eq_true rfl) dX8_refer_46 ⟨Nat.le_of_ble_eq_true rfl, Nat.le_of_ble_eq_true rfl⟩) hS (fun z19 u20 H locs p21 hw hS => ?_)
          obtain ⟨eu20, p21⟩ := p21
          subst eu20
          rw [hQ9]
          refine ret_i (mc := 0) (ms := 0) hx hb hr hlocks hw hS (by first | exact Nat.le_of_ble_eq_true rfl | omega) (by first | exact Nat.le_of_ble_eq_true rfl | omega) dX8_refer_49 ?_
          have hT22 : tyo (Y 15 x 0) = r7 := by rw [← ezz1]; exact tyo_some y6
          have hk23 : k < X 19 r7 1 := h5p3 r7 (by rw [← ezz1]; exact y6)
          refine ⟨X, Y, rfl, hR, Frm.rf, Frm.rf, hCI, ?g9p656, ?g9p657, fun _ => ⟨rfl, rfl⟩, ?g9p658⟩
          case g9p656 => omega
          case g9p657 => rw [hT22]; first | (have h9z : (z19 : Int) = -1 := (by omega); exact Or.inl ⟨(fun q => by (try delta Hid at *); omega), by omega⟩) | (have h9z : (z19 : Int) = -14 := (by omega); exact Or.inr (Or.inl ⟨(by (try delta Hid at *); omega), (by (try delta Hid at *); omega), by omega, by omega⟩)) | (have h9z : (z19 : Int) = -4 := (by omega); exact Or.inr (Or.inr (Or.inl ⟨(by (try delta Hid at *); omega), (by (try delta Hid at *); omega), by omega, by omega, by omega⟩))) | (have h9z : (z19 : Int) = 1 := (by omega); exact Or.inr (Or.inr (Or.inr (⟨(by (try delta Hid at *); omega), (by (try delta Hid at *); omega), by omega, by omega, by omega⟩)))) | exact Or.inl ⟨(fun q => by (try delta Hid at *); omega), by omega⟩ | exact Or.inr (Or.inl ⟨(by (try delta Hid at *); omega), (by (try delta Hid at *); omega), by omega, by omega⟩) | exact Or.inr (Or.inr (Or.inl ⟨(by (try delta Hid at *); omega), (by (try delta Hid at *); omega), by omega, by omega, by omega⟩)) | exact Or.inr (Or.inr (Or.inr (⟨(by (try delta Hid at *); omega), (by (try delta Hid at *); omega), by omega, by omega, by omega⟩)))
          case g9p658 => exact fun q => (by exfalso; omega)
    · refine lv_iload_n hx hb dX8_refer_18 rfl (lv_at hl 4 rfl) ?_
      refine lv_aload_n hx hb dX8_refer_19 rfl (lv_at hl 1 rfl) ?_
      refine x_geti (jz := 3) hx hb hf8 hw (by first | exact Int.le_refl 0 | omega) (by first | exact zlt hc0 | omega) sl_0_3 rfl lk94 dX8_refer_20 ?_
      have f24 : 0 ≤ X 0 0 3 ∧ X 0 0 3 ≤ 30 := hR 0 0 3
      refine gos_i (run_S (As := [.int (jI y), .int (jI (X 0 0 3))]) (rest := []) hx hb hml hown hts (c_X8_isBelow l D tc base ad cnt X Y ln y (X 0 0 3) (by omega) (by omega)) (cwS 2 hts gX8_refer_X8_isBelow rfl rfl rfl (by first | exact hd_X8_isBelow | decide +kernel) ⟨Nat.le_of_ble_eq_true rfl, Nat.le_of_ble_eq_true rfl⟩) hK hw rfl hl.1 rfl (Nat.le_of_ble_eq_true rfl) dX8_refer_23 ⟨Nat.le_of_ble_eq_true rfl, Nat.le_of_ble_eq_true rfl⟩) hS (fun z25 u26 H locs p27 hw hS => ?_)
      obtain ⟨eu26, p27⟩ := p27
      subst eu26
      rcases p27 with ⟨ez25, p27⟩ | ⟨ez25, p27⟩
      · subst ez25
        refine x_if_neT (tgt := 31) hx hb (by omega) (by decide) dX8_refer_26 (by decide) ?_
        refine lv_aload hx hb dX8_refer_31 (lv_at hl 0 rfl) ?_
        refine x_getr (jz := 0) hx hb hf6 hw (by omega) (by omega) sl_15_0 rfl lk97 dX8_refer_33 (fun y28 => ?_) (fun r29 y28 gr29 lr29 => ?_)
        · exfalso
          exact absurd y28 (hCI.2.2.2.2.1 z1 (by omega) (by omega))
        · refine x_geto hx hb hf7 hw (by omega) (by omega) sl_19_3 lk135 dX8_refer_36 ?_
          refine lv_iload_n hx hb dX8_refer_39 rfl (lv_at hl 3 rfl) ?_
          refine x_iald hx hb hK.1 hw (by omega) (by omega) ar_21 (len_E ar_21 (by first | exact Nat.ne_of_beq_eq_false rfl | decide)) (by omega) (by omega) (by omega) dX8_refer_40 ?_
          have f30 : 0 ≤ X 21 r29 k ∧ X 21 r29 k ≤ 5 := hR 21 r29 k
          refine lv_iconst (v := jI 2) hx hb dX8_refer_41 rfl ?_
          refine x_icmp_eq (tgt := 50) hx hb (by omega) (by omega) dX8_refer_42 (by decide) (fun c31 => ?_) (fun c31 => ?_)
          · refine lv_aload_n hx hb dX8_refer_50 rfl (lv_at hl 1 rfl) ?_
            refine lv_aload hx hb dX8_refer_51 (lv_at hl 0 rfl) ?_
            refine lv_iload_n hx hb dX8_refer_53 rfl (lv_at hl 3 rfl) ?_
            refine lv_iload_n hx hb dX8_refer_54 rfl (lv_at hl 4 rfl) ?_
            refine x_i2l hx hb (by omega) dX8_refer_55 ?_
            refine gos_i (run_V (As := [.ref (ad 15 z1), .int (jI k), .long (jL y)]) (rest := []) hx hb hml hown hts (c_X8_changeValue l D tc base ad cnt X Y ln hR hFx hLn hCI z1 k y (by omega) (by omega) (by omega)) (cwV 3 hts gX8_refer_X8_changeValue rfl rfl rfl (by first | exact hd_X8_changeValue | decide +kernel) ⟨Nat.le_of_ble_eq_true rfl, Nat.le_of_ble_eq_true rfl⟩) hK hw (by first | exact Int.le_refl 0 | omega) (by first | exact zlt hc0 | omega) sl_0_0 rfl rfl hl.1 rfl (Nat.le_of_ble_eq_true rfl) dX8_refer_56 ⟨Nat.le_of_ble_eq_true rfl, Nat.le_of_ble_eq_true rfl⟩) hS (fun z32 u33 H locs p34 hw hS => ?_)
            obtain ⟨X35, Y36, eu33, hRX35, hG37, hJ38, hCIX35, p34, hcvX35⟩ := p34
            subst eu33
            have hFX35 : Frm [2802, 2803, 2902, 1600] X X35 := Frm.tr Frm.rf (Frm.mono hG37 (by first | exact nls_of rfl | decide))
            have hHY36 : Frm [2801, 2804] Y Y36 := Frm.tr Frm.rf (Frm.mono hJ38 (by first | exact nls_of rfl | decide))
            rw [hQ9]
            refine ret_i (mc := 0) (ms := 0) hx hb hr hlocks hw hS (by first | exact Nat.le_of_ble_eq_true rfl | omega) (by first | exact Nat.le_of_ble_eq_true rfl | omega) dX8_refer_59 ?_
            have hT39 : tyo (Y 15 x 0) = r29 := by rw [← ezz1]; exact tyo_some y28
            have hk40 : k < X 19 r29 1 := h5p3 r29 (by rw [← ezz1]; exact y28)
            rcases hcvX35 with ⟨c1, c2, c3, c4⟩ | ⟨c1, c2, c3, c4, c5, c6⟩
            · refine ⟨X35, Y36, rfl, hRX35, hFX35, hHY36, hCIX35, ?g9p659, ?g9p660, fun _ => ⟨c3, c4⟩, ?g9p661⟩
              case g9p659 => omega
              case g9p660 => rw [hT39]; first | (have h9z : (z32 : Int) = -1 := (by omega); exact Or.inl ⟨(fun q => by (try delta Hid at *); omega), by omega⟩) | (have h9z : (z32 : Int) = -14 := (by omega); exact Or.inr (Or.inl ⟨(by (try delta Hid at *); omega), (by (try delta Hid at *); omega), by omega, by omega⟩)) | (have h9z : (z32 : Int) = -4 := (by omega); exact Or.inr (Or.inr (Or.inl ⟨(by (try delta Hid at *); omega), (by (try delta Hid at *); omega), by omega, by omega, by omega⟩))) | (have h9z : (z32 : Int) = 1 := (by omega); exact Or.inr (Or.inr (Or.inr (⟨(by (try delta Hid at *); omega), (by (try delta Hid at *); omega), by omega, by omega, by omega⟩)))) | exact Or.inl ⟨(fun q => by (try delta Hid at *); omega), by omega⟩ | exact Or.inr (Or.inl ⟨(by (try delta Hid at *); omega), (by (try delta Hid at *); omega), by omega, by omega⟩) | exact Or.inr (Or.inr (Or.inl ⟨(by (try delta Hid at *); omega), (by (try delta Hid at *); omega), by omega, by omega, by omega⟩)) | exact Or.inr (Or.inr (Or.inr (⟨(by (try delta Hid at *); omega), (by (try delta Hid at *); omega), by omega, by omega, by omega⟩)))
              case g9p661 => exact fun q => (by exfalso; omega)
            · refine ⟨X35, Y36, rfl, hRX35, hFX35, hHY36, hCIX35, ?g9p662, ?g9p663, ?g9p664, ?g9p665⟩
              case g9p662 => omega
              case g9p663 => rw [hT39]; first | (have h9z : (z32 : Int) = -1 := (by omega); exact Or.inl ⟨(fun q => by (try delta Hid at *); omega), by omega⟩) | (have h9z : (z32 : Int) = -14 := (by omega); exact Or.inr (Or.inl ⟨(by (try delta Hid at *); omega), (by (try delta Hid at *); omega), by omega, by omega⟩)) | (have h9z : (z32 : Int) = -4 := (by omega); exact Or.inr (Or.inr (Or.inl ⟨(by (try delta Hid at *); omega), (by (try delta Hid at *); omega), by omega, by omega, by omega⟩))) | (have h9z : (z32 : Int) = 1 := (by omega); exact Or.inr (Or.inr (Or.inr (⟨(by (try delta Hid at *); omega), (by (try delta Hid at *); omega), by omega, by omega, by omega⟩)))) | exact Or.inl ⟨(fun q => by (try delta Hid at *); omega), by omega⟩ | exact Or.inr (Or.inl ⟨(by (try delta Hid at *); omega), (by (try delta Hid at *); omega), by omega, by omega⟩) | exact Or.inr (Or.inr (Or.inl ⟨(by (try delta Hid at *); omega), (by (try delta Hid at *); omega), by omega, by omega, by omega⟩)) | exact Or.inr (Or.inr (Or.inr (⟨(by (try delta Hid at *); omega), (by (try delta Hid at *); omega), by omega, by omega, by omega⟩)))
              case g9p664 => exact fun q => (by exfalso; omega)
              case g9p665 => exact fun _ => (by rw [← ezz1]; exact ⟨c3, c4, c5, c6⟩)
          · refine lv_iconst (v := jI 4) hx hb dX8_refer_45 rfl ?_
            refine gos_i (run_S (As := [.int (jI 4)]) (rest := []) hx hb hml hown hts (c_X8_failed l D tc base ad cnt X Y ln 4 (by omega)) (cwS 1 hts gX8_refer_X8_failed rfl rfl rfl (by first | exact hd_X8_failed | decide +kernel) ⟨Nat.le_of_ble_eq_true rfl, Nat.le_of_ble_eq_true rfl⟩) hK hw rfl hl.1 rfl (Nat.le_of_ble_eq_true rfl) dX8_refer_46 ⟨Nat.le_of_ble_eq_true rfl, Nat.le_of_ble_eq_true rfl⟩) hS (fun z41 u42 H locs p43 hw hS => ?_)
            obtain ⟨eu42, p43⟩ := p43
            subst eu42
            rw [hQ9]
            refine ret_i (mc := 0) (ms := 0) hx hb hr hlocks hw hS (by first | exact Nat.le_of_ble_eq_true rfl | omega) (by first | exact Nat.le_of_ble_eq_true rfl | omega) dX8_refer_49 ?_
            have hT44 : tyo (Y 15 x 0) = r29 := by rw [← ezz1]; exact tyo_some y28
            have hk45 : k < X 19 r29 1 := h5p3 r29 (by rw [← ezz1]; exact y28)
            refine ⟨X, Y, rfl, hR, Frm.rf, Frm.rf, hCI, ?g9p666, ?g9p667, fun _ => ⟨rfl, rfl⟩, ?g9p668⟩
            case g9p666 => omega
            case g9p667 => rw [hT44]; first | (have h9z : (z41 : Int) = -1 := (by omega); exact Or.inl ⟨(fun q => by (try delta Hid at *); omega), by omega⟩) | (have h9z : (z41 : Int) = -14 := (by omega); exact Or.inr (Or.inl ⟨(by (try delta Hid at *); omega), (by (try delta Hid at *); omega), by omega, by omega⟩)) | (have h9z : (z41 : Int) = -4 := (by omega); exact Or.inr (Or.inr (Or.inl ⟨(by (try delta Hid at *); omega), (by (try delta Hid at *); omega), by omega, by omega, by omega⟩))) | (have h9z : (z41 : Int) = 1 := (by omega); exact Or.inr (Or.inr (Or.inr (⟨(by (try delta Hid at *); omega), (by (try delta Hid at *); omega), by omega, by omega, by omega⟩)))) | exact Or.inl ⟨(fun q => by (try delta Hid at *); omega), by omega⟩ | exact Or.inr (Or.inl ⟨(by (try delta Hid at *); omega), (by (try delta Hid at *); omega), by omega, by omega⟩) | exact Or.inr (Or.inr (Or.inl ⟨(by (try delta Hid at *); omega), (by (try delta Hid at *); omega), by omega, by omega, by omega⟩)) | exact Or.inr (Or.inr (Or.inr (⟨(by (try delta Hid at *); omega), (by (try delta Hid at *); omega), by omega, by omega, by omega⟩)))
            case g9p668 => exact fun q => (by exfalso; omega)
      · subst ez25
        refine x_if_neF (tgt := 31) hx hb (by omega) (by decide) dX8_refer_26 (by decide) ?_
        refine lv_iconst (v := jI (-1)) hx hb dX8_refer_29 rfl ?_
        rw [hQ9]
        refine ret_i (mc := 0) (ms := 0) hx hb hr hlocks hw hS (by first | exact Nat.le_of_ble_eq_true rfl | omega) (by first | exact Nat.le_of_ble_eq_true rfl | omega) dX8_refer_30 ?_
        exact ⟨X, Y, rfl, hR, Frm.rf, Frm.rf, hCI, by omega, (by exact Or.inl ⟨(fun q => by (try delta Hid at *); omega), by omega⟩), fun _ => ⟨rfl, rfl⟩, fun q => (by exfalso; omega)⟩

set_option maxHeartbeats 4000000 in
set_option maxRecDepth 100000 in
theorem c_X8_share (l : Launch) (D : va_G) (tc : Nat → ClassId) (base : Nat) (ad : Nat → Int → Nat) (cnt : Nat → Int) (X : Nat → Int → Int → Int) (Y : Nat → Int → Int → Option Int) (ln : Int → Int) (hR : Rng X) (hFx : Fx cnt) (hLn : LnOK ln) (hCI : CInv cnt X Y ln) (x k y j : Int) (hx : -2147483648 ≤ x ∧ x ≤ 2147483647) (hk : -2147483648 ≤ k ∧ k ≤ 2147483647) (hy : -2147483648 ≤ y ∧ y ≤ 2147483647) (hj : -2147483648 ≤ j ∧ j ≤ 2147483647) : KI l D tc base yX8_share wsX8_share ({ frames := 4, cells := 0, slots := 0, locals := 91 } : Room) [.ref (ad 0 0), .int (jI x), .int (jI k), .int (jI y), .int (jI j)] (ad, cnt, X, Y, ln) 0 0 (fun z u => ∃ (X1 : Nat → Int → Int → Int) (Y1 : Nat → Int → Int → Option Int), u = (ad, cnt, X1, Y1, ln) ∧ Rng X1 ∧ Frm [2802, 2803, 2902] X X1 ∧ Frm [2801, 2804, 1700] Y Y1 ∧ CInv cnt X1 Y1 ln ∧ (-2147483648 ≤ z ∧ z ≤ 2147483647) ∧ ((¬ ((0 ≤ x ∧ x < X 0 0 3 ∧ 0 ≤ k ∧ k < X 19 (tyo (Y 15 x 0)) 1) ∧ (0 ≤ y ∧ y < X 0 0 3 ∧ 0 ≤ j ∧ j < X 19 (tyo (Y 15 y 0)) 1)) ∧ z = -1) ∨ (((0 ≤ x ∧ x < X 0 0 3 ∧ 0 ≤ k ∧ k < X 19 (tyo (Y 15 x 0)) 1) ∧ (0 ≤ y ∧ y < X 0 0 3 ∧ 0 ≤ j ∧ j < X 19 (tyo (Y 15 y 0)) 1)) ∧ (X 21 (tyo (Y 15 x 0)) k < 3 ∨ X 21 (tyo (Y 15 x 0)) k ≠ X 21 (tyo (Y 15 y 0)) j) ∧ z = -14) ∨ (((0 ≤ x ∧ x < X 0 0 3 ∧ 0 ≤ k ∧ k < X 19 (tyo (Y 15 x 0)) 1) ∧ (0 ≤ y ∧ y < X 0 0 3 ∧ 0 ≤ j ∧ j < X 19 (tyo (Y 15 y 0)) 1)) ∧ 3 ≤ X 21 (tyo (Y 15 x 0)) k ∧ X 21 (tyo (Y 15 x 0)) k = X 21 (tyo (Y 15 y 0)) j ∧ 80 ≤ X 29 0 1 ∧ z = -4) ∨ (((0 ≤ x ∧ x < X 0 0 3 ∧ 0 ≤ k ∧ k < X 19 (tyo (Y 15 x 0)) 1) ∧ (0 ≤ y ∧ y < X 0 0 3 ∧ 0 ≤ j ∧ j < X 19 (tyo (Y 15 y 0)) 1)) ∧ 3 ≤ X 21 (tyo (Y 15 x 0)) k ∧ X 21 (tyo (Y 15 x 0)) k = X 21 (tyo (Y 15 y 0)) j ∧ X 29 0 1 ≤ 79 ∧ z = 1)) ∧ (z < 0 → X1 = X ∧ Y1 = Y) ∧ (z = 1 → eNoteC X X1 Y Y1 (some x) k (X 16 x k) (Y 17 x k) ∧ Y1 17 x k = Y 17 y j ∧ (∀ p q, ¬ (p = x ∧ q = k) → Y1 17 p q = Y 17 p q) ∧ ∀ p q, X1 16 p q = X 16 p q)) := by
  refine K_of (cc := cX8_share) (maxL := 8) (ret := (some .int)) (by decide) rfl (Nat.le_of_ble_eq_true rfl) ?_
  intro p e s m below meth c ls hx hb hr hml hown hts hlocks hl hK hw hS
  have hown : s.vm.findClass RX8 = some m.cls := hown
  obtain ⟨av9, hav9⟩ : ∃ a9 : Array Value, a9 = ([.ref (ad 0 0), .int (jI x), .int (jI k), .int (jI y), .int (jI j)] : List Value).toArray := ⟨_, rfl⟩
  rw [← hav9] at hts ⊢
  obtain ⟨Q9, hQ9⟩ : ∃ q9Q : State → Prop, q9Q = MQ below (QI D tc base (fun z u => ∃ (X1 : Nat → Int → Int → Int) (Y1 : Nat → Int → Int → Option Int), u = (ad, cnt, X1, Y1, ln) ∧ Rng X1 ∧ Frm [2802, 2803, 2902] X X1 ∧ Frm [2801, 2804, 1700] Y Y1 ∧ CInv cnt X1 Y1 ln ∧ (-2147483648 ≤ z ∧ z ≤ 2147483647) ∧ ((¬ ((0 ≤ x ∧ x < X 0 0 3 ∧ 0 ≤ k ∧ k < X 19 (tyo (Y 15 x 0)) 1) ∧ (0 ≤ y ∧ y < X 0 0 3 ∧ 0 ≤ j ∧ j < X 19 (tyo (Y 15 y 0)) 1)) ∧ z = -1) ∨ (((0 ≤ x ∧ x < X 0 0 3 ∧ 0 ≤ k ∧ k < X 19 (tyo (Y 15 x 0)) 1) ∧ (0 ≤ y ∧ y < X 0 0 3 ∧ 0 ≤ j ∧ j < X 19 (tyo (Y 15 y 0)) 1)) ∧ (X 21 (tyo (Y 15 x 0)) k < 3 ∨ X 21 (tyo (Y 15 x 0)) k ≠ X 21 (tyo (Y 15 y 0)) j) ∧ z = -14) ∨ (((0 ≤ x ∧ x < X 0 0 3 ∧ 0 ≤ k ∧ k < X 19 (tyo (Y 15 x 0)) 1) ∧ (0 ≤ y ∧ y < X 0 0 3 ∧ 0 ≤ j ∧ j < X 19 (tyo (Y 15 y 0)) 1)) ∧ 3 ≤ X 21 (tyo (Y 15 x 0)) k ∧ X 21 (tyo (Y 15 x 0)) k = X 21 (tyo (Y 15 y 0)) j ∧ 80 ≤ X 29 0 1 ∧ z = -4) ∨ (((0 ≤ x ∧ x < X 0 0 3 ∧ 0 ≤ k ∧ k < X 19 (tyo (Y 15 x 0)) 1) ∧ (0 ≤ y ∧ y < X 0 0 3 ∧ 0 ≤ j ∧ j < X 19 (tyo (Y 15 y 0)) 1)) ∧ 3 ≤ X 21 (tyo (Y 15 x 0)) k ∧ X 21 (tyo (Y 15 x 0)) k = X 21 (tyo (Y 15 y 0)) j ∧ X 29 0 1 ≤ 79 ∧ z = 1)) ∧ (z < 0 → X1 = X ∧ Y1 = Y) ∧ (z = 1 → eNoteC X X1 Y Y1 (some x) k (X 16 x k) (Y 17 x k) ∧ Y1 17 x k = Y 17 y j ∧ (∀ p q, ¬ (p = x ∧ q = k) → Y1 17 p q = Y 17 p q) ∧ ∀ p q, X1 16 p q = X 16 p q))) av9 s 0 0 (frA base) := ⟨_, rfl⟩
  rw [← hQ9]
  have hi6 : ∀ w ∈ wsX60, w ∈ wsX8_share := fun w h => List.mem_cons_of_mem _ (List.mem_append_left _ (List.mem_append_left _ (List.mem_append_left _ (List.mem_append_left _ (List.mem_append_right _ h)))))
  have hf6 : fctx s m _ RX8 wsX8_share D tc RX6 TX6 4 6 := ⟨hts, hi6, hown, hK.1, rfl⟩
  have hi7 : ∀ w ∈ wsX70, w ∈ wsX8_share := fun w h => List.mem_cons_of_mem _ (List.mem_append_left _ (List.mem_append_left _ (List.mem_append_left _ (List.mem_append_right _ h))))
  have hf7 : fctx s m _ RX8 wsX8_share D tc RX7 TX7 8 7 := ⟨hts, hi7, hown, hK.1, rfl⟩
  have lk97 := hts (.fieldLink RX8 97 (TX6 0).1 (TX6 0).2.1 (TX6 0).2.2.1) (gj_X8_share_0 _ (gp_h))
  have lk135 := hts (.fieldLink RX8 135 (TX7 3).1 (TX7 3).2.1 (TX7 3).2.2.1) (gj_X8_share_0 _ (gp_1 gp_h))
  have lk158 := hts (.fieldLink RX8 158 (TX6 2).1 (TX6 2).2.1 (TX6 2).2.2.1) (gj_X8_share_0 _ (gp_1 (gp_1 gp_h)))
  have hc0 : cnt 0 = 1 := hFx.at 0 1 (by decide)
  have hc15 : cnt 15 = 30 := hFx.at 15 30 (by decide)
  have hc17 : cnt 17 = 30 := hFx.at 17 30 (by decide)
  have hc21 : cnt 21 = cnt 19 := hFx.2.1 21 (by decide)
  have hl : lv_has ls 8 [(0, .ref (ad 0 0)), (1, .int (jI x)), (2, .int (jI k)), (3, .int (jI y)), (4, .int (jI j))] := hl
  have ftc : 0 ≤ X 0 0 3 ∧ X 0 0 3 ≤ 30 := hR 0 0 3
  have fty : 0 ≤ X 0 0 1 ∧ X 0 0 1 ≤ 8 := hR 0 0 1
  have hct : cnt 19 = X 0 0 1 := hCI.2.2.2.1.1
  have hfj : 0 ≤ X 29 0 3 ∧ X 29 0 3 ≤ 4 := hR 29 0 3
  have hfn : 0 ≤ X 29 0 1 ∧ X 29 0 1 ≤ 80 := hR 29 0 1
  refine lv_aload_n hx hb dX8_share_0 rfl (lv_at hl 0 rfl) ?_
  refine lv_iload_n hx hb dX8_share_1 rfl (lv_at hl 1 rfl) ?_
  refine lv_iload_n hx hb dX8_share_2 rfl (lv_at hl 2 rfl) ?_
  refine gos_r (run_V (As := [.int (jI x), .int (jI k)]) (rest := []) hx hb hml hown hts (c_X8_thingWithField l D tc base ad cnt X Y ln hR hFx hLn hCI x k (by omega) (by omega)) (cwV 2 hts gX8_share_X8_thingWithField rfl rfl rfl (by first | exact hd_X8_thingWithField | decide +kernel) ⟨Nat.le_of_ble_eq_true rfl, Nat.le_of_ble_eq_true rfl⟩) hK hw (by first | exact Int.le_refl 0 | omega) (by first | exact zlt hc0 | omega) sl_0_0 rfl rfl hl.1 rfl (Nat.le_of_ble_eq_true rfl) dX8_share_3 ⟨Nat.le_of_ble_eq_true rfl, Nat.le_of_ble_eq_true rfl⟩) hS (fun u2 H locs p3 hw hS => ?_) (fun z1 u2 H locs p3 hw hS => ?_)
  · obtain ⟨eu2, hsp3, hnp3⟩ := p3
    subst eu2
    refine lv_astoreN (lv' := [(5, .null), (0, .ref (ad 0 0)), (1, .int (jI x)), (2, .int (jI k)), (3, .int (jI y)), (4, .int (jI j))]) hx hb dX8_share_6 hl (by decide) rfl (fun ls hl => ?_)
    refine lv_aload_n hx hb dX8_share_8 rfl (lv_at hl 1 rfl) ?_
    refine lv_iload_n hx hb dX8_share_9 rfl (lv_at hl 4 rfl) ?_
    refine lv_iload hx hb dX8_share_10 (lv_at hl 5 rfl) ?_
    refine gos_r (run_V (As := [.int (jI y), .int (jI j)]) (rest := []) hx hb hml hown hts (c_X8_thingWithField l D tc base ad cnt X Y ln hR hFx hLn hCI y j (by omega) (by omega)) (cwV 2 hts gX8_share_X8_thingWithField rfl rfl rfl (by first | exact hd_X8_thingWithField | decide +kernel) ⟨Nat.le_of_ble_eq_true rfl, Nat.le_of_ble_eq_true rfl⟩) hK hw (by first | exact Int.le_refl 0 | omega) (by first | exact zlt hc0 | omega) sl_0_0 rfl rfl hl.1 rfl (Nat.le_of_ble_eq_true rfl) dX8_share_12 ⟨Nat.le_of_ble_eq_true rfl, Nat.le_of_ble_eq_true rfl⟩) hS (fun u5 H locs p6 hw hS => ?_) (fun z4 u5 H locs p6 hw hS => ?_)
    · obtain ⟨eu5, hsp6, hnp6⟩ := p6
      subst eu5
      refine lv_astoreN (lv' := [(6, .null), (5, .null), (0, .ref (ad 0 0)), (1, .int (jI x)), (2, .int (jI k)), (3, .int (jI y)), (4, .int (jI j))]) hx hb dX8_share_15 hl (by decide) rfl (fun ls hl => ?_)
      refine lv_aloadN hx hb dX8_share_17 (lv_at hl 1 rfl) ?_
      refine lv_ifnullN (tgt := 27) hx hb dX8_share_19 (by decide) ?_
      refine lv_iconst (v := jI (-1)) hx hb dX8_share_27 rfl ?_
      rw [hQ9]
      refine ret_i (mc := 0) (ms := 0) hx hb hr hlocks hw hS (by first | exact Nat.le_of_ble_eq_true rfl | omega) (by first | exact Nat.le_of_ble_eq_true rfl | omega) dX8_share_28 ?_
      have h9n7 : ¬ (0 ≤ x ∧ x < X 0 0 3 ∧ 0 ≤ k ∧ k < X 19 (tyo (Y 15 x 0)) 1) := hnp3 rfl
      have h9n8 : ¬ (0 ≤ y ∧ y < X 0 0 3 ∧ 0 ≤ j ∧ j < X 19 (tyo (Y 15 y 0)) 1) := hnp6 rfl
      exact ⟨X, Y, rfl, hR, Frm.rf, Frm.rf, hCI, by omega, (by exact Or.inl ⟨(fun q => by (try delta Hid at *); omega), by omega⟩), fun _ => ⟨rfl, rfl⟩, fun q => (by exfalso; omega)⟩
    · obtain ⟨eu5, hsp6, hnp6⟩ := p6
      subst eu5
      obtain ⟨ezz4, p6, h1p6, h2p6, h3p6, h4p6, h5p6⟩ := hsp6 z4 rfl
      refine lv_astore (lv' := [(6, .ref (ad 15 z4)), (5, .null), (0, .ref (ad 0 0)), (1, .int (jI x)), (2, .int (jI k)), (3, .int (jI y)), (4, .int (jI j))]) hx hb dX8_share_15 hl (by decide) rfl (fun ls hl => ?_)
      refine lv_aloadN hx hb dX8_share_17 (lv_at hl 1 rfl) ?_
      refine lv_ifnullN (tgt := 27) hx hb dX8_share_19 (by decide) ?_
      refine lv_iconst (v := jI (-1)) hx hb dX8_share_27 rfl ?_
      rw [hQ9]
      refine ret_i (mc := 0) (ms := 0) hx hb hr hlocks hw hS (by first | exact Nat.le_of_ble_eq_true rfl | omega) (by first | exact Nat.le_of_ble_eq_true rfl | omega) dX8_share_28 ?_
      have h9n9 : ¬ (0 ≤ x ∧ x < X 0 0 3 ∧ 0 ≤ k ∧ k < X 19 (tyo (Y 15 x 0)) 1) := hnp3 rfl
      obtain ⟨r10, y11⟩ := Option.ne_none_iff_exists'.mp (hCI.2.2.2.2.1 z4 (by omega) (by omega))
      have hT12 : tyo (Y 15 y 0) = r10 := by rw [← ezz4]; exact tyo_some y11
      have hk13 : j < X 19 r10 1 := h5p6 r10 (by rw [← ezz4]; exact y11)
      exact ⟨X, Y, rfl, hR, Frm.rf, Frm.rf, hCI, by omega, (by rw [hT12]; exact Or.inl ⟨(fun q => by (try delta Hid at *); omega), by omega⟩), fun _ => ⟨rfl, rfl⟩, fun q => (by exfalso; omega)⟩
  · obtain ⟨eu2, hsp3, hnp3⟩ := p3
    subst eu2
    obtain ⟨ezz1, p3, h1p3, h2p3, h3p3, h4p3, h5p3⟩ := hsp3 z1 rfl
    refine lv_astore (lv' := [(5, .ref (ad 15 z1)), (0, .ref (ad 0 0)), (1, .int (jI x)), (2, .int (jI k)), (3, .int (jI y)), (4, .int (jI j))]) hx hb dX8_share_6 hl (by decide) rfl (fun ls hl => ?_)
    refine lv_aload_n hx hb dX8_share_8 rfl (lv_at hl 1 rfl) ?_
    refine lv_iload_n hx hb dX8_share_9 rfl (lv_at hl 4 rfl) ?_
    refine lv_iload hx hb dX8_share_10 (lv_at hl 5 rfl) ?_
    refine gos_r (run_V (As := [.int (jI y), .int (jI j)]) (rest := []) hx hb hml hown hts (c_X8_thingWithField l D tc base ad cnt X Y ln hR hFx hLn hCI y j (by omega) (by omega)) (cwV 2 hts gX8_share_X8_thingWithField rfl rfl rfl (by first | exact hd_X8_thingWithField | decide +kernel) ⟨Nat.le_of_ble_eq_true rfl, Nat.le_of_ble_eq_true rfl⟩) hK hw (by first | exact Int.le_refl 0 | omega) (by first | exact zlt hc0 | omega) sl_0_0 rfl rfl hl.1 rfl (Nat.le_of_ble_eq_true rfl) dX8_share_12 ⟨Nat.le_of_ble_eq_true rfl, Nat.le_of_ble_eq_true rfl⟩) hS (fun u15 H locs p16 hw hS => ?_) (fun z14 u15 H locs p16 hw hS => ?_)
    · obtain ⟨eu15, hsp16, hnp16⟩ := p16
      subst eu15
      refine lv_astoreN (lv' := [(6, .null), (5, .ref (ad 15 z1)), (0, .ref (ad 0 0)), (1, .int (jI x)), (2, .int (jI k)), (3, .int (jI y)), (4, .int (jI j))]) hx hb dX8_share_15 hl (by decide) rfl (fun ls hl => ?_)
      refine lv_aload hx hb dX8_share_17 (lv_at hl 1 rfl) ?_
      refine lv_ifnull hx hb dX8_share_19 ?_
      refine lv_aloadN hx hb dX8_share_22 (lv_at hl 0 rfl) ?_
      refine lv_ifnonnullN hx hb dX8_share_24 ?_
      refine lv_iconst (v := jI (-1)) hx hb dX8_share_27 rfl ?_
      rw [hQ9]
      refine ret_i (mc := 0) (ms := 0) hx hb hr hlocks hw hS (by first | exact Nat.le_of_ble_eq_true rfl | omega) (by first | exact Nat.le_of_ble_eq_true rfl | omega) dX8_share_28 ?_
      obtain ⟨r17, y18⟩ := Option.ne_none_iff_exists'.mp (hCI.2.2.2.2.1 z1 (by omega) (by omega))
      have hT19 : tyo (Y 15 x 0) = r17 := by rw [← ezz1]; exact tyo_some y18
      have hk20 : k < X 19 r17 1 := h5p3 r17 (by rw [← ezz1]; exact y18)
      have h9n21 : ¬ (0 ≤ y ∧ y < X 0 0 3 ∧ 0 ≤ j ∧ j < X 19 (tyo (Y 15 y 0)) 1) := hnp16 rfl
      exact ⟨X, Y, rfl, hR, Frm.rf, Frm.rf, hCI, by omega, (by rw [hT19]; exact Or.inl ⟨(fun q => by (try delta Hid at *); omega), by omega⟩), fun _ => ⟨rfl, rfl⟩, fun q => (by exfalso; omega)⟩
    · obtain ⟨eu15, hsp16, hnp16⟩ := p16
      subst eu15
      obtain ⟨ezz14, p16, h1p16, h2p16, h3p16, h4p16, h5p16⟩ := hsp16 z14 rfl
      refine lv_astore (lv' := [(6, .ref (ad 15 z14)), (5, .ref (ad 15 z1)), (0, .ref (ad 0 0)), (1, .int (jI x)), (2, .int (jI k)), (3, .int (jI y)), (4, .int (jI j))]) hx hb dX8_share_15 hl (by decide) rfl (fun ls hl => ?_)
      refine lv_aload hx hb dX8_share_17 (lv_at hl 1 rfl) ?_
      refine lv_ifnull hx hb dX8_share_19 ?_
      refine lv_aload hx hb dX8_share_22 (lv_at hl 0 rfl) ?_
      refine lv_ifnonnull (tgt := 29) hx hb dX8_share_24 (by decide) ?_
      refine lv_aload hx hb dX8_share_29 (lv_at hl 1 rfl) ?_
      refine x_getr (jz := 0) hx hb hf6 hw (by omega) (by omega) sl_15_0 rfl lk97 dX8_share_31 (fun y22 => ?_) (fun r23 y22 gr23 lr23 => ?_)
      · exfalso
        exact absurd y22 (hCI.2.2.2.2.1 z1 (by omega) (by omega))
      · refine x_geto hx hb hf7 hw (by omega) (by omega) sl_19_3 lk135 dX8_share_34 ?_
        refine lv_iload_n hx hb dX8_share_37 rfl (lv_at hl 4 rfl) ?_
        refine x_iald hx hb hK.1 hw (by omega) (by omega) ar_21 (len_E ar_21 (by first | exact Nat.ne_of_beq_eq_false rfl | decide)) (by omega) (by omega) (by omega) dX8_share_38 ?_
        have f24 : 0 ≤ X 21 r23 k ∧ X 21 r23 k ≤ 5 := hR 21 r23 k
        refine lv_istore (lv' := [(7, .int (jI (X 21 r23 k))), (6, .ref (ad 15 z14)), (5, .ref (ad 15 z1)), (0, .ref (ad 0 0)), (1, .int (jI x)), (2, .int (jI k)), (3, .int (jI y)), (4, .int (jI j))]) hx hb dX8_share_39 hl (by decide) rfl (fun ls hl => ?_)
        refine lv_iload hx hb dX8_share_41 (lv_at hl 0 rfl) ?_
        refine gos_i (run_S (As := [.int (jI (X 21 r23 k))]) (rest := []) hx hb hml hown hts (c_X8_isRowLane l D tc base ad cnt X Y ln (X 21 r23 k) (by omega)) (cwS 1 hts gX8_share_X8_isRowLane rfl rfl rfl (by first | exact hd_X8_isRowLane | decide +kernel) ⟨Nat.le_of_ble_eq_true rfl, Nat.le_of_ble_eq_true rfl⟩) hK hw rfl hl.1 rfl (Nat.le_of_ble_eq_true rfl) dX8_share_43 ⟨Nat.le_of_ble_eq_true rfl, Nat.le_of_ble_eq_true rfl⟩) hS (fun z25 u26 H locs p27 hw hS => ?_)
        obtain ⟨eu26, p27⟩ := p27
        subst eu26
        rcases p27 with ⟨ez25, p27⟩ | ⟨ez25, p27⟩
        · subst ez25
          refine x_if_eqF (tgt := 65) hx hb (by omega) (by decide) dX8_share_46 (by decide) ?_
          refine lv_aload hx hb dX8_share_49 (lv_at hl 1 rfl) ?_
          refine x_getr (jz := 0) hx hb hf6 hw (by omega) (by omega) sl_15_0 rfl lk97 dX8_share_51 (fun y28 => ?_) (fun r29 y28 gr29 lr29 => ?_)
          · exfalso
            exact absurd y28 (hCI.2.2.2.2.1 z14 (by omega) (by omega))
          · refine x_geto hx hb hf7 hw (by omega) (by omega) sl_19_3 lk135 dX8_share_54 ?_
            refine lv_iload hx hb dX8_share_57 (lv_at hl 7 rfl) ?_
            refine x_iald hx hb hK.1 hw (by omega) (by omega) ar_21 (len_E ar_21 (by first | exact Nat.ne_of_beq_eq_false rfl | decide)) (by omega) (by omega) (by omega) dX8_share_59 ?_
            have f30 : 0 ≤ X 21 r29 j ∧ X 21 r29 j ≤ 5 := hR 21 r29 j
            refine lv_iload hx hb dX8_share_60 (lv_at hl 0 rfl) ?_
            refine x_icmp_eq (tgt := 70) hx hb (by omega) (by omega) dX8_share_62 (by decide) (fun c31 => ?_) (fun c31 => ?_)
            · refine lv_aload_n hx hb dX8_share_70 rfl (lv_at hl 3 rfl) ?_
              refine lv_aload hx hb dX8_share_71 (lv_at hl 2 rfl) ?_
              refine lv_iload_n hx hb dX8_share_73 rfl (lv_at hl 5 rfl) ?_
              refine lv_aload hx hb dX8_share_74 (lv_at hl 1 rfl) ?_
              refine x_geto hx hb hf6 hw (by omega) (by omega) sl_15_2 lk158 dX8_share_76 ?_
              refine lv_iload hx hb dX8_share_79 (lv_at hl 7 rfl) ?_
              refine x_aald hx hb hK.1 hw (by omega) (by omega) ar_17 rfl (len_E ar_17 (by first | exact Nat.ne_of_beq_eq_false rfl | decide)) (by omega) (by omega) (by omega) dX8_share_81 (fun y32 => ?_) (fun r33 y32 gr33 lr33 => ?_)
              · refine gos_i (run_V (As := [.ref (ad 15 z1), .int (jI k), .null]) (rest := []) hx hb hml hown hts (c_X8_changeRow_n l D tc base ad cnt X Y ln hR hFx hLn hCI z1 k (by omega) (by omega)) (cwV 3 hts gX8_share_X8_changeRow rfl rfl rfl (by first | exact hd_X8_changeRow | decide +kernel) ⟨Nat.le_of_ble_eq_true rfl, Nat.le_of_ble_eq_true rfl⟩) hK hw (by first | exact Int.le_refl 0 | omega) (by first | exact zlt hc0 | omega) sl_0_0 rfl rfl hl.1 rfl (Nat.le_of_ble_eq_true rfl) dX8_share_82 ⟨Nat.le_of_ble_eq_true rfl, Nat.le_of_ble_eq_true rfl⟩) hS (fun z34 u35 H locs p36 hw hS => ?_)
                obtain ⟨X37, Y38, eu35, hRX37, hG39, hJ40, hCIX37, p36, hcvX37⟩ := p36
                subst eu35
                have hFX37 : Frm [2802, 2803, 2902] X X37 := Frm.tr Frm.rf (Frm.mono hG39 (by first | exact nls_of rfl | decide))
                have hHY38 : Frm [2801, 2804, 1700] Y Y38 := Frm.tr Frm.rf (Frm.mono hJ40 (by first | exact nls_of rfl | decide))
                rw [hQ9]
                refine ret_i (mc := 0) (ms := 0) hx hb hr hlocks hw hS (by first | exact Nat.le_of_ble_eq_true rfl | omega) (by first | exact Nat.le_of_ble_eq_true rfl | omega) dX8_share_85 ?_
                have hT41 : tyo (Y 15 x 0) = r23 := by rw [← ezz1]; exact tyo_some y22
                have hk42 : k < X 19 r23 1 := h5p3 r23 (by rw [← ezz1]; exact y22)
                have hT43 : tyo (Y 15 y 0) = r29 := by rw [← ezz14]; exact tyo_some y28
                have hk44 : j < X 19 r29 1 := h5p16 r29 (by rw [← ezz14]; exact y28)
                rcases hcvX37 with ⟨c1, c2, c3, c4⟩ | ⟨c1, c2, c3, c4, c5, c6⟩
                · refine ⟨X37, Y38, rfl, hRX37, hFX37, hHY38, hCIX37, ?g9p669, ?g9p670, fun _ => ⟨c3, c4⟩, ?g9p671⟩
                  case g9p669 => omega
                  case g9p670 => rw [hT41, hT43]; first | (have h9z : (z34 : Int) = -1 := (by omega); exact Or.inl ⟨(fun q => by (try delta Hid at *); omega), by omega⟩) | (have h9z : (z34 : Int) = -14 := (by omega); exact Or.inr (Or.inl ⟨(by (try delta Hid at *); omega), (by (try delta Hid at *); omega), by omega⟩)) | (have h9z : (z34 : Int) = -4 := (by omega); exact Or.inr (Or.inr (Or.inl ⟨(by (try delta Hid at *); omega), by omega, by omega, (by (try delta Hid at *); omega), by omega⟩))) | (have h9z : (z34 : Int) = 1 := (by omega); exact Or.inr (Or.inr (Or.inr (⟨(by (try delta Hid at *); omega), by omega, by omega, (by (try delta Hid at *); omega), by omega⟩)))) | exact Or.inl ⟨(fun q => by (try delta Hid at *); omega), by omega⟩ | exact Or.inr (Or.inl ⟨(by (try delta Hid at *); omega), (by (try delta Hid at *); omega), by omega⟩) | exact Or.inr (Or.inr (Or.inl ⟨(by (try delta Hid at *); omega), by omega, by omega, (by (try delta Hid at *); omega), by omega⟩)) | exact Or.inr (Or.inr (Or.inr (⟨(by (try delta Hid at *); omega), by omega, by omega, (by (try delta Hid at *); omega), by omega⟩)))
                  case g9p671 => exact fun q => (by exfalso; omega)
                · refine ⟨X37, Y38, rfl, hRX37, hFX37, hHY38, hCIX37, ?g9p672, ?g9p673, ?g9p674, ?g9p675⟩
                  case g9p672 => omega
                  case g9p673 => rw [hT41, hT43]; first | (have h9z : (z34 : Int) = -1 := (by omega); exact Or.inl ⟨(fun q => by (try delta Hid at *); omega), by omega⟩) | (have h9z : (z34 : Int) = -14 := (by omega); exact Or.inr (Or.inl ⟨(by (try delta Hid at *); omega), (by (try delta Hid at *); omega), by omega⟩)) | (have h9z : (z34 : Int) = -4 := (by omega); exact Or.inr (Or.inr (Or.inl ⟨(by (try delta Hid at *); omega), by omega, by omega, (by (try delta Hid at *); omega), by omega⟩))) | (have h9z : (z34 : Int) = 1 := (by omega); exact Or.inr (Or.inr (Or.inr (⟨(by (try delta Hid at *); omega), by omega, by omega, (by (try delta Hid at *); omega), by omega⟩)))) | exact Or.inl ⟨(fun q => by (try delta Hid at *); omega), by omega⟩ | exact Or.inr (Or.inl ⟨(by (try delta Hid at *); omega), (by (try delta Hid at *); omega), by omega⟩) | exact Or.inr (Or.inr (Or.inl ⟨(by (try delta Hid at *); omega), by omega, by omega, (by (try delta Hid at *); omega), by omega⟩)) | exact Or.inr (Or.inr (Or.inr (⟨(by (try delta Hid at *); omega), by omega, by omega, (by (try delta Hid at *); omega), by omega⟩)))
                  case g9p674 => exact fun q => (by exfalso; omega)
                  case g9p675 => exact fun _ => (by rw [← ezz1, ← ezz14, y32]; exact ⟨c3, c4, c5, c6⟩)
              · refine gos_i (run_V (As := [.ref (ad 15 z1), .int (jI k), .ref (ad 26 r33)]) (rest := []) hx hb hml hown hts (c_X8_changeRow_r l D tc base ad cnt X Y ln hR hFx hLn hCI z1 k r33 (by omega) (by omega) (by omega)) (cwV 3 hts gX8_share_X8_changeRow rfl rfl rfl (by first | exact hd_X8_changeRow | decide +kernel) ⟨Nat.le_of_ble_eq_true rfl, Nat.le_of_ble_eq_true rfl⟩) hK hw (by first | exact Int.le_refl 0 | omega) (by first | exact zlt hc0 | omega) sl_0_0 rfl rfl hl.1 rfl (Nat.le_of_ble_eq_true rfl) dX8_share_82 ⟨Nat.le_of_ble_eq_true rfl, Nat.le_of_ble_eq_true rfl⟩) hS (fun z45 u46 H locs p47 hw hS => ?_)
                obtain ⟨X48, Y49, eu46, hRX48, hG50, hJ51, hCIX48, p47, hcvX48⟩ := p47
                subst eu46
                have hFX48 : Frm [2802, 2803, 2902] X X48 := Frm.tr Frm.rf (Frm.mono hG50 (by first | exact nls_of rfl | decide))
                have hHY49 : Frm [2801, 2804, 1700] Y Y49 := Frm.tr Frm.rf (Frm.mono hJ51 (by first | exact nls_of rfl | decide))
                rw [hQ9]
                refine ret_i (mc := 0) (ms := 0) hx hb hr hlocks hw hS (by first | exact Nat.le_of_ble_eq_true rfl | omega) (by first | exact Nat.le_of_ble_eq_true rfl | omega) dX8_share_85 ?_
                have hT52 : tyo (Y 15 x 0) = r23 := by rw [← ezz1]; exact tyo_some y22
                have hk53 : k < X 19 r23 1 := h5p3 r23 (by rw [← ezz1]; exact y22)
                have hT54 : tyo (Y 15 y 0) = r29 := by rw [← ezz14]; exact tyo_some y28
                have hk55 : j < X 19 r29 1 := h5p16 r29 (by rw [← ezz14]; exact y28)
                rcases hcvX48 with ⟨c1, c2, c3, c4⟩ | ⟨c1, c2, c3, c4, c5, c6⟩
                · refine ⟨X48, Y49, rfl, hRX48, hFX48, hHY49, hCIX48, ?g9p676, ?g9p677, fun _ => ⟨c3, c4⟩, ?g9p678⟩
                  case g9p676 => omega
                  case g9p677 => rw [hT52, hT54]; first | (have h9z : (z45 : Int) = -1 := (by omega); exact Or.inl ⟨(fun q => by (try delta Hid at *); omega), by omega⟩) | (have h9z : (z45 : Int) = -14 := (by omega); exact Or.inr (Or.inl ⟨(by (try delta Hid at *); omega), (by (try delta Hid at *); omega), by omega⟩)) | (have h9z : (z45 : Int) = -4 := (by omega); exact Or.inr (Or.inr (Or.inl ⟨(by (try delta Hid at *); omega), by omega, by omega, (by (try delta Hid at *); omega), by omega⟩))) | (have h9z : (z45 : Int) = 1 := (by omega); exact Or.inr (Or.inr (Or.inr (⟨(by (try delta Hid at *); omega), by omega, by omega, (by (try delta Hid at *); omega), by omega⟩)))) | exact Or.inl ⟨(fun q => by (try delta Hid at *); omega), by omega⟩ | exact Or.inr (Or.inl ⟨(by (try delta Hid at *); omega), (by (try delta Hid at *); omega), by omega⟩) | exact Or.inr (Or.inr (Or.inl ⟨(by (try delta Hid at *); omega), by omega, by omega, (by (try delta Hid at *); omega), by omega⟩)) | exact Or.inr (Or.inr (Or.inr (⟨(by (try delta Hid at *); omega), by omega, by omega, (by (try delta Hid at *); omega), by omega⟩)))
                  case g9p678 => exact fun q => (by exfalso; omega)
                · refine ⟨X48, Y49, rfl, hRX48, hFX48, hHY49, hCIX48, ?g9p679, ?g9p680, ?g9p681, ?g9p682⟩
                  case g9p679 => omega
                  case g9p680 => rw [hT52, hT54]; first | (have h9z : (z45 : Int) = -1 := (by omega); exact Or.inl ⟨(fun q => by (try delta Hid at *); omega), by omega⟩) | (have h9z : (z45 : Int) = -14 := (by omega); exact Or.inr (Or.inl ⟨(by (try delta Hid at *); omega), (by (try delta Hid at *); omega), by omega⟩)) | (have h9z : (z45 : Int) = -4 := (by omega); exact Or.inr (Or.inr (Or.inl ⟨(by (try delta Hid at *); omega), by omega, by omega, (by (try delta Hid at *); omega), by omega⟩))) | (have h9z : (z45 : Int) = 1 := (by omega); exact Or.inr (Or.inr (Or.inr (⟨(by (try delta Hid at *); omega), by omega, by omega, (by (try delta Hid at *); omega), by omega⟩)))) | exact Or.inl ⟨(fun q => by (try delta Hid at *); omega), by omega⟩ | exact Or.inr (Or.inl ⟨(by (try delta Hid at *); omega), (by (try delta Hid at *); omega), by omega⟩) | exact Or.inr (Or.inr (Or.inl ⟨(by (try delta Hid at *); omega), by omega, by omega, (by (try delta Hid at *); omega), by omega⟩)) | exact Or.inr (Or.inr (Or.inr (⟨(by (try delta Hid at *); omega), by omega, by omega, (by (try delta Hid at *); omega), by omega⟩)))
                  case g9p681 => exact fun q => (by exfalso; omega)
                  case g9p682 => exact fun _ => (by rw [← ezz1, ← ezz14, y32]; exact ⟨c3, c4, c5, c6⟩)
            · refine lv_iconst (v := jI 4) hx hb dX8_share_65 rfl ?_
              refine gos_i (run_S (As := [.int (jI 4)]) (rest := []) hx hb hml hown hts (c_X8_failed l D tc base ad cnt X Y ln 4 (by omega)) (cwS 1 hts gX8_share_X8_failed rfl rfl rfl (by first | exact hd_X8_failed | decide +kernel) ⟨Nat.le_of_ble_eq_true rfl, Nat.le_of_ble_eq_true rfl⟩) hK hw rfl hl.1 rfl (Nat.le_of_ble_eq_true rfl) dX8_share_66 ⟨Nat.le_of_ble_eq_true rfl, Nat.le_of_ble_eq_true rfl⟩) hS (fun z56 u57 H locs p58 hw hS => ?_)
              obtain ⟨eu57, p58⟩ := p58
              subst eu57
              rw [hQ9]
              refine ret_i (mc := 0) (ms := 0) hx hb hr hlocks hw hS (by first | exact Nat.le_of_ble_eq_true rfl | omega) (by first | exact Nat.le_of_ble_eq_true rfl | omega) dX8_share_69 ?_
              have hT59 : tyo (Y 15 x 0) = r23 := by rw [← ezz1]; exact tyo_some y22
              have hk60 : k < X 19 r23 1 := h5p3 r23 (by rw [← ezz1]; exact y22)
              have hT61 : tyo (Y 15 y 0) = r29 := by rw [← ezz14]; exact tyo_some y28
              have hk62 : j < X 19 r29 1 := h5p16 r29 (by rw [← ezz14]; exact y28)
              refine ⟨X, Y, rfl, hR, Frm.rf, Frm.rf, hCI, ?g9p683, ?g9p684, fun _ => ⟨rfl, rfl⟩, ?g9p685⟩
              case g9p683 => omega
              case g9p684 => rw [hT59, hT61]; first | (have h9z : (z56 : Int) = -1 := (by omega); exact Or.inl ⟨(fun q => by (try delta Hid at *); omega), by omega⟩) | (have h9z : (z56 : Int) = -14 := (by omega); exact Or.inr (Or.inl ⟨(by (try delta Hid at *); omega), (by (try delta Hid at *); omega), by omega⟩)) | (have h9z : (z56 : Int) = -4 := (by omega); exact Or.inr (Or.inr (Or.inl ⟨(by (try delta Hid at *); omega), by omega, by omega, (by (try delta Hid at *); omega), by omega⟩))) | (have h9z : (z56 : Int) = 1 := (by omega); exact Or.inr (Or.inr (Or.inr (⟨(by (try delta Hid at *); omega), by omega, by omega, (by (try delta Hid at *); omega), by omega⟩)))) | exact Or.inl ⟨(fun q => by (try delta Hid at *); omega), by omega⟩ | exact Or.inr (Or.inl ⟨(by (try delta Hid at *); omega), (by (try delta Hid at *); omega), by omega⟩) | exact Or.inr (Or.inr (Or.inl ⟨(by (try delta Hid at *); omega), by omega, by omega, (by (try delta Hid at *); omega), by omega⟩)) | exact Or.inr (Or.inr (Or.inr (⟨(by (try delta Hid at *); omega), by omega, by omega, (by (try delta Hid at *); omega), by omega⟩)))
              case g9p685 => exact fun q => (by exfalso; omega)
        · subst ez25
          refine x_if_eqT (tgt := 65) hx hb (by omega) (by decide) dX8_share_46 (by decide) ?_
          refine lv_iconst (v := jI 4) hx hb dX8_share_65 rfl ?_
          refine gos_i (run_S (As := [.int (jI 4)]) (rest := []) hx hb hml hown hts (c_X8_failed l D tc base ad cnt X Y ln 4 (by omega)) (cwS 1 hts gX8_share_X8_failed rfl rfl rfl (by first | exact hd_X8_failed | decide +kernel) ⟨Nat.le_of_ble_eq_true rfl, Nat.le_of_ble_eq_true rfl⟩) hK hw rfl hl.1 rfl (Nat.le_of_ble_eq_true rfl) dX8_share_66 ⟨Nat.le_of_ble_eq_true rfl, Nat.le_of_ble_eq_true rfl⟩) hS (fun z63 u64 H locs p65 hw hS => ?_)
          obtain ⟨eu64, p65⟩ := p65
          subst eu64
          rw [hQ9]
          refine ret_i (mc := 0) (ms := 0) hx hb hr hlocks hw hS (by first | exact Nat.le_of_ble_eq_true rfl | omega) (by first | exact Nat.le_of_ble_eq_true rfl | omega) dX8_share_69 ?_
          have hT66 : tyo (Y 15 x 0) = r23 := by rw [← ezz1]; exact tyo_some y22
          have hk67 : k < X 19 r23 1 := h5p3 r23 (by rw [← ezz1]; exact y22)
          obtain ⟨r68, y69⟩ := Option.ne_none_iff_exists'.mp (hCI.2.2.2.2.1 z14 (by omega) (by omega))
          have hT70 : tyo (Y 15 y 0) = r68 := by rw [← ezz14]; exact tyo_some y69
          have hk71 : j < X 19 r68 1 := h5p16 r68 (by rw [← ezz14]; exact y69)
          refine ⟨X, Y, rfl, hR, Frm.rf, Frm.rf, hCI, ?g9p686, ?g9p687, fun _ => ⟨rfl, rfl⟩, ?g9p688⟩
          case g9p686 => omega
          case g9p687 => rw [hT66, hT70]; first | (have h9z : (z63 : Int) = -1 := (by omega); exact Or.inl ⟨(fun q => by (try delta Hid at *); omega), by omega⟩) | (have h9z : (z63 : Int) = -14 := (by omega); exact Or.inr (Or.inl ⟨(by (try delta Hid at *); omega), (by (try delta Hid at *); omega), by omega⟩)) | (have h9z : (z63 : Int) = -4 := (by omega); exact Or.inr (Or.inr (Or.inl ⟨(by (try delta Hid at *); omega), by omega, by omega, (by (try delta Hid at *); omega), by omega⟩))) | (have h9z : (z63 : Int) = 1 := (by omega); exact Or.inr (Or.inr (Or.inr (⟨(by (try delta Hid at *); omega), by omega, by omega, (by (try delta Hid at *); omega), by omega⟩)))) | exact Or.inl ⟨(fun q => by (try delta Hid at *); omega), by omega⟩ | exact Or.inr (Or.inl ⟨(by (try delta Hid at *); omega), (by (try delta Hid at *); omega), by omega⟩) | exact Or.inr (Or.inr (Or.inl ⟨(by (try delta Hid at *); omega), by omega, by omega, (by (try delta Hid at *); omega), by omega⟩)) | exact Or.inr (Or.inr (Or.inr (⟨(by (try delta Hid at *); omega), by omega, by omega, (by (try delta Hid at *); omega), by omega⟩)))
          case g9p688 => exact fun q => (by exfalso; omega)

set_option maxHeartbeats 4000000 in
set_option maxRecDepth 100000 in
theorem c_X8_item (l : Launch) (D : va_G) (tc : Nat → ClassId) (base : Nat) (ad : Nat → Int → Nat) (cnt : Nat → Int) (X : Nat → Int → Int → Int) (Y : Nat → Int → Int → Option Int) (ln : Int → Int) (hR : Rng X) (hFx : Fx cnt) (hLn : LnOK ln) (hCI : CInv cnt X Y ln) (x k i v : Int) (hx : -2147483648 ≤ x ∧ x ≤ 2147483647) (hk : -2147483648 ≤ k ∧ k ≤ 2147483647) (hi : -2147483648 ≤ i ∧ i ≤ 2147483647) (hv : -9223372036854775808 ≤ v ∧ v ≤ 9223372036854775807) : KI l D tc base yX8_item wsX8_item ({ frames := 3, cells := 0, slots := 0, locals := 68 } : Room) [.ref (ad 0 0), .int (jI x), .int (jI k), .int (jI i), .long (jL v)] (ad, cnt, X, Y, ln) 0 0 (fun z u => ∃ (X1 : Nat → Int → Int → Int) (Y1 : Nat → Int → Int → Option Int), u = (ad, cnt, X1, Y1, ln) ∧ Rng X1 ∧ Frm [2802, 2803, 2902, 2700] X X1 ∧ Frm [2801, 2804] Y Y1 ∧ CInv cnt X1 Y1 ln ∧ (-2147483648 ≤ z ∧ z ≤ 2147483647) ∧ ((¬ (0 ≤ x ∧ x < X 0 0 3 ∧ 0 ≤ k ∧ k < X 19 (tyo (Y 15 x 0)) 1) ∧ z = -1) ∨ ((0 ≤ x ∧ x < X 0 0 3 ∧ 0 ≤ k ∧ k < X 19 (tyo (Y 15 x 0)) 1) ∧ X 21 (tyo (Y 15 x 0)) k < 3 ∧ z = -14) ∨ ((0 ≤ x ∧ x < X 0 0 3 ∧ 0 ≤ k ∧ k < X 19 (tyo (Y 15 x 0)) 1) ∧ 3 ≤ X 21 (tyo (Y 15 x 0)) k ∧ (rlen ln (Y 17 x k) < 0) ∧ z = -11) ∨ ((0 ≤ x ∧ x < X 0 0 3 ∧ 0 ≤ k ∧ k < X 19 (tyo (Y 15 x 0)) 1) ∧ 3 ≤ X 21 (tyo (Y 15 x 0)) k ∧ ¬ (rlen ln (Y 17 x k) < 0) ∧ ¬ (0 ≤ i ∧ i < rlen ln (Y 17 x k)) ∧ z = -12) ∨ ((0 ≤ x ∧ x < X 0 0 3 ∧ 0 ≤ k ∧ k < X 19 (tyo (Y 15 x 0)) 1) ∧ 3 ≤ X 21 (tyo (Y 15 x 0)) k ∧ ¬ (rlen ln (Y 17 x k) < 0) ∧ (0 ≤ i ∧ i < rlen ln (Y 17 x k)) ∧ 80 ≤ X 29 0 1 ∧ z = -4) ∨ ((0 ≤ x ∧ x < X 0 0 3 ∧ 0 ≤ k ∧ k < X 19 (tyo (Y 15 x 0)) 1) ∧ 3 ≤ X 21 (tyo (Y 15 x 0)) k ∧ ¬ (rlen ln (Y 17 x k) < 0) ∧ (0 ≤ i ∧ i < rlen ln (Y 17 x k)) ∧ X 29 0 1 ≤ 79 ∧ z = 1)) ∧ (z < 0 → X1 = X ∧ Y1 = Y) ∧ (z = 1 → ∃ g, Y 17 x k = some g ∧ eNoteC X X1 Y Y1 none i (X 27 g i) (some g) ∧ X1 27 g i = cutZ (X 21 (tyo (Y 15 x 0)) k) v ∧ ∀ y j, ¬ (y = g ∧ j = i) → X1 27 y j = X 27 y j)) := by
  refine K_of (cc := cX8_item) (maxL := 9) (ret := (some .int)) (by decide) rfl (Nat.le_of_ble_eq_true rfl) ?_
  intro p e s m below meth c ls hx hb hr hml hown hts hlocks hl hK hw hS
  have hown : s.vm.findClass RX8 = some m.cls := hown
  obtain ⟨av9, hav9⟩ : ∃ a9 : Array Value, a9 = ([.ref (ad 0 0), .int (jI x), .int (jI k), .int (jI i), .long (jL v)] : List Value).toArray := ⟨_, rfl⟩
  rw [← hav9] at hts ⊢
  obtain ⟨Q9, hQ9⟩ : ∃ q9Q : State → Prop, q9Q = MQ below (QI D tc base (fun z u => ∃ (X1 : Nat → Int → Int → Int) (Y1 : Nat → Int → Int → Option Int), u = (ad, cnt, X1, Y1, ln) ∧ Rng X1 ∧ Frm [2802, 2803, 2902, 2700] X X1 ∧ Frm [2801, 2804] Y Y1 ∧ CInv cnt X1 Y1 ln ∧ (-2147483648 ≤ z ∧ z ≤ 2147483647) ∧ ((¬ (0 ≤ x ∧ x < X 0 0 3 ∧ 0 ≤ k ∧ k < X 19 (tyo (Y 15 x 0)) 1) ∧ z = -1) ∨ ((0 ≤ x ∧ x < X 0 0 3 ∧ 0 ≤ k ∧ k < X 19 (tyo (Y 15 x 0)) 1) ∧ X 21 (tyo (Y 15 x 0)) k < 3 ∧ z = -14) ∨ ((0 ≤ x ∧ x < X 0 0 3 ∧ 0 ≤ k ∧ k < X 19 (tyo (Y 15 x 0)) 1) ∧ 3 ≤ X 21 (tyo (Y 15 x 0)) k ∧ (rlen ln (Y 17 x k) < 0) ∧ z = -11) ∨ ((0 ≤ x ∧ x < X 0 0 3 ∧ 0 ≤ k ∧ k < X 19 (tyo (Y 15 x 0)) 1) ∧ 3 ≤ X 21 (tyo (Y 15 x 0)) k ∧ ¬ (rlen ln (Y 17 x k) < 0) ∧ ¬ (0 ≤ i ∧ i < rlen ln (Y 17 x k)) ∧ z = -12) ∨ ((0 ≤ x ∧ x < X 0 0 3 ∧ 0 ≤ k ∧ k < X 19 (tyo (Y 15 x 0)) 1) ∧ 3 ≤ X 21 (tyo (Y 15 x 0)) k ∧ ¬ (rlen ln (Y 17 x k) < 0) ∧ (0 ≤ i ∧ i < rlen ln (Y 17 x k)) ∧ 80 ≤ X 29 0 1 ∧ z = -4) ∨ ((0 ≤ x ∧ x < X 0 0 3 ∧ 0 ≤ k ∧ k < X 19 (tyo (Y 15 x 0)) 1) ∧ 3 ≤ X 21 (tyo (Y 15 x 0)) k ∧ ¬ (rlen ln (Y 17 x k) < 0) ∧ (0 ≤ i ∧ i < rlen ln (Y 17 x k)) ∧ X 29 0 1 ≤ 79 ∧ z = 1)) ∧ (z < 0 → X1 = X ∧ Y1 = Y) ∧ (z = 1 → ∃ g, Y 17 x k = some g ∧ eNoteC X X1 Y Y1 none i (X 27 g i) (some g) ∧ X1 27 g i = cutZ (X 21 (tyo (Y 15 x 0)) k) v ∧ ∀ y j, ¬ (y = g ∧ j = i) → X1 27 y j = X 27 y j))) av9 s 0 0 (frA base) := ⟨_, rfl⟩
  rw [← hQ9]
  have hi5 : ∀ w ∈ wsX50, w ∈ wsX8_item := fun w h => List.mem_cons_of_mem _ (List.mem_append_left _ (List.mem_append_left _ (List.mem_append_left _ (List.mem_append_right _ h))))
  have hf5 : fctx s m _ RX8 wsX8_item D tc RX5 TX5 2 5 := ⟨hts, hi5, hown, hK.1, rfl⟩
  have hi6 : ∀ w ∈ wsX60, w ∈ wsX8_item := fun w h => List.mem_cons_of_mem _ (List.mem_append_left _ (List.mem_append_left _ (List.mem_append_left _ (List.mem_append_left _ (List.mem_append_left _ (List.mem_append_right _ h))))))
  have hf6 : fctx s m _ RX8 wsX8_item D tc RX6 TX6 4 6 := ⟨hts, hi6, hown, hK.1, rfl⟩
  have hi7 : ∀ w ∈ wsX70, w ∈ wsX8_item := fun w h => List.mem_cons_of_mem _ (List.mem_append_left _ (List.mem_append_left _ (List.mem_append_left _ (List.mem_append_left _ (List.mem_append_right _ h)))))
  have hf7 : fctx s m _ RX8 wsX8_item D tc RX7 TX7 8 7 := ⟨hts, hi7, hown, hK.1, rfl⟩
  have hi8 : ∀ w ∈ wsX80, w ∈ wsX8_item := fun w h => List.mem_cons_of_mem _ (List.mem_append_left _ (List.mem_append_left _ (List.mem_append_right _ h)))
  have hf8 : fctx s m _ RX8 wsX8_item D tc RX8 TX8 12 8 := ⟨hts, hi8, hown, hK.1, rfl⟩
  have lk51 := hts (.fieldLink RX8 51 (TX8 10).1 (TX8 10).2.1 (TX8 10).2.2.1) (gj_X8_item_0 _ (gp_4 gp_h))
  have lk97 := hts (.fieldLink RX8 97 (TX6 0).1 (TX6 0).2.1 (TX6 0).2.2.1) (gj_X8_item_0 _ (gp_h))
  have lk135 := hts (.fieldLink RX8 135 (TX7 3).1 (TX7 3).2.1 (TX7 3).2.2.1) (gj_X8_item_0 _ (gp_1 gp_h))
  have lk158 := hts (.fieldLink RX8 158 (TX6 2).1 (TX6 2).2.1 (TX6 2).2.2.1) (gj_X8_item_0 _ (gp_1 (gp_1 gp_h)))
  have lk161 := hts (.fieldLink RX8 161 (TX5 0).1 (TX5 0).2.1 (TX5 0).2.2.1) (gj_X8_item_0 _ (gp_1 (gp_1 (gp_1 gp_h))))
  have hc0 : cnt 0 = 1 := hFx.at 0 1 (by decide)
  have hc15 : cnt 15 = 30 := hFx.at 15 30 (by decide)
  have hc17 : cnt 17 = 30 := hFx.at 17 30 (by decide)
  have hc21 : cnt 21 = cnt 19 := hFx.2.1 21 (by decide)
  have hc27 : cnt 27 = cnt 26 := hFx.2.2
  have hc29 : cnt 29 = 1 := hFx.at 29 1 (by decide)
  have hl : lv_has ls 9 [(0, .ref (ad 0 0)), (1, .int (jI x)), (2, .int (jI k)), (3, .int (jI i)), (4, .long (jL v))] := hl
  have ftc : 0 ≤ X 0 0 3 ∧ X 0 0 3 ≤ 30 := hR 0 0 3
  have fty : 0 ≤ X 0 0 1 ∧ X 0 0 1 ≤ 8 := hR 0 0 1
  have hct : cnt 19 = X 0 0 1 := hCI.2.2.2.1.1
  have hfj : 0 ≤ X 29 0 3 ∧ X 29 0 3 ≤ 4 := hR 29 0 3
  have hfn : 0 ≤ X 29 0 1 ∧ X 29 0 1 ≤ 80 := hR 29 0 1
  refine lv_aload_n hx hb dX8_item_0 rfl (lv_at hl 0 rfl) ?_
  refine lv_iload_n hx hb dX8_item_1 rfl (lv_at hl 1 rfl) ?_
  refine lv_iload_n hx hb dX8_item_2 rfl (lv_at hl 2 rfl) ?_
  refine gos_r (run_V (As := [.int (jI x), .int (jI k)]) (rest := []) hx hb hml hown hts (c_X8_thingWithField l D tc base ad cnt X Y ln hR hFx hLn hCI x k (by omega) (by omega)) (cwV 2 hts gX8_item_X8_thingWithField rfl rfl rfl (by first | exact hd_X8_thingWithField | decide +kernel) ⟨Nat.le_of_ble_eq_true rfl, Nat.le_of_ble_eq_true rfl⟩) hK hw (by first | exact Int.le_refl 0 | omega) (by first | exact zlt hc0 | omega) sl_0_0 rfl rfl hl.1 rfl (Nat.le_of_ble_eq_true rfl) dX8_item_3 ⟨Nat.le_of_ble_eq_true rfl, Nat.le_of_ble_eq_true rfl⟩) hS (fun u2 H locs p3 hw hS => ?_) (fun z1 u2 H locs p3 hw hS => ?_)
  · obtain ⟨eu2, hsp3, hnp3⟩ := p3
    subst eu2
    refine lv_astoreN (lv' := [(6, .null), (0, .ref (ad 0 0)), (1, .int (jI x)), (2, .int (jI k)), (3, .int (jI i)), (4, .long (jL v))]) hx hb dX8_item_6 hl (by decide) rfl (fun ls hl => ?_)
    refine lv_aloadN hx hb dX8_item_8 (lv_at hl 0 rfl) ?_
    refine lv_ifnonnullN hx hb dX8_item_10 ?_
    refine lv_iconst (v := jI (-1)) hx hb dX8_item_13 rfl ?_
    rw [hQ9]
    refine ret_i (mc := 0) (ms := 0) hx hb hr hlocks hw hS (by first | exact Nat.le_of_ble_eq_true rfl | omega) (by first | exact Nat.le_of_ble_eq_true rfl | omega) dX8_item_14 ?_
    have h9n4 : ¬ (0 ≤ x ∧ x < X 0 0 3 ∧ 0 ≤ k ∧ k < X 19 (tyo (Y 15 x 0)) 1) := hnp3 rfl
    exact ⟨X, Y, rfl, hR, Frm.rf, Frm.rf, hCI, by omega, (by exact Or.inl ⟨(fun q => by (try delta Hid at *); omega), (by (try delta Hid at *); omega)⟩), fun _ => ⟨rfl, rfl⟩, fun q => (by exfalso; omega)⟩
  · obtain ⟨eu2, hsp3, hnp3⟩ := p3
    subst eu2
    obtain ⟨ezz1, p3, h1p3, h2p3, h3p3, h4p3, h5p3⟩ := hsp3 z1 rfl
    refine lv_astore (lv' := [(6, .ref (ad 15 z1)), (0, .ref (ad 0 0)), (1, .int (jI x)), (2, .int (jI k)), (3, .int (jI i)), (4, .long (jL v))]) hx hb dX8_item_6 hl (by decide) rfl (fun ls hl => ?_)
    refine lv_aload hx hb dX8_item_8 (lv_at hl 0 rfl) ?_
    refine lv_ifnonnull (tgt := 15) hx hb dX8_item_10 (by decide) ?_
    refine lv_aload hx hb dX8_item_15 (lv_at hl 0 rfl) ?_
    refine x_getr (jz := 0) hx hb hf6 hw (by omega) (by omega) sl_15_0 rfl lk97 dX8_item_17 (fun y5 => ?_) (fun r6 y5 gr6 lr6 => ?_)
    · exfalso
      exact absurd y5 (hCI.2.2.2.2.1 z1 (by omega) (by omega))
    · refine x_geto hx hb hf7 hw (by omega) (by omega) sl_19_3 lk135 dX8_item_20 ?_
      refine lv_iload_n hx hb dX8_item_23 rfl (lv_at hl 3 rfl) ?_
      refine x_iald hx hb hK.1 hw (by omega) (by omega) ar_21 (len_E ar_21 (by first | exact Nat.ne_of_beq_eq_false rfl | decide)) (by omega) (by omega) (by omega) dX8_item_24 ?_
      have f7 : 0 ≤ X 21 r6 k ∧ X 21 r6 k ≤ 5 := hR 21 r6 k
      refine lv_istore (lv' := [(7, .int (jI (X 21 r6 k))), (6, .ref (ad 15 z1)), (0, .ref (ad 0 0)), (1, .int (jI x)), (2, .int (jI k)), (3, .int (jI i)), (4, .long (jL v))]) hx hb dX8_item_25 hl (by decide) rfl (fun ls hl => ?_)
      refine lv_iload hx hb dX8_item_27 (lv_at hl 0 rfl) ?_
      refine gos_i (run_S (As := [.int (jI (X 21 r6 k))]) (rest := []) hx hb hml hown hts (c_X8_isRowLane l D tc base ad cnt X Y ln (X 21 r6 k) (by omega)) (cwS 1 hts gX8_item_X8_isRowLane rfl rfl rfl (by first | exact hd_X8_isRowLane | decide +kernel) ⟨Nat.le_of_ble_eq_true rfl, Nat.le_of_ble_eq_true rfl⟩) hK hw rfl hl.1 rfl (Nat.le_of_ble_eq_true rfl) dX8_item_29 ⟨Nat.le_of_ble_eq_true rfl, Nat.le_of_ble_eq_true rfl⟩) hS (fun z8 u9 H locs p10 hw hS => ?_)
      obtain ⟨eu9, p10⟩ := p10
      subst eu9
      rcases p10 with ⟨ez8, p10⟩ | ⟨ez8, p10⟩
      · subst ez8
        refine x_if_neT (tgt := 40) hx hb (by omega) (by decide) dX8_item_32 (by decide) ?_
        refine lv_aload hx hb dX8_item_40 (lv_at hl 1 rfl) ?_
        refine x_geto hx hb hf6 hw (by omega) (by omega) sl_15_2 lk158 dX8_item_42 ?_
        refine lv_iload_n hx hb dX8_item_45 rfl (lv_at hl 4 rfl) ?_
        refine x_aald hx hb hK.1 hw (by omega) (by omega) ar_17 rfl (len_E ar_17 (by first | exact Nat.ne_of_beq_eq_false rfl | decide)) (by omega) (by omega) (by omega) dX8_item_46 (fun y11 => ?_) (fun r12 y11 gr12 lr12 => ?_)
        · refine lv_astoreN (lv' := [(8, .null), (7, .int (jI (X 21 r6 k))), (6, .ref (ad 15 z1)), (0, .ref (ad 0 0)), (1, .int (jI x)), (2, .int (jI k)), (3, .int (jI i)), (4, .long (jL v))]) hx hb dX8_item_47 hl (by decide) rfl (fun ls hl => ?_)
          refine lv_aloadN hx hb dX8_item_49 (lv_at hl 0 rfl) ?_
          refine lv_ifnonnullN hx hb dX8_item_51 ?_
          refine lv_iconst (v := jI 1) hx hb dX8_item_54 rfl ?_
          refine gos_i (run_S (As := [.int (jI 1)]) (rest := []) hx hb hml hown hts (c_X8_failed l D tc base ad cnt X Y ln 1 (by omega)) (cwS 1 hts gX8_item_X8_failed rfl rfl rfl (by first | exact hd_X8_failed | decide +kernel) ⟨Nat.le_of_ble_eq_true rfl, Nat.le_of_ble_eq_true rfl⟩) hK hw rfl hl.1 rfl (Nat.le_of_ble_eq_true rfl) dX8_item_55 ⟨Nat.le_of_ble_eq_true rfl, Nat.le_of_ble_eq_true rfl⟩) hS (fun z13 u14 H locs p15 hw hS => ?_)
          obtain ⟨eu14, p15⟩ := p15
          subst eu14
          rw [hQ9]
          refine ret_i (mc := 0) (ms := 0) hx hb hr hlocks hw hS (by first | exact Nat.le_of_ble_eq_true rfl | omega) (by first | exact Nat.le_of_ble_eq_true rfl | omega) dX8_item_58 ?_
          have hT16 : tyo (Y 15 x 0) = r6 := by rw [← ezz1]; exact tyo_some y5
          have hk17 : k < X 19 r6 1 := h5p3 r6 (by rw [← ezz1]; exact y5)
          have hL18 : rlen ln (Y 17 x k) = -1 := by rw [← ezz1, y11]; rfl
          refine ⟨X, Y, rfl, hR, Frm.rf, Frm.rf, hCI, ?g9p689, ?g9p690, fun _ => ⟨rfl, rfl⟩, ?g9p691⟩
          case g9p689 => omega
          case g9p690 => rw [hT16, hL18]; first | (have h9z : (z13 : Int) = -1 := (by omega); exact Or.inl ⟨(fun q => by (try delta Hid at *); omega), (by (try delta Hid at *); omega)⟩) | (have h9z : (z13 : Int) = -14 := (by omega); exact Or.inr (Or.inl ⟨(by (try delta Hid at *); omega), (by (try delta Hid at *); omega), (by (try delta Hid at *); omega)⟩)) | (have h9z : (z13 : Int) = -11 := (by omega); exact Or.inr (Or.inr (Or.inl ⟨(by (try delta Hid at *); omega), (by (try delta Hid at *); omega), (by (try delta Hid at *); omega), (by (try delta Hid at *); omega)⟩))) | (have h9z : (z13 : Int) = -12 := (by omega); exact Or.inr (Or.inr (Or.inr (Or.inl ⟨(by (try delta Hid at *); omega), (by (try delta Hid at *); omega), (fun q => by (try delta Hid at *); omega), (fun q => by (try delta Hid at *); omega), (by (try delta Hid at *); omega)⟩)))) | (have h9z : (z13 : Int) = -4 := (by omega); exact Or.inr (Or.inr (Or.inr (Or.inr (Or.inl ⟨(by (try delta Hid at *); omega), (by (try delta Hid at *); omega), (fun q => by (try delta Hid at *); omega), (by (try delta Hid at *); omega), (by (try delta Hid at *); omega), (by (try delta Hid at *); omega)⟩))))) | (have h9z : (z13 : Int) = 1 := (by omega); exact Or.inr (Or.inr (Or.inr (Or.inr (Or.inr (⟨(by (try delta Hid at *); omega), (by (try delta Hid at *); omega), (fun q => by (try delta Hid at *); omega), (by (try delta Hid at *); omega), (by (try delta Hid at *); omega), (by (try delta Hid at *); omega)⟩)))))) | exact Or.inl ⟨(fun q => by (try delta Hid at *); omega), (by (try delta Hid at *); omega)⟩ | exact Or.inr (Or.inl ⟨(by (try delta Hid at *); omega), (by (try delta Hid at *); omega), (by (try delta Hid at *); omega)⟩) | exact Or.inr (Or.inr (Or.inl ⟨(by (try delta Hid at *); omega), (by (try delta Hid at *); omega), (by (try delta Hid at *); omega), (by (try delta Hid at *); omega)⟩)) | exact Or.inr (Or.inr (Or.inr (Or.inl ⟨(by (try delta Hid at *); omega), (by (try delta Hid at *); omega), (fun q => by (try delta Hid at *); omega), (fun q => by (try delta Hid at *); omega), (by (try delta Hid at *); omega)⟩))) | exact Or.inr (Or.inr (Or.inr (Or.inr (Or.inl ⟨(by (try delta Hid at *); omega), (by (try delta Hid at *); omega), (fun q => by (try delta Hid at *); omega), (by (try delta Hid at *); omega), (by (try delta Hid at *); omega), (by (try delta Hid at *); omega)⟩)))) | exact Or.inr (Or.inr (Or.inr (Or.inr (Or.inr (⟨(by (try delta Hid at *); omega), (by (try delta Hid at *); omega), (fun q => by (try delta Hid at *); omega), (by (try delta Hid at *); omega), (by (try delta Hid at *); omega), (by (try delta Hid at *); omega)⟩)))))
          case g9p691 => exact fun q => (by exfalso; omega)
        · refine lv_astore (lv' := [(8, .ref (ad 26 r12)), (7, .int (jI (X 21 r6 k))), (6, .ref (ad 15 z1)), (0, .ref (ad 0 0)), (1, .int (jI x)), (2, .int (jI k)), (3, .int (jI i)), (4, .long (jL v))]) hx hb dX8_item_47 hl (by decide) rfl (fun ls hl => ?_)
          refine lv_aload hx hb dX8_item_49 (lv_at hl 0 rfl) ?_
          refine lv_ifnonnull (tgt := 59) hx hb dX8_item_51 (by decide) ?_
          refine lv_iload_n hx hb dX8_item_59 rfl (lv_at hl 6 rfl) ?_
          refine lv_aload hx hb dX8_item_60 (lv_at hl 0 rfl) ?_
          refine x_geto hx hb hf5 hw (by omega) (by omega) sl_26_0 lk161 dX8_item_62 ?_
          have f19 : 0 ≤ ln r12 ∧ ln r12 ≤ 12 := hLn r12
          refine x_alenl hx hb hK.1 hw (by omega) (by omega) ar_27 (show lenE ln 27 r12 = ln r12 from rfl) (by omega) dX8_item_65 ?_
          refine gos_i (run_S (As := [.int (jI i), .int (jI (ln r12))]) (rest := []) hx hb hml hown hts (c_X8_isBelow l D tc base ad cnt X Y ln i (ln r12) (by omega) (by omega)) (cwS 2 hts gX8_item_X8_isBelow rfl rfl rfl (by first | exact hd_X8_isBelow | decide +kernel) ⟨Nat.le_of_ble_eq_true rfl, Nat.le_of_ble_eq_true rfl⟩) hK hw rfl hl.1 rfl (Nat.le_of_ble_eq_true rfl) dX8_item_66 ⟨Nat.le_of_ble_eq_true rfl, Nat.le_of_ble_eq_true rfl⟩) hS (fun z20 u21 H locs p22 hw hS => ?_)
          obtain ⟨eu21, p22⟩ := p22
          subst eu21
          rcases p22 with ⟨ez20, p22⟩ | ⟨ez20, p22⟩
          · subst ez20
            refine x_if_neT (tgt := 77) hx hb (by omega) (by decide) dX8_item_69 (by decide) ?_
            refine lv_aload_n hx hb dX8_item_77 rfl (lv_at hl 3 rfl) ?_
            refine x_geto hx hb hf8 hw (by first | exact Int.le_refl 0 | omega) (by first | exact zlt hc0 | omega) sl_0_10 lk51 dX8_item_78 ?_
            refine gos_i (run_V (As := []) (rest := []) hx hb hml hown hts (c_X2_isFull l D tc base ad cnt X Y ln hR hFx hLn hCI) (cwV 0 hts gX8_item_X2_isFull rfl rfl rfl (by first | exact hd_X2_isFull | decide +kernel) ⟨Nat.le_of_ble_eq_true rfl, Nat.le_of_ble_eq_true rfl⟩) hK hw (by first | exact Int.le_refl 0 | omega) (by first | exact zlt hc29 | omega) sl_29_0 rfl rfl hl.1 rfl (Nat.le_of_ble_eq_true rfl) dX8_item_81 ⟨Nat.le_of_ble_eq_true rfl, Nat.le_of_ble_eq_true rfl⟩) hS (fun z23 u24 H locs p25 hw hS => ?_)
            obtain ⟨eu24, p25⟩ := p25
            subst eu24
            rcases p25 with ⟨ez23, p25⟩ | ⟨ez23, p25⟩
            · subst ez23
              refine x_if_eqF (tgt := 90) hx hb (by omega) (by decide) dX8_item_84 (by decide) ?_
              refine lv_bipush (v := jI (-4)) hx hb dX8_item_87 (by decide) ?_
              rw [hQ9]
              refine ret_i (mc := 0) (ms := 0) hx hb hr hlocks hw hS (by first | exact Nat.le_of_ble_eq_true rfl | omega) (by first | exact Nat.le_of_ble_eq_true rfl | omega) dX8_item_89 ?_
              have hT26 : tyo (Y 15 x 0) = r6 := by rw [← ezz1]; exact tyo_some y5
              have hk27 : k < X 19 r6 1 := h5p3 r6 (by rw [← ezz1]; exact y5)
              have hL28 : rlen ln (Y 17 x k) = ln r12 := by rw [← ezz1, y11]; rfl
              exact ⟨X, Y, rfl, hR, Frm.rf, Frm.rf, hCI, by omega, (by rw [hT26, hL28]; exact Or.inr (Or.inr (Or.inr (Or.inr (Or.inl ⟨(by (try delta Hid at *); omega), (by (try delta Hid at *); omega), (fun q => by (try delta Hid at *); omega), (by (try delta Hid at *); omega), (by (try delta Hid at *); omega), (by (try delta Hid at *); omega)⟩))))), fun _ => ⟨rfl, rfl⟩, fun q => (by exfalso; omega)⟩
            · subst ez23
              refine x_if_eqT (tgt := 90) hx hb (by omega) (by decide) dX8_item_84 (by decide) ?_
              refine lv_aload_n hx hb dX8_item_90 rfl (lv_at hl 3 rfl) ?_
              refine x_geto hx hb hf8 hw (by first | exact Int.le_refl 0 | omega) (by first | exact zlt hc0 | omega) sl_0_10 lk51 dX8_item_91 ?_
              refine lv_aload hx hb dX8_item_94 (lv_at hl 0 rfl) ?_
              refine lv_iload_n hx hb dX8_item_96 rfl (lv_at hl 6 rfl) ?_
              refine gos_v (run_V (As := [.ref (ad 26 r12), .int (jI i)]) (rest := []) hx hb hml hown hts (c_X2_noteItem l D tc base ad cnt X Y ln hR hFx hLn hCI r12 i (by omega) (by omega) (by omega)) (cwV 2 hts gX8_item_X2_noteItem rfl rfl rfl (by first | exact hd_X2_noteItem | decide +kernel) ⟨Nat.le_of_ble_eq_true rfl, Nat.le_of_ble_eq_true rfl⟩) hK hw (by first | exact Int.le_refl 0 | omega) (by first | exact zlt hc29 | omega) sl_29_0 rfl rfl hl.1 rfl (Nat.le_of_ble_eq_true rfl) dX8_item_97 ⟨Nat.le_of_ble_eq_true rfl, Nat.le_of_ble_eq_true rfl⟩) hS (fun u30 H locs p31 hw hS => ?_)
              obtain ⟨X32, Y33, eu30, hRX32, hG34, hJ35, hCIX32, p31, hntX32⟩ := p31
              subst eu30
              have hFX32 : Frm [2802, 2803, 2902, 2700] X X32 := Frm.tr Frm.rf (Frm.mono hG34 (by first | exact nls_of rfl | decide))
              have hHY33 : Frm [2801, 2804] Y Y33 := Frm.tr Frm.rf (Frm.mono hJ35 (by first | exact nls_of rfl | decide))
              refine lv_aload hx hb dX8_item_100 (lv_at hl 0 rfl) ?_
              refine x_geto hx hb hf5 hw (by omega) (by omega) sl_26_0 lk161 dX8_item_102 ?_
              refine lv_iload_n hx hb dX8_item_105 rfl (lv_at hl 6 rfl) ?_
              refine lv_lload hx hb dX8_item_106 (lv_at hl 7 rfl) ?_
              refine lv_iload hx hb dX8_item_108 (lv_at hl 1 rfl) ?_
              refine gos_l (run_S (As := [.long (jL v), .int (jI (X 21 r6 k))]) (rest := [.int (jI i), .ref (ad 27 r12)]) hx hb hml hown hts (c_X8_lowestBits l D tc base ad cnt X32 Y33 ln v (X 21 r6 k) (by omega) (by omega)) (cwS 2 hts gX8_item_X8_lowestBits rfl rfl rfl (by first | exact hd_X8_lowestBits | decide +kernel) ⟨Nat.le_of_ble_eq_true rfl, Nat.le_of_ble_eq_true rfl⟩) hK hw rfl hl.1 rfl (Nat.le_of_ble_eq_true rfl) dX8_item_110 ⟨Nat.le_of_ble_eq_true rfl, Nat.le_of_ble_eq_true rfl⟩) hS (fun z36 u37 H locs p38 hw hS => ?_)
              obtain ⟨eu37, p38⟩ := p38
              subst eu37
              have f39 : 0 ≤ ln r12 ∧ ln r12 ≤ 12 := hLn r12
              refine x_last hx hb hK.1 hw hS (by omega) (by omega) ar_27 (show lenE ln 27 r12 = ln r12 from rfl) (by omega) (by omega) (by omega) dX8_item_113 (fun H locs hw hS => ?_)
              obtain ⟨X40, hX40⟩ : ∃ Xq, Xq = u3 X32 27 r12 i z36 := ⟨_, rfl⟩
              rw [← hX40] at hw
              have hRX40 : Rng X40 := by rw [hX40]; exact rng_set hRX32 (show (-9223372036854775808) ≤ z36 ∧ z36 ≤ 9223372036854775807 by omega)
              have hVX40 : X40 27 r12 i = z36 := by rw [hX40]; exact u3_s _ _ _ _ _
              have hFX40 : Frm [2802, 2803, 2902, 2700] X X40 := by rw [hX40]; exact Frm.set hFX32 (show 2700 ∈ [2802, 2803, 2902, 2700] by first | exact nlm_in rfl | decide)
              refine lv_iconst (v := jI 1) hx hb dX8_item_114 rfl ?_
              rw [hQ9]
              refine ret_i (mc := 0) (ms := 0) hx hb hr hlocks hw hS (by first | exact Nat.le_of_ble_eq_true rfl | omega) (by first | exact Nat.le_of_ble_eq_true rfl | omega) dX8_item_115 ?_
              have hT41 : tyo (Y 15 x 0) = r6 := by rw [← ezz1]; exact tyo_some y5
              have hk42 : k < X 19 r6 1 := h5p3 r6 (by rw [← ezz1]; exact y5)
              have hL43 : rlen ln (Y 17 x k) = ln r12 := by rw [← ezz1, y11]; rfl
              have q44 : Frm [2700] X32 X40 := by rw [hX40]; exact Frm.set Frm.rf (show 2700 ∈ [2700] by first | exact nlm_in rfl | decide)
              have h45 := eNoteC.to (M := [2700]) (N := []) hntX32 q44 Frm.rf (by decide) (by decide) (fun n j => (by rw [hX40, u3_k _ _ _ _ (by first | exact Nat.ne_of_beq_eq_false rfl | decide)])) (fun n j => rfl)
              have q46 : Frm [2700] X32 X40 := by rw [hX40]; exact Frm.set Frm.rf (show 2700 ∈ [2700] by first | exact nlm_in rfl | decide)
              have hCq47 : CInv cnt X40 Y33 ln := cinv_frm (M := [2700]) (N := []) hCIX32 q46 Frm.rf (by decide) (by decide)
              refine ⟨X40, Y33, rfl, hRX40, hFX40, hHY33, hCq47, ?g9p692, ?g9p693, ?g9p694, ?g9p695⟩
              case g9p692 => omega
              case g9p693 => rw [hT41, hL43]; exact Or.inr (Or.inr (Or.inr (Or.inr (Or.inr (⟨(by (try delta Hid at *); omega), (by (try delta Hid at *); omega), (fun q => by (try delta Hid at *); omega), (by (try delta Hid at *); omega), (by (try delta Hid at *); omega), (by (try delta Hid at *); omega)⟩)))))
              case g9p694 => exact fun q => (by exfalso; omega)
              case g9p695 => exact fun _ => ⟨r12, (by rw [← ezz1]; exact y11), h45, (by rw [hT41, hVX40]; omega), fun y j hy => (by rw [hX40, u3_ij hy, hG34 27 y j (show 2700 ∉ [2802, 2803, 2902] by first | exact nlm_ni rfl | decide)])⟩
          · subst ez20
            refine x_if_neF (tgt := 77) hx hb (by omega) (by decide) dX8_item_69 (by decide) ?_
            refine lv_iconst (v := jI 2) hx hb dX8_item_72 rfl ?_
            refine gos_i (run_S (As := [.int (jI 2)]) (rest := []) hx hb hml hown hts (c_X8_failed l D tc base ad cnt X Y ln 2 (by omega)) (cwS 1 hts gX8_item_X8_failed rfl rfl rfl (by first | exact hd_X8_failed | decide +kernel) ⟨Nat.le_of_ble_eq_true rfl, Nat.le_of_ble_eq_true rfl⟩) hK hw rfl hl.1 rfl (Nat.le_of_ble_eq_true rfl) dX8_item_73 ⟨Nat.le_of_ble_eq_true rfl, Nat.le_of_ble_eq_true rfl⟩) hS (fun z48 u49 H locs p50 hw hS => ?_)
            obtain ⟨eu49, p50⟩ := p50
            subst eu49
            rw [hQ9]
            refine ret_i (mc := 0) (ms := 0) hx hb hr hlocks hw hS (by first | exact Nat.le_of_ble_eq_true rfl | omega) (by first | exact Nat.le_of_ble_eq_true rfl | omega) dX8_item_76 ?_
            have hT51 : tyo (Y 15 x 0) = r6 := by rw [← ezz1]; exact tyo_some y5
            have hk52 : k < X 19 r6 1 := h5p3 r6 (by rw [← ezz1]; exact y5)
            have hL53 : rlen ln (Y 17 x k) = ln r12 := by rw [← ezz1, y11]; rfl
            refine ⟨X, Y, rfl, hR, Frm.rf, Frm.rf, hCI, ?g9p696, ?g9p697, fun _ => ⟨rfl, rfl⟩, ?g9p698⟩
            case g9p696 => omega
            case g9p697 => rw [hT51, hL53]; first | (have h9z : (z48 : Int) = -1 := (by omega); exact Or.inl ⟨(fun q => by (try delta Hid at *); omega), (by (try delta Hid at *); omega)⟩) | (have h9z : (z48 : Int) = -14 := (by omega); exact Or.inr (Or.inl ⟨(by (try delta Hid at *); omega), (by (try delta Hid at *); omega), (by (try delta Hid at *); omega)⟩)) | (have h9z : (z48 : Int) = -11 := (by omega); exact Or.inr (Or.inr (Or.inl ⟨(by (try delta Hid at *); omega), (by (try delta Hid at *); omega), (by (try delta Hid at *); omega), (by (try delta Hid at *); omega)⟩))) | (have h9z : (z48 : Int) = -12 := (by omega); exact Or.inr (Or.inr (Or.inr (Or.inl ⟨(by (try delta Hid at *); omega), (by (try delta Hid at *); omega), (fun q => by (try delta Hid at *); omega), (fun q => by (try delta Hid at *); omega), (by (try delta Hid at *); omega)⟩)))) | (have h9z : (z48 : Int) = -4 := (by omega); exact Or.inr (Or.inr (Or.inr (Or.inr (Or.inl ⟨(by (try delta Hid at *); omega), (by (try delta Hid at *); omega), (fun q => by (try delta Hid at *); omega), (by (try delta Hid at *); omega), (by (try delta Hid at *); omega), (by (try delta Hid at *); omega)⟩))))) | (have h9z : (z48 : Int) = 1 := (by omega); exact Or.inr (Or.inr (Or.inr (Or.inr (Or.inr (⟨(by (try delta Hid at *); omega), (by (try delta Hid at *); omega), (fun q => by (try delta Hid at *); omega), (by (try delta Hid at *); omega), (by (try delta Hid at *); omega), (by (try delta Hid at *); omega)⟩)))))) | exact Or.inl ⟨(fun q => by (try delta Hid at *); omega), (by (try delta Hid at *); omega)⟩ | exact Or.inr (Or.inl ⟨(by (try delta Hid at *); omega), (by (try delta Hid at *); omega), (by (try delta Hid at *); omega)⟩) | exact Or.inr (Or.inr (Or.inl ⟨(by (try delta Hid at *); omega), (by (try delta Hid at *); omega), (by (try delta Hid at *); omega), (by (try delta Hid at *); omega)⟩)) | exact Or.inr (Or.inr (Or.inr (Or.inl ⟨(by (try delta Hid at *); omega), (by (try delta Hid at *); omega), (fun q => by (try delta Hid at *); omega), (fun q => by (try delta Hid at *); omega), (by (try delta Hid at *); omega)⟩))) | exact Or.inr (Or.inr (Or.inr (Or.inr (Or.inl ⟨(by (try delta Hid at *); omega), (by (try delta Hid at *); omega), (fun q => by (try delta Hid at *); omega), (by (try delta Hid at *); omega), (by (try delta Hid at *); omega), (by (try delta Hid at *); omega)⟩)))) | exact Or.inr (Or.inr (Or.inr (Or.inr (Or.inr (⟨(by (try delta Hid at *); omega), (by (try delta Hid at *); omega), (fun q => by (try delta Hid at *); omega), (by (try delta Hid at *); omega), (by (try delta Hid at *); omega), (by (try delta Hid at *); omega)⟩)))))
            case g9p698 => exact fun q => (by exfalso; omega)
      · subst ez8
        refine x_if_neF (tgt := 40) hx hb (by omega) (by decide) dX8_item_32 (by decide) ?_
        refine lv_iconst (v := jI 4) hx hb dX8_item_35 rfl ?_
        refine gos_i (run_S (As := [.int (jI 4)]) (rest := []) hx hb hml hown hts (c_X8_failed l D tc base ad cnt X Y ln 4 (by omega)) (cwS 1 hts gX8_item_X8_failed rfl rfl rfl (by first | exact hd_X8_failed | decide +kernel) ⟨Nat.le_of_ble_eq_true rfl, Nat.le_of_ble_eq_true rfl⟩) hK hw rfl hl.1 rfl (Nat.le_of_ble_eq_true rfl) dX8_item_36 ⟨Nat.le_of_ble_eq_true rfl, Nat.le_of_ble_eq_true rfl⟩) hS (fun z54 u55 H locs p56 hw hS => ?_)
        obtain ⟨eu55, p56⟩ := p56
        subst eu55
        rw [hQ9]
        refine ret_i (mc := 0) (ms := 0) hx hb hr hlocks hw hS (by first | exact Nat.le_of_ble_eq_true rfl | omega) (by first | exact Nat.le_of_ble_eq_true rfl | omega) dX8_item_39 ?_
        have hT57 : tyo (Y 15 x 0) = r6 := by rw [← ezz1]; exact tyo_some y5
        have hk58 : k < X 19 r6 1 := h5p3 r6 (by rw [← ezz1]; exact y5)
        refine ⟨X, Y, rfl, hR, Frm.rf, Frm.rf, hCI, ?g9p699, ?g9p700, fun _ => ⟨rfl, rfl⟩, ?g9p701⟩
        case g9p699 => omega
        case g9p700 => rw [hT57]; first | (have h9z : (z54 : Int) = -1 := (by omega); exact Or.inl ⟨(fun q => by (try delta Hid at *); omega), (by (try delta Hid at *); omega)⟩) | (have h9z : (z54 : Int) = -14 := (by omega); exact Or.inr (Or.inl ⟨(by (try delta Hid at *); omega), (by (try delta Hid at *); omega), (by (try delta Hid at *); omega)⟩)) | (have h9z : (z54 : Int) = -11 := (by omega); exact Or.inr (Or.inr (Or.inl ⟨(by (try delta Hid at *); omega), (by (try delta Hid at *); omega), (by (try delta Hid at *); omega), (by (try delta Hid at *); omega)⟩))) | (have h9z : (z54 : Int) = -12 := (by omega); exact Or.inr (Or.inr (Or.inr (Or.inl ⟨(by (try delta Hid at *); omega), (by (try delta Hid at *); omega), (fun q => by (try delta Hid at *); omega), (fun q => by (try delta Hid at *); omega), (by (try delta Hid at *); omega)⟩)))) | (have h9z : (z54 : Int) = -4 := (by omega); exact Or.inr (Or.inr (Or.inr (Or.inr (Or.inl ⟨(by (try delta Hid at *); omega), (by (try delta Hid at *); omega), (fun q => by (try delta Hid at *); omega), (by (try delta Hid at *); omega), (by (try delta Hid at *); omega), (by (try delta Hid at *); omega)⟩))))) | (have h9z : (z54 : Int) = 1 := (by omega); exact Or.inr (Or.inr (Or.inr (Or.inr (Or.inr (⟨(by (try delta Hid at *); omega), (by (try delta Hid at *); omega), (fun q => by (try delta Hid at *); omega), (by (try delta Hid at *); omega), (by (try delta Hid at *); omega), (by (try delta Hid at *); omega)⟩)))))) | exact Or.inl ⟨(fun q => by (try delta Hid at *); omega), (by (try delta Hid at *); omega)⟩ | exact Or.inr (Or.inl ⟨(by (try delta Hid at *); omega), (by (try delta Hid at *); omega), (by (try delta Hid at *); omega)⟩) | exact Or.inr (Or.inr (Or.inl ⟨(by (try delta Hid at *); omega), (by (try delta Hid at *); omega), (by (try delta Hid at *); omega), (by (try delta Hid at *); omega)⟩)) | exact Or.inr (Or.inr (Or.inr (Or.inl ⟨(by (try delta Hid at *); omega), (by (try delta Hid at *); omega), (fun q => by (try delta Hid at *); omega), (fun q => by (try delta Hid at *); omega), (by (try delta Hid at *); omega)⟩))) | exact Or.inr (Or.inr (Or.inr (Or.inr (Or.inl ⟨(by (try delta Hid at *); omega), (by (try delta Hid at *); omega), (fun q => by (try delta Hid at *); omega), (by (try delta Hid at *); omega), (by (try delta Hid at *); omega), (by (try delta Hid at *); omega)⟩)))) | exact Or.inr (Or.inr (Or.inr (Or.inr (Or.inr (⟨(by (try delta Hid at *); omega), (by (try delta Hid at *); omega), (fun q => by (try delta Hid at *); omega), (by (try delta Hid at *); omega), (by (try delta Hid at *); omega), (by (try delta Hid at *); omega)⟩)))))
        case g9p701 => exact fun q => (by exfalso; omega)

