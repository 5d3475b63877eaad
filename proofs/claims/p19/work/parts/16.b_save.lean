set_option maxHeartbeats 4000000 in
set_option maxRecDepth 100000 in
theorem c_X9_save (l : Launch) (D : va_G) (tc : Nat → ClassId) (base : Nat) (ad : Nat → Int → Nat) (cnt : Nat → Int) (X : Nat → Int → Int → Int) (Y : Nat → Int → Int → Option Int) (ln : Int → Int) (hR : Rng X) (hFx : Fx cnt) (hMI : MInv X) (sv x : Int) (hsv : -2147483648 ≤ sv ∧ sv ≤ 2147483647) (hx : -2147483648 ≤ x ∧ x ≤ 2147483647) : KI l D tc base yX9_save wsX9_save ({ frames := 2, cells := 0, slots := 0, locals := 53 } : Room) [.ref (ad 40 0), .int (jI sv), .int (jI x)] (ad, cnt, X, Y, ln) 0 0 (fun z u => ∃ X1 : Nat → Int → Int → Int, u = (ad, cnt, X1, Y, ln) ∧ Rng X1 ∧ Frm [4001, 7100, 7200, 7300, 7400, 7500, 8000, 7000, 8100, 7700, 7800, 7900, 7600, 4042, 4043, 4044] X X1 ∧ MInv X1 ∧ (-2147483648 ≤ z ∧ z ≤ 2147483647) ∧ ((¬ ((0 ≤ sv ∧ sv < 4) ∧ (0 ≤ x ∧ x < X 40 0 13)) ∧ z = -1 ∧ Frm [4001] X X1) ∨ (((0 ≤ sv ∧ sv < 4) ∧ (0 ≤ x ∧ x < X 40 0 13)) ∧ z = -20 ∧ (∃ r k, 0 ≤ r ∧ r < recR (fcM X) (lnM X) (mRid X) (mRid X) x 30 0 0 ∧ 0 ≤ k ∧ k < fcM X (recR (fcM X) (lnM X) (mRid X) (mRid X) x 30 1 r) ∧ X 48 0 (5 * X 55 0 (recR (fcM X) (lnM X) (mRid X) (mRid X) x 30 1 r) + k) ≠ 0) ∧ S4 X X1 ∧ S5 X X1) ∨ (((0 ≤ sv ∧ sv < 4) ∧ (0 ≤ x ∧ x < X 40 0 13)) ∧ z = recR (fcM X) (lnM X) (mRid X) (mRid X) x 30 0 0 ∧ 0 ≤ z ∧ (∀ r k, 0 ≤ r → r < recR (fcM X) (lnM X) (mRid X) (mRid X) x 30 0 0 → 0 ≤ k → k < fcM X (recR (fcM X) (lnM X) (mRid X) (mRid X) x 30 1 r) → X 48 0 (5 * X 55 0 (recR (fcM X) (lnM X) (mRid X) (mRid X) x 30 1 r) + k) = 0) ∧ ∃ E : Nat → Int → Int → Int, rmT E (recR (fcM X) (lnM X) (mRid X) (mRid X) x 30) ∧ rmR E (recR (fcM X) (lnM X) (mRid X) (mRid X) x 30) ∧ rmV E (recR (fcM X) (lnM X) (mRid X) (mRid X) x 30) (recR (fcM X) (lnM X) (mRid X) (mRid X) x 30 0 0) 0 ∧ S4 X E ∧ S5 X E ∧ mSt X E ∧ E 57 = X 57 ∧ E 58 = X 58 ∧ E 59 = X 59 ∧ E 56 = X 56 ∧ svC E X1 sv))) := by
  refine K_of (cc := cX9_save) (maxL := 6) (ret := (some .int)) (by decide) rfl (Nat.le_of_ble_eq_true rfl) ?_
  intro p e s m below meth c ls hx hb hr hml hown hts hlocks hl hK hw hS
  have hown : s.vm.findClass RX9 = some m.cls := hown
  obtain ⟨av9, hav9⟩ : ∃ a9 : Array Value, a9 = ([.ref (ad 40 0), .int (jI sv), .int (jI x)] : List Value).toArray := ⟨_, rfl⟩
  rw [← hav9] at hts ⊢
  obtain ⟨Q9, hQ9⟩ : ∃ q9Q : State → Prop, q9Q = MQ below (QI D tc base (fun z u => ∃ X1 : Nat → Int → Int → Int, u = (ad, cnt, X1, Y, ln) ∧ Rng X1 ∧ Frm [4001, 7100, 7200, 7300, 7400, 7500, 8000, 7000, 8100, 7700, 7800, 7900, 7600, 4042, 4043, 4044] X X1 ∧ MInv X1 ∧ (-2147483648 ≤ z ∧ z ≤ 2147483647) ∧ ((¬ ((0 ≤ sv ∧ sv < 4) ∧ (0 ≤ x ∧ x < X 40 0 13)) ∧ z = -1 ∧ Frm [4001] X X1) ∨ (((0 ≤ sv ∧ sv < 4) ∧ (0 ≤ x ∧ x < X 40 0 13)) ∧ z = -20 ∧ (∃ r k, 0 ≤ r ∧ r < recR (fcM X) (lnM X) (mRid X) (mRid X) x 30 0 0 ∧ 0 ≤ k ∧ k < fcM X (recR (fcM X) (lnM X) (mRid X) (mRid X) x 30 1 r) ∧ X 48 0 (5 * X 55 0 (recR (fcM X) (lnM X) (mRid X) (mRid X) x 30 1 r) + k) ≠ 0) ∧ S4 X X1 ∧ S5 X X1) ∨ (((0 ≤ sv ∧ sv < 4) ∧ (0 ≤ x ∧ x < X 40 0 13)) ∧ z = recR (fcM X) (lnM X) (mRid X) (mRid X) x 30 0 0 ∧ 0 ≤ z ∧ (∀ r k, 0 ≤ r → r < recR (fcM X) (lnM X) (mRid X) (mRid X) x 30 0 0 → 0 ≤ k → k < fcM X (recR (fcM X) (lnM X) (mRid X) (mRid X) x 30 1 r) → X 48 0 (5 * X 55 0 (recR (fcM X) (lnM X) (mRid X) (mRid X) x 30 1 r) + k) = 0) ∧ ∃ E : Nat → Int → Int → Int, rmT E (recR (fcM X) (lnM X) (mRid X) (mRid X) x 30) ∧ rmR E (recR (fcM X) (lnM X) (mRid X) (mRid X) x 30) ∧ rmV E (recR (fcM X) (lnM X) (mRid X) (mRid X) x 30) (recR (fcM X) (lnM X) (mRid X) (mRid X) x 30 0 0) 0 ∧ S4 X E ∧ S5 X E ∧ mSt X E ∧ E 57 = X 57 ∧ E 58 = X 58 ∧ E 59 = X 59 ∧ E 56 = X 56 ∧ svC E X1 sv)))) av9 s 0 0 (frA base) := ⟨_, rfl⟩
  rw [← hQ9]
  have hi9 : ∀ w ∈ wsX90, w ∈ wsX9_save := fun w h => List.mem_cons_of_mem _ (List.mem_append_right _ h)
  have hf9 : fctx s m _ RX9 wsX9_save D tc RX9 TX9 51 9 := ⟨hts, hi9, hown, hK.1, rfl⟩
  have lk81 := hts (.fieldLink RX9 81 (TX9 29).1 (TX9 29).2.1 (TX9 29).2.2.1) (gj_X9_save_0 _ (gp_1 gp_h))
  have lk84 := hts (.fieldLink RX9 84 (TX9 30).1 (TX9 30).2.1 (TX9 30).2.2.1) (gj_X9_save_0 _ (gp_1 (gp_1 (gp_1 gp_h))))
  have lk87 := hts (.fieldLink RX9 87 (TX9 31).1 (TX9 31).2.1 (TX9 31).2.2.1) (gj_X9_save_0 _ (gp_4 gp_h))
  have lk90 := hts (.fieldLink RX9 90 (TX9 32).1 (TX9 32).2.1 (TX9 32).2.2.1) (gj_X9_save_0 _ (gp_4 (gp_1 gp_h)))
  have lk93 := hts (.fieldLink RX9 93 (TX9 33).1 (TX9 33).2.1 (TX9 33).2.2.1) (gj_X9_save_0 _ (gp_4 (gp_1 (gp_1 gp_h))))
  have lk96 := hts (.fieldLink RX9 96 (TX9 34).1 (TX9 34).2.1 (TX9 34).2.2.1) (gj_X9_save_0 _ (gp_4 (gp_1 (gp_1 (gp_1 gp_h)))))
  have lk99 := hts (.fieldLink RX9 99 (TX9 35).1 (TX9 35).2.1 (TX9 35).2.2.1) (gj_X9_save_0 _ (gp_1 (gp_1 gp_h)))
  have lk102 := hts (.fieldLink RX9 102 (TX9 36).1 (TX9 36).2.1 (TX9 36).2.2.1) (gj_X9_save_0 _ (gp_4 (gp_4 gp_h)))
  have lk105 := hts (.fieldLink RX9 105 (TX9 37).1 (TX9 37).2.1 (TX9 37).2.2.1) (gj_X9_save_0 _ (gp_4 (gp_4 (gp_1 gp_h))))
  have lk108 := hts (.fieldLink RX9 108 (TX9 38).1 (TX9 38).2.1 (TX9 38).2.2.1) (gj_X9_save_0 _ (gp_4 (gp_4 (gp_1 (gp_1 gp_h)))))
  have lk145 := hts (.fieldLink RX9 145 (TX9 0).1 (TX9 0).2.1 (TX9 0).2.2.1) (gj_X9_save_0 _ (gp_h))
  have hc40 : cnt 40 = 1 := hFx.at 40 1 (by decide)
  have hc70 : cnt 70 = 1 := hFx.at 70 1 (by decide)
  have hc71 : cnt 71 = 1 := hFx.at 71 1 (by decide)
  have hc72 : cnt 72 = 1 := hFx.at 72 1 (by decide)
  have hc73 : cnt 73 = 1 := hFx.at 73 1 (by decide)
  have hc74 : cnt 74 = 1 := hFx.at 74 1 (by decide)
  have hc75 : cnt 75 = 1 := hFx.at 75 1 (by decide)
  have hc76 : cnt 76 = 1 := hFx.at 76 1 (by decide)
  have hc77 : cnt 77 = 1 := hFx.at 77 1 (by decide)
  have hc78 : cnt 78 = 1 := hFx.at 78 1 (by decide)
  have hc79 : cnt 79 = 1 := hFx.at 79 1 (by decide)
  have hl : lv_has ls 6 [(0, .ref (ad 40 0)), (1, .int (jI sv)), (2, .int (jI x))] := hl
  have fstypes : 0 ≤ X 40 0 2 ∧ X 40 0 2 ≤ 8 := hR 40 0 2
  have fsthings : 0 ≤ X 40 0 13 ∧ X 40 0 13 ≤ 30 := hR 40 0 13
  have fsmarks : 0 ≤ X 40 0 20 ∧ X 40 0 20 ≤ 4 := hR 40 0 20
  have fsnotes : 0 ≤ X 40 0 22 ∧ X 40 0 22 ≤ 80 := hR 40 0 22
  refine lv_aload_n hx hb dX9_save_0 rfl (lv_at hl 0 rfl) ?_
  refine lv_iconst (v := jI 0) hx hb dX9_save_1 rfl ?_
  refine x_puti (jz := 0) hx hb hf9 ⟨tyX9_ok, nmX9⟩ hw hS (by first | exact Int.le_refl 0 | omega) (by first | exact zlt hc40 | omega) sl_40_0 rfl lk145 rfl (tyX9_ok 0 (by decide)) rfl rfl dX9_save_2 (fun H locs hw hS => ?_)
  obtain ⟨X1, hX1⟩ : ∃ Xq, Xq = u3 X 40 0 0 0 := ⟨_, rfl⟩
  rw [← hX1] at hw
  have hRX1 : Rng X1 := by rw [hX1]; exact rng_set hR (show (-2147483648) ≤ 0 ∧ 0 ≤ 2147483647 by omega)
  have hVX1 : X1 40 0 0 = 0 := by rw [hX1]; exact u3_s _ _ _ _ _
  have hFX1 : Frm [4001, 7100, 7200, 7300, 7400, 7500, 8000, 7000, 8100, 7700, 7800, 7900, 7600, 4042, 4043, 4044] X X1 := by rw [hX1]; exact Frm.set Frm.rf (show 4001 ∈ [4001, 7100, 7200, 7300, 7400, 7500, 8000, 7000, 8100, 7700, 7800, 7900, 7600, 4042, 4043, 4044] by first | exact nlm_in rfl | decide)
  refine lv_aload_n hx hb dX9_save_5 rfl (lv_at hl 0 rfl) ?_
  refine lv_iload_n hx hb dX9_save_6 rfl (lv_at hl 1 rfl) ?_
  refine gos_i (run_V (As := [.int (jI sv)]) (rest := []) hx hb hml hown hts (c_X9_isSave l D tc base ad cnt X1 Y ln hRX1 hFx sv (by omega)) (cwV 1 hts gX9_save_X9_isSave rfl rfl rfl (by first | exact hd_X9_isSave | decide +kernel) ⟨Nat.le_of_ble_eq_true rfl, Nat.le_of_ble_eq_true rfl⟩) hK hw (by first | exact Int.le_refl 0 | omega) (by first | exact zlt hc40 | omega) sl_40_0 rfl rfl hl.1 rfl (Nat.le_of_ble_eq_true rfl) dX9_save_7 ⟨Nat.le_of_ble_eq_true rfl, Nat.le_of_ble_eq_true rfl⟩) hS (fun z2 u3 H locs p4 hw hS => ?_)
  obtain ⟨eu3, p4⟩ := p4
  subst eu3
  rcases p4 with ⟨ez2, p4⟩ | ⟨ez2, p4⟩
  · subst ez2
    refine x_if_eqF (tgt := 21) hx hb (by omega) (by decide) dX9_save_10 (by decide) ?_
    refine lv_aload_n hx hb dX9_save_13 rfl (lv_at hl 0 rfl) ?_
    refine lv_iload_n hx hb dX9_save_14 rfl (lv_at hl 2 rfl) ?_
    refine gos_i (run_V (As := [.int (jI x)]) (rest := []) hx hb hml hown hts (c_X9_isThing l D tc base ad cnt X1 Y ln hRX1 hFx x (by omega)) (cwV 1 hts gX9_save_X9_isThing rfl rfl rfl (by first | exact hd_X9_isThing | decide +kernel) ⟨Nat.le_of_ble_eq_true rfl, Nat.le_of_ble_eq_true rfl⟩) hK hw (by first | exact Int.le_refl 0 | omega) (by first | exact zlt hc40 | omega) sl_40_0 rfl rfl hl.1 rfl (Nat.le_of_ble_eq_true rfl) dX9_save_15 ⟨Nat.le_of_ble_eq_true rfl, Nat.le_of_ble_eq_true rfl⟩) hS (fun z5 u6 H locs p7 hw hS => ?_)
    obtain ⟨eu6, p7⟩ := p7
    subst eu6
    have e8 : X1 40 0 13 = X 40 0 13 := by rw [hX1, u3_j _ _ _ _ (by decide)]
    simp only [e8] at p7
    rcases p7 with ⟨ez5, p7⟩ | ⟨ez5, p7⟩
    · subst ez5
      refine x_if_neT (tgt := 23) hx hb (by omega) (by decide) dX9_save_18 (by decide) ?_
      refine lv_aload_n hx hb dX9_save_23 rfl (lv_at hl 0 rfl) ?_
      refine lv_iload_n hx hb dX9_save_24 rfl (lv_at hl 2 rfl) ?_
      refine lv_iconst (v := jI 1) hx hb dX9_save_25 rfl ?_
      have q10 : Frm [4001] X X1 := by rw [hX1]; exact Frm.set Frm.rf (show 4001 ∈ [4001] by first | exact nlm_in rfl | decide)
      have hMq9 : MInv X1 := minv_frm hMI q10 (by decide)
      have e11 : X1 40 0 13 = X 40 0 13 := by rw [hX1, u3_j _ _ _ _ (by decide)]
      refine gos_i (run_V (As := [.int (jI x), .int (jI 1)]) (rest := []) hx hb hml hown hts (c_X9_saves l D tc base ad cnt X1 Y ln hRX1 hFx hMq9 x 1 (by omega) (by simp only [e11]; omega) (by omega)) (cwV 2 hts gX9_save_X9_saves rfl rfl rfl (by first | exact hd_X9_saves | decide +kernel) ⟨Nat.le_of_ble_eq_true rfl, Nat.le_of_ble_eq_true rfl⟩) hK hw (by first | exact Int.le_refl 0 | omega) (by first | exact zlt hc40 | omega) sl_40_0 rfl rfl hl.1 rfl (Nat.le_of_ble_eq_true rfl) dX9_save_26 ⟨Nat.le_of_ble_eq_true rfl, Nat.le_of_ble_eq_true rfl⟩) hS (fun z12 u13 H locs p14 hw hS => ?_)
      obtain ⟨X15, eu13, hRX15, hG16, hMIX15, p14, h4X15, hcX15, hsvX15, h5X15, hm20X15⟩ := p14
      subst eu13
      have hFX15 : Frm [4001, 7100, 7200, 7300, 7400, 7500, 8000, 7000, 8100, 7700, 7800, 7900, 7600, 4042, 4043, 4044] X X15 := Frm.tr hFX1 (Frm.mono hG16 (by first | exact nls_of rfl | decide))
      refine lv_istore_n (lv' := [(3, .int (jI z12)), (0, .ref (ad 40 0)), (1, .int (jI sv)), (2, .int (jI x))]) hx hb dX9_save_29 rfl hl (by decide) rfl (fun ls hl => ?_)
      refine lv_iload_n hx hb dX9_save_30 rfl (lv_at hl 0 rfl) ?_
      refine x_if_ge (tgt := 36) hx hb (by omega) dX9_save_31 (by decide) (fun c17 => ?_) (fun c17 => ?_)
      · refine lv_aload_n hx hb dX9_save_36 rfl (lv_at hl 1 rfl) ?_
        refine x_geto hx hb hf9 hw (by first | exact Int.le_refl 0 | omega) (by first | exact zlt hc40 | omega) sl_40_29 lk81 dX9_save_37 ?_
        refine lv_iload_n hx hb dX9_save_40 rfl (lv_at hl 2 rfl) ?_
        refine lv_iload_n hx hb dX9_save_41 rfl (lv_at hl 0 rfl) ?_
        refine x_iast hx hb hK.1 hw hS (by first | exact Int.le_refl 0 | omega) (by first | exact zlt hc70 | omega) ar_70 (len_E ar_70 (by first | exact Nat.ne_of_beq_eq_false rfl | decide)) (by omega) (by omega) (by omega) dX9_save_42 (fun H locs hw hS => ?_)
        obtain ⟨X18, hX18⟩ : ∃ Xq, Xq = u3 X15 70 0 sv z12 := ⟨_, rfl⟩
        rw [← hX18] at hw
        have hRX18 : Rng X18 := by rw [hX18]; exact rng_set hRX15 (show 0 ≤ z12 ∧ z12 ≤ 30 by omega)
        have hVX18 : X18 70 0 sv = z12 := by rw [hX18]; exact u3_s _ _ _ _ _
        have hFX18 : Frm [4001, 7100, 7200, 7300, 7400, 7500, 8000, 7000, 8100, 7700, 7800, 7900, 7600, 4042, 4043, 4044] X X18 := by rw [hX18]; exact Frm.set hFX15 (show 7000 ∈ [4001, 7100, 7200, 7300, 7400, 7500, 8000, 7000, 8100, 7700, 7800, 7900, 7600, 4042, 4043, 4044] by first | exact nlm_in rfl | decide)
        refine lv_aload_n hx hb dX9_save_43 rfl (lv_at hl 1 rfl) ?_
        refine x_geto hx hb hf9 hw (by first | exact Int.le_refl 0 | omega) (by first | exact zlt hc40 | omega) sl_40_35 lk99 dX9_save_44 ?_
        refine lv_iload_n hx hb dX9_save_47 rfl (lv_at hl 2 rfl) ?_
        refine lv_aload_n hx hb dX9_save_48 rfl (lv_at hl 1 rfl) ?_
        refine x_geto hx hb hf9 hw (by first | exact Int.le_refl 0 | omega) (by first | exact zlt hc40 | omega) sl_40_35 lk99 dX9_save_49 ?_
        refine lv_iconst (v := jI 4) hx hb dX9_save_52 rfl ?_
        refine x_iald hx hb hK.1 hw (by first | exact Int.le_refl 0 | omega) (by first | exact zlt hc76 | omega) ar_76 (len_E ar_76 (by first | exact Nat.ne_of_beq_eq_false rfl | decide)) (by omega) (by omega) (by omega) dX9_save_53 ?_
        have e19 : ∀ p9 q9 : Int, X18 76 p9 q9 = X15 76 p9 q9 := fun p9 q9 => by rw [hX18, u3_k _ _ _ _ (by first | exact Nat.ne_of_beq_eq_false rfl | decide)]
        rw [e19 0 4]
        have f20 : 0 ≤ X15 76 0 4 ∧ X15 76 0 4 ≤ 150 := hRX15 76 0 4
        refine x_iast hx hb hK.1 hw hS (by first | exact Int.le_refl 0 | omega) (by first | exact zlt hc76 | omega) ar_76 (len_E ar_76 (by first | exact Nat.ne_of_beq_eq_false rfl | decide)) (by omega) (by omega) (by omega) dX9_save_54 (fun H locs hw hS => ?_)
        obtain ⟨X21, hX21⟩ : ∃ Xq, Xq = u3 X18 76 0 sv (X15 76 0 4) := ⟨_, rfl⟩
        rw [← hX21] at hw
        have hRX21 : Rng X21 := by rw [hX21]; exact rng_set hRX18 (show 0 ≤ (X15 76 0 4) ∧ (X15 76 0 4) ≤ 150 by omega)
        have hVX21 : X21 76 0 sv = (X15 76 0 4) := by rw [hX21]; exact u3_s _ _ _ _ _
        have hFX21 : Frm [4001, 7100, 7200, 7300, 7400, 7500, 8000, 7000, 8100, 7700, 7800, 7900, 7600, 4042, 4043, 4044] X X21 := by rw [hX21]; exact Frm.set hFX18 (show 7600 ∈ [4001, 7100, 7200, 7300, 7400, 7500, 8000, 7000, 8100, 7700, 7800, 7900, 7600, 4042, 4043, 4044] by first | exact nlm_in rfl | decide)
        refine lv_iconst (v := jI 0) hx hb dX9_save_55 rfl ?_
        refine lv_istore (lv' := [(4, .int (jI 0)), (3, .int (jI z12)), (0, .ref (ad 40 0)), (1, .int (jI sv)), (2, .int (jI x))]) hx hb dX9_save_56 hl (by decide) rfl (fun ls hl => ?_)
        have lp58 : ∀ (nn : Nat) (r : Int) (Xa : Nat → Int → Int → Int) (H : Heap) (locs : List Loc) (ls : Array Slot), (30 - r) < (nn : Int) → (Rng Xa) → (Frm [7100, 7200, 7300, 7400, 7500] X21 Xa) → (0 ≤ r ∧ r ≤ 30) → (Cpy X15 Xa sv r r 0) → (CpK 71 X15 Xa (30 * sv) 120 r) → (CpK 72 X15 Xa (30 * sv) 120 r) → (CpK 73 X15 Xa (150 * sv) 600 (5 * r)) → (CpK 74 X15 Xa (150 * sv) 600 (5 * r)) → (CpK 75 X15 Xa (150 * sv) 600 (5 * r)) → (r ≤ z12) → wd D tc base (ad, cnt, Xa, Y, ln) H → va_S (frA base) s.heap H locs → lv_has ls 6 [(0, .ref (ad 40 0)), (1, .int (jI sv)), (2, .int (jI x)), (3, .int (jI z12)), (4, .int (jI r))] → W p l e ({ frames := 2, cells := 0, slots := 0, locals := 53 } : Room) s m av9 below meth c H locs 0 0 Q9 (F0 m 58 ls []) := by
          intro nn
          induction nn with
          | zero => intro r Xa H locs ls hm hRXa hGXa hr0 hCa c71 c72 c73 c74 c75 hrn hw hS hl; exfalso; omega
          | succ nn ih58 =>
            intro r Xa H locs ls hm hRXa hGXa hr0 hCa c71 c72 c73 c74 c75 hrn hw hS hl
            have hFXa : Frm [4001, 7100, 7200, 7300, 7400, 7500, 8000, 7000, 8100, 7700, 7800, 7900, 7600, 4042, 4043, 4044] X Xa := Frm.tr hFX21 (Frm.mono hGXa (by first | exact nls_of rfl | decide))
            refine lv_iload hx hb dX9_save_58 (lv_at hl 4 rfl) ?_
            refine lv_iload_n hx hb dX9_save_60 rfl (lv_at hl 3 rfl) ?_
            refine x_icmp_ge (tgt := 225) hx hb (by omega) (by omega) dX9_save_61 (by decide) (fun c22 => ?_) (fun c22 => ?_)
            · refine lv_iconst (v := jI 0) hx hb dX9_save_225 rfl ?_
              refine lv_istore (lv' := [(4, .int (jI 0)), (0, .ref (ad 40 0)), (1, .int (jI sv)), (2, .int (jI x)), (3, .int (jI z12))]) hx hb dX9_save_226 hl (by decide) rfl (fun ls hl => ?_)
              have lp228 : ∀ (nn : Nat) (r : Int) (Xc : Nat → Int → Int → Int) (H : Heap) (locs : List Loc) (ls : Array Slot), (150 - r) < (nn : Int) → (Rng Xc) → (Frm [7700, 7800, 7900] Xa Xc) → (0 ≤ r ∧ r ≤ 150) → (CpK 77 X15 Xc (150 * sv) 600 r) → (CpK 78 X15 Xc (150 * sv) 600 r) → (CpK 79 X15 Xc (1800 * sv) 7200 (12 * r)) → (r ≤ X15 76 0 4) → wd D tc base (ad, cnt, Xc, Y, ln) H → va_S (frA base) s.heap H locs → lv_has ls 6 [(0, .ref (ad 40 0)), (1, .int (jI sv)), (2, .int (jI x)), (3, .int (jI z12)), (4, .int (jI r))] → W p l e ({ frames := 2, cells := 0, slots := 0, locals := 53 } : Room) s m av9 below meth c H locs 0 0 Q9 (F0 m 228 ls []) := by
                intro nn
                induction nn with
                | zero => intro r Xc H locs ls hm hRXc hGXc hr0 c77 c78 c79 hrw9 hw hS hl; exfalso; omega
                | succ nn ih228 =>
                  intro r Xc H locs ls hm hRXc hGXc hr0 c77 c78 c79 hrw9 hw hS hl
                  have hFXc : Frm [4001, 7100, 7200, 7300, 7400, 7500, 8000, 7000, 8100, 7700, 7800, 7900, 7600, 4042, 4043, 4044] X Xc := Frm.tr hFXa (Frm.mono hGXc (by first | exact nls_of rfl | decide))
                  have e76s : X21 76 0 4 = X15 76 0 4 := by rw [hX21, u3_j _ _ _ _ (by omega), hX18, u3_k _ _ _ _ (by first | exact Nat.ne_of_beq_eq_false rfl | decide)]
                  refine lv_iload hx hb dX9_save_228 (lv_at hl 4 rfl) ?_
                  refine lv_aload_n hx hb dX9_save_230 rfl (lv_at hl 0 rfl) ?_
                  refine x_geto hx hb hf9 hw (by first | exact Int.le_refl 0 | omega) (by first | exact zlt hc40 | omega) sl_40_35 lk99 dX9_save_231 ?_
                  refine lv_iconst (v := jI 4) hx hb dX9_save_234 rfl ?_
                  refine x_iald hx hb hK.1 hw (by first | exact Int.le_refl 0 | omega) (by first | exact zlt hc76 | omega) ar_76 (len_E ar_76 (by first | exact Nat.ne_of_beq_eq_false rfl | decide)) (by omega) (by omega) (by omega) dX9_save_235 ?_
                  have e23 : ∀ p9 q9 : Int, Xc 76 p9 q9 = X21 76 p9 q9 := fun p9 q9 => by rw [hGXc 76 p9 q9 (show 7600 ∉ [7700, 7800, 7900] by first | exact nlm_ni rfl | decide), hGXa 76 p9 q9 (show 7600 ∉ [7100, 7200, 7300, 7400, 7500] by first | exact nlm_ni rfl | decide)]
                  rw [e23 0 4]
                  have f24 : 0 ≤ X21 76 0 4 ∧ X21 76 0 4 ≤ 150 := hRX21 76 0 4
                  refine x_icmp_ge (tgt := 345) hx hb (by omega) (by omega) dX9_save_236 (by decide) (fun c25 => ?_) (fun c25 => ?_)
                  · refine lv_iload_n hx hb dX9_save_345 rfl (lv_at hl 3 rfl) ?_
                    rw [hQ9]
                    refine ret_i (mc := 0) (ms := 0) hx hb hr hlocks hw hS (by first | exact Nat.le_of_ble_eq_true rfl | omega) (by first | exact Nat.le_of_ble_eq_true rfl | omega) dX9_save_346 ?_
                    have q26 : Frm [7000, 7100, 7200, 7300, 7400, 7500, 7600, 7700, 7800, 7900] X15 X18 := by rw [hX18]; exact Frm.set Frm.rf (show 7000 ∈ [7000, 7100, 7200, 7300, 7400, 7500, 7600, 7700, 7800, 7900] by first | exact nlm_in rfl | decide)
                    have q27 : Frm [7000, 7100, 7200, 7300, 7400, 7500, 7600, 7700, 7800, 7900] X15 X21 := by rw [hX21]; exact Frm.set q26 (show 7600 ∈ [7000, 7100, 7200, 7300, 7400, 7500, 7600, 7700, 7800, 7900] by first | exact nlm_in rfl | decide)
                    have q28 : Frm [7000, 7100, 7200, 7300, 7400, 7500, 7600, 7700, 7800, 7900] X15 Xa := Frm.tr q27 (Frm.mono hGXa (by first | exact nls_of rfl | decide))
                    have q29 : Frm [4001] X X1 := by rw [hX1]; exact Frm.set Frm.rf (show 4001 ∈ [4001] by first | exact nlm_in rfl | decide)
                    have hrd30 := rdr_eq (L := [4001]) q29 (by decide)
                    have hsx31 := hsvX15
                    rw [hrd30.1, hrd30.2.1, hrd30.2.2, Frm.arr q29 48 (by decide +kernel) (by decide), Frm.arr q29 55 (by decide +kernel) (by decide)] at hsx31
                    have q32 : Frm [4001, 4042, 4043, 4044, 7000, 7100, 7200, 7300, 7400, 7500, 7600, 7700, 7800, 7900, 8000, 8100] X X1 := by rw [hX1]; exact Frm.set Frm.rf (show 4001 ∈ [4001, 4042, 4043, 4044, 7000, 7100, 7200, 7300, 7400, 7500, 7600, 7700, 7800, 7900, 8000, 8100] by first | exact nlm_in rfl | decide)
                    have q33 : Frm [4001, 4042, 4043, 4044, 7000, 7100, 7200, 7300, 7400, 7500, 7600, 7700, 7800, 7900, 8000, 8100] X X15 := Frm.tr q32 (Frm.mono hG16 (by first | exact nls_of rfl | decide))
                    have hn34 : X15 70 0 4 = z12 := ((hcX15 (by omega)).1).symm
                    have q35 : Frm [7700, 7800, 7900] Xa Xc := Frm.tr Frm.rf (Frm.mono hGXc (by first | exact nls_of rfl | decide))
                    have q36 : Frm [7700, 7800, 7900] Xa Xc := Frm.tr Frm.rf (Frm.mono hGXc (by first | exact nls_of rfl | decide))
                    have q37 : Frm [7700, 7800, 7900] Xa Xc := Frm.tr Frm.rf (Frm.mono hGXc (by first | exact nls_of rfl | decide))
                    have q38 : Frm [7700, 7800, 7900] Xa Xc := Frm.tr Frm.rf (Frm.mono hGXc (by first | exact nls_of rfl | decide))
                    have q39 : Frm [7700, 7800, 7900] Xa Xc := Frm.tr Frm.rf (Frm.mono hGXc (by first | exact nls_of rfl | decide))
                    refine ⟨Xc, rfl, hRXc, hFXc, ?g9p410, ?g9p411, ?g9p412⟩
                    case g9p410 => exact minv_frm (minv_save (n := z12) hMIX15 hRX15 (hcX15 (by omega)).2 ((hcX15 (by omega)).1).symm (by omega) q28 (fun j hj => (by rw [hGXa 70 0 j (show 7000 ∉ [7100, 7200, 7300, 7400, 7500] by first | exact nlm_ni rfl | decide), hX21, u3_k _ _ _ _ (by first | exact Nat.ne_of_beq_eq_false rfl | decide), hX18, u3_j _ _ _ _ hj])) (by rw [hGXa 70 0 sv (show 7000 ∉ [7100, 7200, 7300, 7400, 7500] by first | exact nlm_ni rfl | decide), hX21, u3_k _ _ _ _ (by first | exact Nat.ne_of_beq_eq_false rfl | decide)]; exact hVX18) (hCa.le (by omega)) (by omega)) hGXc (by decide)
                    case g9p411 => omega
                    case g9p412 => rcases hsx31 with ⟨q, -, -⟩ | ⟨q1, q2, q3, q4, q5⟩; exfalso; omega; exact Or.inr (Or.inr ⟨(by (try delta Hid at *); omega), q1, by omega, q2 rfl, X15, q3, q4, q5, S4.tr (S4.frm q29 (by decide)) h4X15, S5.tr (S5.frm q29 (by decide)) h5X15, mSt.of q33 (by decide), Frm.arr q33 57 (by decide +kernel) (by decide), Frm.arr q33 58 (by decide +kernel) (by decide), Frm.arr q33 59 (by decide +kernel) (by decide), Frm.arr q33 56 (by decide +kernel) (by decide), (by rw [hGXc 70 0 sv (show 7000 ∉ [7700, 7800, 7900] by first | exact nlm_ni rfl | decide), hGXa 70 0 sv (show 7000 ∉ [7100, 7200, 7300, 7400, 7500] by first | exact nlm_ni rfl | decide), hX21, u3_k _ _ _ _ (by first | exact Nat.ne_of_beq_eq_false rfl | decide)]; rw [hVX18]; omega), (by rw [hGXc 76 0 sv (show 7600 ∉ [7700, 7800, 7900] by first | exact nlm_ni rfl | decide), hGXa 76 0 sv (show 7600 ∉ [7100, 7200, 7300, 7400, 7500] by first | exact nlm_ni rfl | decide)]; exact hVX21), fun j hj => ⟨(by rw [hGXc 70 0 j (show 7000 ∉ [7700, 7800, 7900] by first | exact nlm_ni rfl | decide), hGXa 70 0 j (show 7000 ∉ [7100, 7200, 7300, 7400, 7500] by first | exact nlm_ni rfl | decide), hX21, u3_k _ _ _ _ (by first | exact Nat.ne_of_beq_eq_false rfl | decide), hX18, u3_j _ _ _ _ hj]), (by rw [hGXc 76 0 j (show 7600 ∉ [7700, 7800, 7900] by first | exact nlm_ni rfl | decide), hGXa 76 0 j (show 7600 ∉ [7100, 7200, 7300, 7400, 7500] by first | exact nlm_ni rfl | decide), hX21, u3_j _ _ _ _ hj, hX18, u3_k _ _ _ _ (by first | exact Nat.ne_of_beq_eq_false rfl | decide)])⟩, (CpK.len (CpK.of c71 (Frm.arr q35 71 (by decide +kernel) (by decide))) (by omega)), (CpK.len (CpK.of c72 (Frm.arr q36 72 (by decide +kernel) (by decide))) (by omega)), (CpK.len (CpK.of c73 (Frm.arr q37 73 (by decide +kernel) (by decide))) (by omega)), (CpK.len (CpK.of c74 (Frm.arr q38 74 (by decide +kernel) (by decide))) (by omega)), (CpK.len (CpK.of c75 (Frm.arr q39 75 (by decide +kernel) (by decide))) (by omega)), (CpK.len (CpK.of c77 rfl) (by omega)), (CpK.len (CpK.of c78 rfl) (by omega)), (CpK.len (CpK.of c79 rfl) (by omega))⟩)
                  · refine lv_aload_n hx hb dX9_save_239 rfl (lv_at hl 0 rfl) ?_
                    refine x_geto hx hb hf9 hw (by first | exact Int.le_refl 0 | omega) (by first | exact zlt hc40 | omega) sl_40_36 lk102 dX9_save_240 ?_
                    refine lv_sipush (v := jI 150) hx hb dX9_save_243 (by decide) ?_
                    refine lv_iload_n hx hb dX9_save_246 rfl (lv_at hl 1 rfl) ?_
                    refine x_imul hx hb dX9_save_247 ?_
                    refine lv_iload hx hb dX9_save_248 (lv_at hl 4 rfl) ?_
                    refine x_iadd hx hb dX9_save_250 ?_
                    refine lv_aload_n hx hb dX9_save_251 rfl (lv_at hl 0 rfl) ?_
                    refine x_geto hx hb hf9 hw (by first | exact Int.le_refl 0 | omega) (by first | exact zlt hc40 | omega) sl_40_36 lk102 dX9_save_252 ?_
                    refine lv_sipush (v := jI 600) hx hb dX9_save_255 (by decide) ?_
                    refine lv_iload hx hb dX9_save_258 (lv_at hl 4 rfl) ?_
                    refine x_iadd hx hb dX9_save_260 ?_
                    refine x_iald hx hb hK.1 hw (by first | exact Int.le_refl 0 | omega) (by first | exact zlt hc77 | omega) ar_77 (len_E ar_77 (by first | exact Nat.ne_of_beq_eq_false rfl | decide)) (by omega) (by omega) (by omega) dX9_save_261 ?_
                    have f40 : 0 ≤ Xc 77 0 (600 + r) ∧ Xc 77 0 (600 + r) ≤ 5 := hRXc 77 0 (600 + r)
                    refine x_iast hx hb hK.1 hw hS (by first | exact Int.le_refl 0 | omega) (by first | exact zlt hc77 | omega) ar_77 (len_E ar_77 (by first | exact Nat.ne_of_beq_eq_false rfl | decide)) (by omega) (by omega) (by omega) dX9_save_262 (fun H locs hw hS => ?_)
                    obtain ⟨X41, hX41⟩ : ∃ Xq, Xq = u3 Xc 77 0 ((150 * sv) + r) (Xc 77 0 (600 + r)) := ⟨_, rfl⟩
                    rw [← hX41] at hw
                    have hRX41 : Rng X41 := by rw [hX41]; exact rng_set hRXc (show 0 ≤ (Xc 77 0 (600 + r)) ∧ (Xc 77 0 (600 + r)) ≤ 5 by omega)
                    have hVX41 : X41 77 0 ((150 * sv) + r) = (Xc 77 0 (600 + r)) := by rw [hX41]; exact u3_s _ _ _ _ _
                    have hFX41 : Frm [4001, 7100, 7200, 7300, 7400, 7500, 8000, 7000, 8100, 7700, 7800, 7900, 7600, 4042, 4043, 4044] X X41 := by rw [hX41]; exact Frm.set hFXc (show 7700 ∈ [4001, 7100, 7200, 7300, 7400, 7500, 8000, 7000, 8100, 7700, 7800, 7900, 7600, 4042, 4043, 4044] by first | exact nlm_in rfl | decide)
                    refine lv_aload_n hx hb dX9_save_263 rfl (lv_at hl 0 rfl) ?_
                    refine x_geto hx hb hf9 hw (by first | exact Int.le_refl 0 | omega) (by first | exact zlt hc40 | omega) sl_40_37 lk105 dX9_save_264 ?_
                    refine lv_sipush (v := jI 150) hx hb dX9_save_267 (by decide) ?_
                    refine lv_iload_n hx hb dX9_save_270 rfl (lv_at hl 1 rfl) ?_
                    refine x_imul hx hb dX9_save_271 ?_
                    refine lv_iload hx hb dX9_save_272 (lv_at hl 4 rfl) ?_
                    refine x_iadd hx hb dX9_save_274 ?_
                    refine lv_aload_n hx hb dX9_save_275 rfl (lv_at hl 0 rfl) ?_
                    refine x_geto hx hb hf9 hw (by first | exact Int.le_refl 0 | omega) (by first | exact zlt hc40 | omega) sl_40_37 lk105 dX9_save_276 ?_
                    refine lv_sipush (v := jI 600) hx hb dX9_save_279 (by decide) ?_
                    refine lv_iload hx hb dX9_save_282 (lv_at hl 4 rfl) ?_
                    refine x_iadd hx hb dX9_save_284 ?_
                    refine x_iald hx hb hK.1 hw (by first | exact Int.le_refl 0 | omega) (by first | exact zlt hc78 | omega) ar_78 (len_E ar_78 (by first | exact Nat.ne_of_beq_eq_false rfl | decide)) (by omega) (by omega) (by omega) dX9_save_285 ?_
                    have e42 : ∀ p9 q9 : Int, X41 78 p9 q9 = Xc 78 p9 q9 := fun p9 q9 => by rw [hX41, u3_k _ _ _ _ (by first | exact Nat.ne_of_beq_eq_false rfl | decide)]
                    rw [e42 0 (600 + r)]
                    have f43 : 0 ≤ Xc 78 0 (600 + r) ∧ Xc 78 0 (600 + r) ≤ 12 := hRXc 78 0 (600 + r)
                    refine x_iast hx hb hK.1 hw hS (by first | exact Int.le_refl 0 | omega) (by first | exact zlt hc78 | omega) ar_78 (len_E ar_78 (by first | exact Nat.ne_of_beq_eq_false rfl | decide)) (by omega) (by omega) (by omega) dX9_save_286 (fun H locs hw hS => ?_)
                    obtain ⟨X44, hX44⟩ : ∃ Xq, Xq = u3 X41 78 0 ((150 * sv) + r) (Xc 78 0 (600 + r)) := ⟨_, rfl⟩
                    rw [← hX44] at hw
                    have hRX44 : Rng X44 := by rw [hX44]; exact rng_set hRX41 (show 0 ≤ (Xc 78 0 (600 + r)) ∧ (Xc 78 0 (600 + r)) ≤ 12 by omega)
                    have hVX44 : X44 78 0 ((150 * sv) + r) = (Xc 78 0 (600 + r)) := by rw [hX44]; exact u3_s _ _ _ _ _
                    have hFX44 : Frm [4001, 7100, 7200, 7300, 7400, 7500, 8000, 7000, 8100, 7700, 7800, 7900, 7600, 4042, 4043, 4044] X X44 := by rw [hX44]; exact Frm.set hFX41 (show 7800 ∈ [4001, 7100, 7200, 7300, 7400, 7500, 8000, 7000, 8100, 7700, 7800, 7900, 7600, 4042, 4043, 4044] by first | exact nlm_in rfl | decide)
                    refine lv_iconst (v := jI 0) hx hb dX9_save_287 rfl ?_
                    refine lv_istore (lv' := [(5, .int (jI 0)), (0, .ref (ad 40 0)), (1, .int (jI sv)), (2, .int (jI x)), (3, .int (jI z12)), (4, .int (jI r))]) hx hb dX9_save_288 hl (by decide) rfl (fun ls hl => ?_)
                    have lp290 : ∀ (nn : Nat) (k : Int) (Xd : Nat → Int → Int → Int) (H : Heap) (locs : List Loc) (ls : Array Slot), (12 - k) < (nn : Int) → (Rng Xd) → (Frm [7900] X44 Xd) → (0 ≤ k ∧ k ≤ 12) → (CpK 77 X15 Xd (150 * sv) 600 (r + 1)) → (CpK 78 X15 Xd (150 * sv) 600 (r + 1)) → (CpK 79 X15 Xd (1800 * sv) 7200 (12 * r + k)) → wd D tc base (ad, cnt, Xd, Y, ln) H → va_S (frA base) s.heap H locs → lv_has ls 6 [(0, .ref (ad 40 0)), (1, .int (jI sv)), (2, .int (jI x)), (3, .int (jI z12)), (4, .int (jI r)), (5, .int (jI k))] → W p l e ({ frames := 2, cells := 0, slots := 0, locals := 53 } : Room) s m av9 below meth c H locs 0 0 Q9 (F0 m 290 ls []) := by
                      intro nn
                      induction nn with
                      | zero => intro k Xd H locs ls hm hRXd hGXd hk d77 d78 d79 hw hS hl; exfalso; omega
                      | succ nn ih290 =>
                        intro k Xd H locs ls hm hRXd hGXd hk d77 d78 d79 hw hS hl
                        have hFXd : Frm [4001, 7100, 7200, 7300, 7400, 7500, 8000, 7000, 8100, 7700, 7800, 7900, 7600, 4042, 4043, 4044] X Xd := Frm.tr hFX44 (Frm.mono hGXd (by first | exact nls_of rfl | decide))
                        refine lv_iload hx hb dX9_save_290 (lv_at hl 5 rfl) ?_
                        refine lv_bipush (v := jI 12) hx hb dX9_save_292 (by decide) ?_
                        refine x_icmp_ge (tgt := 339) hx hb (by omega) (by omega) dX9_save_294 (by decide) (fun c45 => ?_) (fun c45 => ?_)
                        · refine lv_iinc (v := jI (r + 1)) (lv' := [(4, .int (jI (r + 1))), (0, .ref (ad 40 0)), (1, .int (jI sv)), (2, .int (jI x)), (3, .int (jI z12)), (5, .int (jI k))]) hx hb dX9_save_339 hl (k := 4) rfl (jI_add _ _) (by decide) rfl (fun ls hl => ?_)
                          refine lv_goto (tgt := 228) hx hb dX9_save_342 (by decide) ?_
                          have q46 : Frm [7700, 7800, 7900] Xa Xc := Frm.tr Frm.rf (Frm.mono hGXc (by first | exact nls_of rfl | decide))
                          have q47 : Frm [7700, 7800, 7900] Xa X41 := by rw [hX41]; exact Frm.set q46 (show 7700 ∈ [7700, 7800, 7900] by first | exact nlm_in rfl | decide)
                          have q48 : Frm [7700, 7800, 7900] Xa X44 := by rw [hX44]; exact Frm.set q47 (show 7800 ∈ [7700, 7800, 7900] by first | exact nlm_in rfl | decide)
                          have q49 : Frm [7700, 7800, 7900] Xa Xd := Frm.tr q48 (Frm.mono hGXd (by first | exact nls_of rfl | decide))
                          have e50 : Xd 76 0 4 = X21 76 0 4 := by rw [hGXd 76 0 4 (show 7600 ∉ [7900] by first | exact nlm_ni rfl | decide), hX44, u3_k _ _ _ _ (by first | exact Nat.ne_of_beq_eq_false rfl | decide), hX41, u3_k _ _ _ _ (by first | exact Nat.ne_of_beq_eq_false rfl | decide), hGXc 76 0 4 (show 7600 ∉ [7700, 7800, 7900] by first | exact nlm_ni rfl | decide), hGXa 76 0 4 (show 7600 ∉ [7100, 7200, 7300, 7400, 7500] by first | exact nlm_ni rfl | decide)]
                          exact ih228 (r + 1) Xd _ _ _ (by omega) hRXd q49 (by first | omega | (simp only [e50]; omega)) (d77) (d78) (CpK.len d79 (by omega)) (by first | omega | (simp only [e50]; omega)) hw hS (lv_sub hl [1, 2, 3, 4, 0] rfl)
                        · refine lv_aload_n hx hb dX9_save_297 rfl (lv_at hl 0 rfl) ?_
                          refine x_geto hx hb hf9 hw (by first | exact Int.le_refl 0 | omega) (by first | exact zlt hc40 | omega) sl_40_38 lk108 dX9_save_298 ?_
                          refine lv_bipush (v := jI 12) hx hb dX9_save_301 (by decide) ?_
                          refine lv_sipush (v := jI 150) hx hb dX9_save_303 (by decide) ?_
                          refine lv_iload_n hx hb dX9_save_306 rfl (lv_at hl 1 rfl) ?_
                          refine x_imul hx hb dX9_save_307 ?_
                          refine lv_iload hx hb dX9_save_308 (lv_at hl 4 rfl) ?_
                          refine x_iadd hx hb dX9_save_310 ?_
                          refine x_imul hx hb dX9_save_311 ?_
                          refine lv_iload hx hb dX9_save_312 (lv_at hl 5 rfl) ?_
                          refine x_iadd hx hb dX9_save_314 ?_
                          refine lv_aload_n hx hb dX9_save_315 rfl (lv_at hl 0 rfl) ?_
                          refine x_geto hx hb hf9 hw (by first | exact Int.le_refl 0 | omega) (by first | exact zlt hc40 | omega) sl_40_38 lk108 dX9_save_316 ?_
                          refine lv_bipush (v := jI 12) hx hb dX9_save_319 (by decide) ?_
                          refine lv_sipush (v := jI 600) hx hb dX9_save_321 (by decide) ?_
                          refine lv_iload hx hb dX9_save_324 (lv_at hl 4 rfl) ?_
                          refine x_iadd hx hb dX9_save_326 ?_
                          refine x_imul hx hb dX9_save_327 ?_
                          refine lv_iload hx hb dX9_save_328 (lv_at hl 5 rfl) ?_
                          refine x_iadd hx hb dX9_save_330 ?_
                          refine x_lald hx hb hK.1 hw (by first | exact Int.le_refl 0 | omega) (by first | exact zlt hc79 | omega) ar_79 (len_E ar_79 (by first | exact Nat.ne_of_beq_eq_false rfl | decide)) (by omega) (by omega) (by omega) dX9_save_331 ?_
                          have f51 : (-9223372036854775808) ≤ Xd 79 0 ((12 * (600 + r)) + k) ∧ Xd 79 0 ((12 * (600 + r)) + k) ≤ 9223372036854775807 := hRXd 79 0 ((12 * (600 + r)) + k)
                          refine x_last hx hb hK.1 hw hS (by first | exact Int.le_refl 0 | omega) (by first | exact zlt hc79 | omega) ar_79 (len_E ar_79 (by first | exact Nat.ne_of_beq_eq_false rfl | decide)) (by omega) (by omega) (by omega) dX9_save_332 (fun H locs hw hS => ?_)
                          obtain ⟨X52, hX52⟩ : ∃ Xq, Xq = u3 Xd 79 0 ((12 * ((150 * sv) + r)) + k) (Xd 79 0 ((12 * (600 + r)) + k)) := ⟨_, rfl⟩
                          rw [← hX52] at hw
                          have hRX52 : Rng X52 := by rw [hX52]; exact rng_set hRXd (show (-9223372036854775808) ≤ (Xd 79 0 ((12 * (600 + r)) + k)) ∧ (Xd 79 0 ((12 * (600 + r)) + k)) ≤ 9223372036854775807 by omega)
                          have hVX52 : X52 79 0 ((12 * ((150 * sv) + r)) + k) = (Xd 79 0 ((12 * (600 + r)) + k)) := by rw [hX52]; exact u3_s _ _ _ _ _
                          have hFX52 : Frm [4001, 7100, 7200, 7300, 7400, 7500, 8000, 7000, 8100, 7700, 7800, 7900, 7600, 4042, 4043, 4044] X X52 := by rw [hX52]; exact Frm.set hFXd (show 7900 ∈ [4001, 7100, 7200, 7300, 7400, 7500, 8000, 7000, 8100, 7700, 7800, 7900, 7600, 4042, 4043, 4044] by first | exact nlm_in rfl | decide)
                          refine lv_iinc (v := jI (k + 1)) (lv' := [(5, .int (jI (k + 1))), (0, .ref (ad 40 0)), (1, .int (jI sv)), (2, .int (jI x)), (3, .int (jI z12)), (4, .int (jI r))]) hx hb dX9_save_333 hl (k := 5) rfl (jI_add _ _) (by decide) rfl (fun ls hl => ?_)
                          refine lv_goto (tgt := 290) hx hb dX9_save_336 (by decide) ?_
                          have q53 : Frm [7900] X44 Xd := Frm.tr Frm.rf (Frm.mono hGXd (by first | exact nls_of rfl | decide))
                          have q54 : Frm [7900] X44 X52 := by rw [hX52]; exact Frm.set q53 (show 7900 ∈ [7900] by first | exact nlm_in rfl | decide)
                          have q55 : Frm [7900] Xd X52 := by rw [hX52]; exact Frm.set Frm.rf (show 7900 ∈ [7900] by first | exact nlm_in rfl | decide)
                          have q56 : Frm [7900] Xd X52 := by rw [hX52]; exact Frm.set Frm.rf (show 7900 ∈ [7900] by first | exact nlm_in rfl | decide)
                          exact ih290 (k + 1) X52 _ _ _ (by omega) hRX52 q54 (by omega) (CpK.of d77 (Frm.arr q55 77 (by decide +kernel) (by decide))) (CpK.of d78 (Frm.arr q56 78 (by decide +kernel) (by decide))) (CpK.len (CpK.step (Xc := Xd) (a := 12 * (150 * sv + r) + k) (b := 12 * (600 + r) + k) d79 (by omega) (by omega) rfl (by rw [hX52]) (by omega) rfl (by omega)) (by omega)) hw hS (lv_sub hl [1, 2, 3, 4, 5, 0] rfl)
                    have q57 : Frm [7700, 7800] Xc X41 := by rw [hX41]; exact Frm.set Frm.rf (show 7700 ∈ [7700, 7800] by first | exact nlm_in rfl | decide)
                    have q58 : Frm [7700, 7800] Xc X44 := by rw [hX44]; exact Frm.set q57 (show 7800 ∈ [7700, 7800] by first | exact nlm_in rfl | decide)
                    refine lp290 (12 - 0 : Int).toNat.succ 0 X44 _ _ _ ?g9p413 hRX44 Frm.rf ?g9p414 ?g9p415 ?g9p416 ?g9p417 hw hS (lv_sub hl [1, 2, 3, 4, 5, 0] rfl)
                    case g9p413 => omega
                    case g9p414 => omega
                    case g9p415 => exact (CpK.step (Xc := Xc) (a := 150 * sv + r) (b := 600 + r) c77 (by omega) (by omega) rfl (by rw [hX44, u3_k _ _ _ _ (by first | exact Nat.ne_of_beq_eq_false rfl | decide), hX41]) (by omega) rfl (by omega))
                    case g9p416 => exact (CpK.step (Xc := X41) (a := 150 * sv + r) (b := 600 + r) c78 (by omega) (by omega) (by rw [hX41, u3_k _ _ _ _ (by first | exact Nat.ne_of_beq_eq_false rfl | decide)]) (by rw [hX44]) (by omega) rfl (by omega))
                    case g9p417 => exact (CpK.len (CpK.of c79 (Frm.arr q58 79 (by decide +kernel) (by decide))) (by omega))
              have e59 : Xa 76 0 4 = X21 76 0 4 := by rw [hGXa 76 0 4 (show 7600 ∉ [7100, 7200, 7300, 7400, 7500] by first | exact nlm_ni rfl | decide)]
              have q60 : Frm [7000, 7100, 7200, 7300, 7400, 7500, 7600] X15 X18 := by rw [hX18]; exact Frm.set Frm.rf (show 7000 ∈ [7000, 7100, 7200, 7300, 7400, 7500, 7600] by first | exact nlm_in rfl | decide)
              have q61 : Frm [7000, 7100, 7200, 7300, 7400, 7500, 7600] X15 X21 := by rw [hX21]; exact Frm.set q60 (show 7600 ∈ [7000, 7100, 7200, 7300, 7400, 7500, 7600] by first | exact nlm_in rfl | decide)
              have q62 : Frm [7000, 7100, 7200, 7300, 7400, 7500, 7600] X15 Xa := Frm.tr q61 (Frm.mono hGXa (by first | exact nls_of rfl | decide))
              have q63 : Frm [7000, 7100, 7200, 7300, 7400, 7500, 7600] X15 X18 := by rw [hX18]; exact Frm.set Frm.rf (show 7000 ∈ [7000, 7100, 7200, 7300, 7400, 7500, 7600] by first | exact nlm_in rfl | decide)
              have q64 : Frm [7000, 7100, 7200, 7300, 7400, 7500, 7600] X15 X21 := by rw [hX21]; exact Frm.set q63 (show 7600 ∈ [7000, 7100, 7200, 7300, 7400, 7500, 7600] by first | exact nlm_in rfl | decide)
              have q65 : Frm [7000, 7100, 7200, 7300, 7400, 7500, 7600] X15 Xa := Frm.tr q64 (Frm.mono hGXa (by first | exact nls_of rfl | decide))
              have q66 : Frm [7000, 7100, 7200, 7300, 7400, 7500, 7600] X15 X18 := by rw [hX18]; exact Frm.set Frm.rf (show 7000 ∈ [7000, 7100, 7200, 7300, 7400, 7500, 7600] by first | exact nlm_in rfl | decide)
              have q67 : Frm [7000, 7100, 7200, 7300, 7400, 7500, 7600] X15 X21 := by rw [hX21]; exact Frm.set q66 (show 7600 ∈ [7000, 7100, 7200, 7300, 7400, 7500, 7600] by first | exact nlm_in rfl | decide)
              have q68 : Frm [7000, 7100, 7200, 7300, 7400, 7500, 7600] X15 Xa := Frm.tr q67 (Frm.mono hGXa (by first | exact nls_of rfl | decide))
              exact lp228 (150 - 0 : Int).toNat.succ 0 Xa _ _ _ (by omega) hRXa Frm.rf (by first | omega | (simp only [e59]; omega)) (CpK.len (CpK.in_ (Frm.arr q62 77 (by decide +kernel) (by decide))) (by omega)) (CpK.len (CpK.in_ (Frm.arr q65 78 (by decide +kernel) (by decide))) (by omega)) (CpK.len (CpK.in_ (Frm.arr q68 79 (by decide +kernel) (by decide))) (by omega)) (by first | omega | (simp only [e59]; omega)) hw hS (lv_sub hl [1, 2, 3, 4, 0] rfl)
            · refine lv_aload_n hx hb dX9_save_64 rfl (lv_at hl 0 rfl) ?_
              refine x_geto hx hb hf9 hw (by first | exact Int.le_refl 0 | omega) (by first | exact zlt hc40 | omega) sl_40_30 lk84 dX9_save_65 ?_
              refine lv_bipush (v := jI 30) hx hb dX9_save_68 (by decide) ?_
              refine lv_iload_n hx hb dX9_save_70 rfl (lv_at hl 1 rfl) ?_
              refine x_imul hx hb dX9_save_71 ?_
              refine lv_iload hx hb dX9_save_72 (lv_at hl 4 rfl) ?_
              refine x_iadd hx hb dX9_save_74 ?_
              refine lv_aload_n hx hb dX9_save_75 rfl (lv_at hl 0 rfl) ?_
              refine x_geto hx hb hf9 hw (by first | exact Int.le_refl 0 | omega) (by first | exact zlt hc40 | omega) sl_40_30 lk84 dX9_save_76 ?_
              refine lv_bipush (v := jI 120) hx hb dX9_save_79 (by decide) ?_
              refine lv_iload hx hb dX9_save_81 (lv_at hl 4 rfl) ?_
              refine x_iadd hx hb dX9_save_83 ?_
              refine x_iald hx hb hK.1 hw (by first | exact Int.le_refl 0 | omega) (by first | exact zlt hc71 | omega) ar_71 (len_E ar_71 (by first | exact Nat.ne_of_beq_eq_false rfl | decide)) (by omega) (by omega) (by omega) dX9_save_84 ?_
              have f69 : 0 ≤ Xa 71 0 (120 + r) ∧ Xa 71 0 (120 + r) ≤ 7 := hRXa 71 0 (120 + r)
              refine x_iast hx hb hK.1 hw hS (by first | exact Int.le_refl 0 | omega) (by first | exact zlt hc71 | omega) ar_71 (len_E ar_71 (by first | exact Nat.ne_of_beq_eq_false rfl | decide)) (by omega) (by omega) (by omega) dX9_save_85 (fun H locs hw hS => ?_)
              obtain ⟨X70, hX70⟩ : ∃ Xq, Xq = u3 Xa 71 0 ((30 * sv) + r) (Xa 71 0 (120 + r)) := ⟨_, rfl⟩
              rw [← hX70] at hw
              have hRX70 : Rng X70 := by rw [hX70]; exact rng_set hRXa (show 0 ≤ (Xa 71 0 (120 + r)) ∧ (Xa 71 0 (120 + r)) ≤ 7 by omega)
              have hVX70 : X70 71 0 ((30 * sv) + r) = (Xa 71 0 (120 + r)) := by rw [hX70]; exact u3_s _ _ _ _ _
              have hFX70 : Frm [4001, 7100, 7200, 7300, 7400, 7500, 8000, 7000, 8100, 7700, 7800, 7900, 7600, 4042, 4043, 4044] X X70 := by rw [hX70]; exact Frm.set hFXa (show 7100 ∈ [4001, 7100, 7200, 7300, 7400, 7500, 8000, 7000, 8100, 7700, 7800, 7900, 7600, 4042, 4043, 4044] by first | exact nlm_in rfl | decide)
              refine lv_aload_n hx hb dX9_save_86 rfl (lv_at hl 0 rfl) ?_
              refine x_geto hx hb hf9 hw (by first | exact Int.le_refl 0 | omega) (by first | exact zlt hc40 | omega) sl_40_31 lk87 dX9_save_87 ?_
              refine lv_bipush (v := jI 30) hx hb dX9_save_90 (by decide) ?_
              refine lv_iload_n hx hb dX9_save_92 rfl (lv_at hl 1 rfl) ?_
              refine x_imul hx hb dX9_save_93 ?_
              refine lv_iload hx hb dX9_save_94 (lv_at hl 4 rfl) ?_
              refine x_iadd hx hb dX9_save_96 ?_
              refine lv_aload_n hx hb dX9_save_97 rfl (lv_at hl 0 rfl) ?_
              refine x_geto hx hb hf9 hw (by first | exact Int.le_refl 0 | omega) (by first | exact zlt hc40 | omega) sl_40_31 lk87 dX9_save_98 ?_
              refine lv_bipush (v := jI 120) hx hb dX9_save_101 (by decide) ?_
              refine lv_iload hx hb dX9_save_103 (lv_at hl 4 rfl) ?_
              refine x_iadd hx hb dX9_save_105 ?_
              refine x_iald hx hb hK.1 hw (by first | exact Int.le_refl 0 | omega) (by first | exact zlt hc72 | omega) ar_72 (len_E ar_72 (by first | exact Nat.ne_of_beq_eq_false rfl | decide)) (by omega) (by omega) (by omega) dX9_save_106 ?_
              have e71 : ∀ p9 q9 : Int, X70 72 p9 q9 = Xa 72 p9 q9 := fun p9 q9 => by rw [hX70, u3_k _ _ _ _ (by first | exact Nat.ne_of_beq_eq_false rfl | decide)]
              rw [e71 0 (120 + r)]
              have f72 : 0 ≤ Xa 72 0 (120 + r) ∧ Xa 72 0 (120 + r) ≤ 5 := hRXa 72 0 (120 + r)
              refine x_iast hx hb hK.1 hw hS (by first | exact Int.le_refl 0 | omega) (by first | exact zlt hc72 | omega) ar_72 (len_E ar_72 (by first | exact Nat.ne_of_beq_eq_false rfl | decide)) (by omega) (by omega) (by omega) dX9_save_107 (fun H locs hw hS => ?_)
              obtain ⟨X73, hX73⟩ : ∃ Xq, Xq = u3 X70 72 0 ((30 * sv) + r) (Xa 72 0 (120 + r)) := ⟨_, rfl⟩
              rw [← hX73] at hw
              have hRX73 : Rng X73 := by rw [hX73]; exact rng_set hRX70 (show 0 ≤ (Xa 72 0 (120 + r)) ∧ (Xa 72 0 (120 + r)) ≤ 5 by omega)
              have hVX73 : X73 72 0 ((30 * sv) + r) = (Xa 72 0 (120 + r)) := by rw [hX73]; exact u3_s _ _ _ _ _
              have hFX73 : Frm [4001, 7100, 7200, 7300, 7400, 7500, 8000, 7000, 8100, 7700, 7800, 7900, 7600, 4042, 4043, 4044] X X73 := by rw [hX73]; exact Frm.set hFX70 (show 7200 ∈ [4001, 7100, 7200, 7300, 7400, 7500, 8000, 7000, 8100, 7700, 7800, 7900, 7600, 4042, 4043, 4044] by first | exact nlm_in rfl | decide)
              refine lv_iconst (v := jI 0) hx hb dX9_save_108 rfl ?_
              refine lv_istore (lv' := [(5, .int (jI 0)), (0, .ref (ad 40 0)), (1, .int (jI sv)), (2, .int (jI x)), (3, .int (jI z12)), (4, .int (jI r))]) hx hb dX9_save_109 hl (by decide) rfl (fun ls hl => ?_)
              have lp111 : ∀ (nn : Nat) (k : Int) (Xb : Nat → Int → Int → Int) (H : Heap) (locs : List Loc) (ls : Array Slot), (5 - k) < (nn : Int) → (Rng Xb) → (Frm [7300, 7400, 7500] X73 Xb) → (0 ≤ k ∧ k ≤ 5) → (Cpy X15 Xb sv (r + 1) r k) → (CpK 71 X15 Xb (30 * sv) 120 (r + 1)) → (CpK 72 X15 Xb (30 * sv) 120 (r + 1)) → (CpK 73 X15 Xb (150 * sv) 600 (5 * r + k)) → (CpK 74 X15 Xb (150 * sv) 600 (5 * r + k)) → (CpK 75 X15 Xb (150 * sv) 600 (5 * r + k)) → wd D tc base (ad, cnt, Xb, Y, ln) H → va_S (frA base) s.heap H locs → lv_has ls 6 [(0, .ref (ad 40 0)), (1, .int (jI sv)), (2, .int (jI x)), (3, .int (jI z12)), (4, .int (jI r)), (5, .int (jI k))] → W p l e ({ frames := 2, cells := 0, slots := 0, locals := 53 } : Room) s m av9 below meth c H locs 0 0 Q9 (F0 m 111 ls []) := by
                intro nn
                induction nn with
                | zero => intro k Xb H locs ls hm hRXb hGXb hk hCb d71 d72 d73 d74 d75 hw hS hl; exfalso; omega
                | succ nn ih111 =>
                  intro k Xb H locs ls hm hRXb hGXb hk hCb d71 d72 d73 d74 d75 hw hS hl
                  have hFXb : Frm [4001, 7100, 7200, 7300, 7400, 7500, 8000, 7000, 8100, 7700, 7800, 7900, 7600, 4042, 4043, 4044] X Xb := Frm.tr hFX73 (Frm.mono hGXb (by first | exact nls_of rfl | decide))
                  refine lv_iload hx hb dX9_save_111 (lv_at hl 5 rfl) ?_
                  refine lv_iconst (v := jI 5) hx hb dX9_save_113 rfl ?_
                  refine x_icmp_ge (tgt := 219) hx hb (by omega) (by omega) dX9_save_114 (by decide) (fun c74 => ?_) (fun c74 => ?_)
                  · refine lv_iinc (v := jI (r + 1)) (lv' := [(4, .int (jI (r + 1))), (0, .ref (ad 40 0)), (1, .int (jI sv)), (2, .int (jI x)), (3, .int (jI z12)), (5, .int (jI k))]) hx hb dX9_save_219 hl (k := 4) rfl (jI_add _ _) (by decide) rfl (fun ls hl => ?_)
                    refine lv_goto (tgt := 58) hx hb dX9_save_222 (by decide) ?_
                    have q75 : Frm [7100, 7200, 7300, 7400, 7500] X21 Xa := Frm.tr Frm.rf (Frm.mono hGXa (by first | exact nls_of rfl | decide))
                    have q76 : Frm [7100, 7200, 7300, 7400, 7500] X21 X70 := by rw [hX70]; exact Frm.set q75 (show 7100 ∈ [7100, 7200, 7300, 7400, 7500] by first | exact nlm_in rfl | decide)
                    have q77 : Frm [7100, 7200, 7300, 7400, 7500] X21 X73 := by rw [hX73]; exact Frm.set q76 (show 7200 ∈ [7100, 7200, 7300, 7400, 7500] by first | exact nlm_in rfl | decide)
                    have q78 : Frm [7100, 7200, 7300, 7400, 7500] X21 Xb := Frm.tr q77 (Frm.mono hGXb (by first | exact nls_of rfl | decide))
                    exact ih58 (r + 1) Xb _ _ _ (by omega) hRXb q78 (by omega) (hCb.next (by omega)) (d71) (d72) (CpK.len d73 (by omega)) (CpK.len d74 (by omega)) (CpK.len d75 (by omega)) (by omega) hw hS (lv_sub hl [1, 2, 3, 4, 0] rfl)
                  · refine lv_aload_n hx hb dX9_save_117 rfl (lv_at hl 0 rfl) ?_
                    refine x_geto hx hb hf9 hw (by first | exact Int.le_refl 0 | omega) (by first | exact zlt hc40 | omega) sl_40_32 lk90 dX9_save_118 ?_
                    refine lv_iconst (v := jI 5) hx hb dX9_save_121 rfl ?_
                    refine lv_bipush (v := jI 30) hx hb dX9_save_122 (by decide) ?_
                    refine lv_iload_n hx hb dX9_save_124 rfl (lv_at hl 1 rfl) ?_
                    refine x_imul hx hb dX9_save_125 ?_
                    refine lv_iload hx hb dX9_save_126 (lv_at hl 4 rfl) ?_
                    refine x_iadd hx hb dX9_save_128 ?_
                    refine x_imul hx hb dX9_save_129 ?_
                    refine lv_iload hx hb dX9_save_130 (lv_at hl 5 rfl) ?_
                    refine x_iadd hx hb dX9_save_132 ?_
                    refine lv_aload_n hx hb dX9_save_133 rfl (lv_at hl 0 rfl) ?_
                    refine x_geto hx hb hf9 hw (by first | exact Int.le_refl 0 | omega) (by first | exact zlt hc40 | omega) sl_40_32 lk90 dX9_save_134 ?_
                    refine lv_iconst (v := jI 5) hx hb dX9_save_137 rfl ?_
                    refine lv_bipush (v := jI 120) hx hb dX9_save_138 (by decide) ?_
                    refine lv_iload hx hb dX9_save_140 (lv_at hl 4 rfl) ?_
                    refine x_iadd hx hb dX9_save_142 ?_
                    refine x_imul hx hb dX9_save_143 ?_
                    refine lv_iload hx hb dX9_save_144 (lv_at hl 5 rfl) ?_
                    refine x_iadd hx hb dX9_save_146 ?_
                    refine x_iald hx hb hK.1 hw (by first | exact Int.le_refl 0 | omega) (by first | exact zlt hc73 | omega) ar_73 (len_E ar_73 (by first | exact Nat.ne_of_beq_eq_false rfl | decide)) (by omega) (by omega) (by omega) dX9_save_147 ?_
                    have f79 : 0 ≤ Xb 73 0 ((5 * (120 + r)) + k) ∧ Xb 73 0 ((5 * (120 + r)) + k) ≤ 19 := hRXb 73 0 ((5 * (120 + r)) + k)
                    refine x_iast hx hb hK.1 hw hS (by first | exact Int.le_refl 0 | omega) (by first | exact zlt hc73 | omega) ar_73 (len_E ar_73 (by first | exact Nat.ne_of_beq_eq_false rfl | decide)) (by omega) (by omega) (by omega) dX9_save_148 (fun H locs hw hS => ?_)
                    obtain ⟨X80, hX80⟩ : ∃ Xq, Xq = u3 Xb 73 0 ((5 * ((30 * sv) + r)) + k) (Xb 73 0 ((5 * (120 + r)) + k)) := ⟨_, rfl⟩
                    rw [← hX80] at hw
                    have hRX80 : Rng X80 := by rw [hX80]; exact rng_set hRXb (show 0 ≤ (Xb 73 0 ((5 * (120 + r)) + k)) ∧ (Xb 73 0 ((5 * (120 + r)) + k)) ≤ 19 by omega)
                    have hVX80 : X80 73 0 ((5 * ((30 * sv) + r)) + k) = (Xb 73 0 ((5 * (120 + r)) + k)) := by rw [hX80]; exact u3_s _ _ _ _ _
                    have hFX80 : Frm [4001, 7100, 7200, 7300, 7400, 7500, 8000, 7000, 8100, 7700, 7800, 7900, 7600, 4042, 4043, 4044] X X80 := by rw [hX80]; exact Frm.set hFXb (show 7300 ∈ [4001, 7100, 7200, 7300, 7400, 7500, 8000, 7000, 8100, 7700, 7800, 7900, 7600, 4042, 4043, 4044] by first | exact nlm_in rfl | decide)
                    refine lv_aload_n hx hb dX9_save_149 rfl (lv_at hl 0 rfl) ?_
                    refine x_geto hx hb hf9 hw (by first | exact Int.le_refl 0 | omega) (by first | exact zlt hc40 | omega) sl_40_33 lk93 dX9_save_150 ?_
                    refine lv_iconst (v := jI 5) hx hb dX9_save_153 rfl ?_
                    refine lv_bipush (v := jI 30) hx hb dX9_save_154 (by decide) ?_
                    refine lv_iload_n hx hb dX9_save_156 rfl (lv_at hl 1 rfl) ?_
                    refine x_imul hx hb dX9_save_157 ?_
                    refine lv_iload hx hb dX9_save_158 (lv_at hl 4 rfl) ?_
                    refine x_iadd hx hb dX9_save_160 ?_
                    refine x_imul hx hb dX9_save_161 ?_
                    refine lv_iload hx hb dX9_save_162 (lv_at hl 5 rfl) ?_
                    refine x_iadd hx hb dX9_save_164 ?_
                    refine lv_aload_n hx hb dX9_save_165 rfl (lv_at hl 0 rfl) ?_
                    refine x_geto hx hb hf9 hw (by first | exact Int.le_refl 0 | omega) (by first | exact zlt hc40 | omega) sl_40_33 lk93 dX9_save_166 ?_
                    refine lv_iconst (v := jI 5) hx hb dX9_save_169 rfl ?_
                    refine lv_bipush (v := jI 120) hx hb dX9_save_170 (by decide) ?_
                    refine lv_iload hx hb dX9_save_172 (lv_at hl 4 rfl) ?_
                    refine x_iadd hx hb dX9_save_174 ?_
                    refine x_imul hx hb dX9_save_175 ?_
                    refine lv_iload hx hb dX9_save_176 (lv_at hl 5 rfl) ?_
                    refine x_iadd hx hb dX9_save_178 ?_
                    refine x_iald hx hb hK.1 hw (by first | exact Int.le_refl 0 | omega) (by first | exact zlt hc74 | omega) ar_74 (len_E ar_74 (by first | exact Nat.ne_of_beq_eq_false rfl | decide)) (by omega) (by omega) (by omega) dX9_save_179 ?_
                    have e81 : ∀ p9 q9 : Int, X80 74 p9 q9 = Xb 74 p9 q9 := fun p9 q9 => by rw [hX80, u3_k _ _ _ _ (by first | exact Nat.ne_of_beq_eq_false rfl | decide)]
                    rw [e81 0 ((5 * (120 + r)) + k)]
                    have f82 : 0 ≤ Xb 74 0 ((5 * (120 + r)) + k) ∧ Xb 74 0 ((5 * (120 + r)) + k) ≤ 5 := hRXb 74 0 ((5 * (120 + r)) + k)
                    refine x_iast hx hb hK.1 hw hS (by first | exact Int.le_refl 0 | omega) (by first | exact zlt hc74 | omega) ar_74 (len_E ar_74 (by first | exact Nat.ne_of_beq_eq_false rfl | decide)) (by omega) (by omega) (by omega) dX9_save_180 (fun H locs hw hS => ?_)
                    obtain ⟨X83, hX83⟩ : ∃ Xq, Xq = u3 X80 74 0 ((5 * ((30 * sv) + r)) + k) (Xb 74 0 ((5 * (120 + r)) + k)) := ⟨_, rfl⟩
                    rw [← hX83] at hw
                    have hRX83 : Rng X83 := by rw [hX83]; exact rng_set hRX80 (show 0 ≤ (Xb 74 0 ((5 * (120 + r)) + k)) ∧ (Xb 74 0 ((5 * (120 + r)) + k)) ≤ 5 by omega)
                    have hVX83 : X83 74 0 ((5 * ((30 * sv) + r)) + k) = (Xb 74 0 ((5 * (120 + r)) + k)) := by rw [hX83]; exact u3_s _ _ _ _ _
                    have hFX83 : Frm [4001, 7100, 7200, 7300, 7400, 7500, 8000, 7000, 8100, 7700, 7800, 7900, 7600, 4042, 4043, 4044] X X83 := by rw [hX83]; exact Frm.set hFX80 (show 7400 ∈ [4001, 7100, 7200, 7300, 7400, 7500, 8000, 7000, 8100, 7700, 7800, 7900, 7600, 4042, 4043, 4044] by first | exact nlm_in rfl | decide)
                    refine lv_aload_n hx hb dX9_save_181 rfl (lv_at hl 0 rfl) ?_
                    refine x_geto hx hb hf9 hw (by first | exact Int.le_refl 0 | omega) (by first | exact zlt hc40 | omega) sl_40_34 lk96 dX9_save_182 ?_
                    refine lv_iconst (v := jI 5) hx hb dX9_save_185 rfl ?_
                    refine lv_bipush (v := jI 30) hx hb dX9_save_186 (by decide) ?_
                    refine lv_iload_n hx hb dX9_save_188 rfl (lv_at hl 1 rfl) ?_
                    refine x_imul hx hb dX9_save_189 ?_
                    refine lv_iload hx hb dX9_save_190 (lv_at hl 4 rfl) ?_
                    refine x_iadd hx hb dX9_save_192 ?_
                    refine x_imul hx hb dX9_save_193 ?_
                    refine lv_iload hx hb dX9_save_194 (lv_at hl 5 rfl) ?_
                    refine x_iadd hx hb dX9_save_196 ?_
                    refine lv_aload_n hx hb dX9_save_197 rfl (lv_at hl 0 rfl) ?_
                    refine x_geto hx hb hf9 hw (by first | exact Int.le_refl 0 | omega) (by first | exact zlt hc40 | omega) sl_40_34 lk96 dX9_save_198 ?_
                    refine lv_iconst (v := jI 5) hx hb dX9_save_201 rfl ?_
                    refine lv_bipush (v := jI 120) hx hb dX9_save_202 (by decide) ?_
                    refine lv_iload hx hb dX9_save_204 (lv_at hl 4 rfl) ?_
                    refine x_iadd hx hb dX9_save_206 ?_
                    refine x_imul hx hb dX9_save_207 ?_
                    refine lv_iload hx hb dX9_save_208 (lv_at hl 5 rfl) ?_
                    refine x_iadd hx hb dX9_save_210 ?_
                    refine x_lald hx hb hK.1 hw (by first | exact Int.le_refl 0 | omega) (by first | exact zlt hc75 | omega) ar_75 (len_E ar_75 (by first | exact Nat.ne_of_beq_eq_false rfl | decide)) (by omega) (by omega) (by omega) dX9_save_211 ?_
                    have e84 : ∀ p9 q9 : Int, X83 75 p9 q9 = Xb 75 p9 q9 := fun p9 q9 => by rw [hX83, u3_k _ _ _ _ (by first | exact Nat.ne_of_beq_eq_false rfl | decide), hX80, u3_k _ _ _ _ (by first | exact Nat.ne_of_beq_eq_false rfl | decide)]
                    rw [e84 0 ((5 * (120 + r)) + k)]
                    have f85 : (-9223372036854775808) ≤ Xb 75 0 ((5 * (120 + r)) + k) ∧ Xb 75 0 ((5 * (120 + r)) + k) ≤ 9223372036854775807 := hRXb 75 0 ((5 * (120 + r)) + k)
                    refine x_last hx hb hK.1 hw hS (by first | exact Int.le_refl 0 | omega) (by first | exact zlt hc75 | omega) ar_75 (len_E ar_75 (by first | exact Nat.ne_of_beq_eq_false rfl | decide)) (by omega) (by omega) (by omega) dX9_save_212 (fun H locs hw hS => ?_)
                    obtain ⟨X86, hX86⟩ : ∃ Xq, Xq = u3 X83 75 0 ((5 * ((30 * sv) + r)) + k) (Xb 75 0 ((5 * (120 + r)) + k)) := ⟨_, rfl⟩
                    rw [← hX86] at hw
                    have hRX86 : Rng X86 := by rw [hX86]; exact rng_set hRX83 (show (-9223372036854775808) ≤ (Xb 75 0 ((5 * (120 + r)) + k)) ∧ (Xb 75 0 ((5 * (120 + r)) + k)) ≤ 9223372036854775807 by omega)
                    have hVX86 : X86 75 0 ((5 * ((30 * sv) + r)) + k) = (Xb 75 0 ((5 * (120 + r)) + k)) := by rw [hX86]; exact u3_s _ _ _ _ _
                    have hFX86 : Frm [4001, 7100, 7200, 7300, 7400, 7500, 8000, 7000, 8100, 7700, 7800, 7900, 7600, 4042, 4043, 4044] X X86 := by rw [hX86]; exact Frm.set hFX83 (show 7500 ∈ [4001, 7100, 7200, 7300, 7400, 7500, 8000, 7000, 8100, 7700, 7800, 7900, 7600, 4042, 4043, 4044] by first | exact nlm_in rfl | decide)
                    refine lv_iinc (v := jI (k + 1)) (lv' := [(5, .int (jI (k + 1))), (0, .ref (ad 40 0)), (1, .int (jI sv)), (2, .int (jI x)), (3, .int (jI z12)), (4, .int (jI r))]) hx hb dX9_save_213 hl (k := 5) rfl (jI_add _ _) (by decide) rfl (fun ls hl => ?_)
                    refine lv_goto (tgt := 111) hx hb dX9_save_216 (by decide) ?_
                    have q87 : Frm [7300, 7400, 7500] X73 Xb := Frm.tr Frm.rf (Frm.mono hGXb (by first | exact nls_of rfl | decide))
                    have q88 : Frm [7300, 7400, 7500] X73 X80 := by rw [hX80]; exact Frm.set q87 (show 7300 ∈ [7300, 7400, 7500] by first | exact nlm_in rfl | decide)
                    have q89 : Frm [7300, 7400, 7500] X73 X83 := by rw [hX83]; exact Frm.set q88 (show 7400 ∈ [7300, 7400, 7500] by first | exact nlm_in rfl | decide)
                    have q90 : Frm [7300, 7400, 7500] X73 X86 := by rw [hX86]; exact Frm.set q89 (show 7500 ∈ [7300, 7400, 7500] by first | exact nlm_in rfl | decide)
                    have q91 : Frm [7300, 7400, 7500] Xb X80 := by rw [hX80]; exact Frm.set Frm.rf (show 7300 ∈ [7300, 7400, 7500] by first | exact nlm_in rfl | decide)
                    have q92 : Frm [7300, 7400, 7500] Xb X83 := by rw [hX83]; exact Frm.set q91 (show 7400 ∈ [7300, 7400, 7500] by first | exact nlm_in rfl | decide)
                    have q93 : Frm [7300, 7400, 7500] Xb X86 := by rw [hX86]; exact Frm.set q92 (show 7500 ∈ [7300, 7400, 7500] by first | exact nlm_in rfl | decide)
                    have q94 : Frm [7300, 7400, 7500] Xb X80 := by rw [hX80]; exact Frm.set Frm.rf (show 7300 ∈ [7300, 7400, 7500] by first | exact nlm_in rfl | decide)
                    have q95 : Frm [7300, 7400, 7500] Xb X83 := by rw [hX83]; exact Frm.set q94 (show 7400 ∈ [7300, 7400, 7500] by first | exact nlm_in rfl | decide)
                    have q96 : Frm [7300, 7400, 7500] Xb X86 := by rw [hX86]; exact Frm.set q95 (show 7500 ∈ [7300, 7400, 7500] by first | exact nlm_in rfl | decide)
                    refine ih111 (k + 1) X86 _ _ _ ?g9p418 hRX86 q90 ?g9p419 ?g9p420 ?g9p421 ?g9p422 ?g9p423 ?g9p424 ?g9p425 hw hS (lv_sub hl [1, 2, 3, 4, 5, 0] rfl)
                    case g9p418 => omega
                    case g9p419 => omega
                    case g9p420 => exact (hCb.s5 (by omega) (by omega) (by omega) hX80 hX83 hX86)
                    case g9p421 => exact (CpK.of d71 (Frm.arr q93 71 (by decide +kernel) (by decide)))
                    case g9p422 => exact (CpK.of d72 (Frm.arr q96 72 (by decide +kernel) (by decide)))
                    case g9p423 => exact (CpK.len (CpK.step (Xc := Xb) (a := 5 * (30 * sv + r) + k) (b := 5 * (120 + r) + k) d73 (by omega) (by omega) rfl (by rw [hX86, u3_k _ _ _ _ (by first | exact Nat.ne_of_beq_eq_false rfl | decide), hX83, u3_k _ _ _ _ (by first | exact Nat.ne_of_beq_eq_false rfl | decide), hX80]) (by omega) rfl (by omega)) (by omega))
                    case g9p424 => exact (CpK.len (CpK.step (Xc := X80) (a := 5 * (30 * sv + r) + k) (b := 5 * (120 + r) + k) d74 (by omega) (by omega) (by rw [hX80, u3_k _ _ _ _ (by first | exact Nat.ne_of_beq_eq_false rfl | decide)]) (by rw [hX86, u3_k _ _ _ _ (by first | exact Nat.ne_of_beq_eq_false rfl | decide), hX83]) (by omega) rfl (by omega)) (by omega))
                    case g9p425 => exact (CpK.len (CpK.step (Xc := X83) (a := 5 * (30 * sv + r) + k) (b := 5 * (120 + r) + k) d75 (by omega) (by omega) (by rw [hX83, u3_k _ _ _ _ (by first | exact Nat.ne_of_beq_eq_false rfl | decide), hX80, u3_k _ _ _ _ (by first | exact Nat.ne_of_beq_eq_false rfl | decide)]) (by rw [hX86]) (by omega) rfl (by omega)) (by omega))
              have q97 : Frm [7100, 7200] Xa X70 := by rw [hX70]; exact Frm.set Frm.rf (show 7100 ∈ [7100, 7200] by first | exact nlm_in rfl | decide)
              have q98 : Frm [7100, 7200] Xa X73 := by rw [hX73]; exact Frm.set q97 (show 7200 ∈ [7100, 7200] by first | exact nlm_in rfl | decide)
              have q99 : Frm [7100, 7200] Xa X70 := by rw [hX70]; exact Frm.set Frm.rf (show 7100 ∈ [7100, 7200] by first | exact nlm_in rfl | decide)
              have q100 : Frm [7100, 7200] Xa X73 := by rw [hX73]; exact Frm.set q99 (show 7200 ∈ [7100, 7200] by first | exact nlm_in rfl | decide)
              have q101 : Frm [7100, 7200] Xa X70 := by rw [hX70]; exact Frm.set Frm.rf (show 7100 ∈ [7100, 7200] by first | exact nlm_in rfl | decide)
              have q102 : Frm [7100, 7200] Xa X73 := by rw [hX73]; exact Frm.set q101 (show 7200 ∈ [7100, 7200] by first | exact nlm_in rfl | decide)
              refine lp111 (5 - 0 : Int).toNat.succ 0 X73 _ _ _ ?g9p426 hRX73 Frm.rf ?g9p427 ?g9p428 ?g9p429 ?g9p430 ?g9p431 ?g9p432 ?g9p433 hw hS (lv_sub hl [1, 2, 3, 4, 5, 0] rfl)
              case g9p426 => omega
              case g9p427 => omega
              case g9p428 => exact (hCa.s7 (by omega) (by omega) hX70 hX73)
              case g9p429 => exact (CpK.step (Xc := Xa) (a := 30 * sv + r) (b := 120 + r) c71 (by omega) (by omega) rfl (by rw [hX73, u3_k _ _ _ _ (by first | exact Nat.ne_of_beq_eq_false rfl | decide), hX70]) (by omega) rfl (by omega))
              case g9p430 => exact (CpK.step (Xc := X70) (a := 30 * sv + r) (b := 120 + r) c72 (by omega) (by omega) (by rw [hX70, u3_k _ _ _ _ (by first | exact Nat.ne_of_beq_eq_false rfl | decide)]) (by rw [hX73]) (by omega) rfl (by omega))
              case g9p431 => exact (CpK.len (CpK.of c73 (Frm.arr q98 73 (by decide +kernel) (by decide))) (by omega))
              case g9p432 => exact (CpK.len (CpK.of c74 (Frm.arr q100 74 (by decide +kernel) (by decide))) (by omega))
              case g9p433 => exact (CpK.len (CpK.of c75 (Frm.arr q102 75 (by decide +kernel) (by decide))) (by omega))
        have q103 : Frm [7000, 7600] X15 X18 := by rw [hX18]; exact Frm.set Frm.rf (show 7000 ∈ [7000, 7600] by first | exact nlm_in rfl | decide)
        have q104 : Frm [7000, 7600] X15 X21 := by rw [hX21]; exact Frm.set q103 (show 7600 ∈ [7000, 7600] by first | exact nlm_in rfl | decide)
        have q105 : Frm [7000, 7600] X15 X18 := by rw [hX18]; exact Frm.set Frm.rf (show 7000 ∈ [7000, 7600] by first | exact nlm_in rfl | decide)
        have q106 : Frm [7000, 7600] X15 X21 := by rw [hX21]; exact Frm.set q105 (show 7600 ∈ [7000, 7600] by first | exact nlm_in rfl | decide)
        have q107 : Frm [7000, 7600] X15 X18 := by rw [hX18]; exact Frm.set Frm.rf (show 7000 ∈ [7000, 7600] by first | exact nlm_in rfl | decide)
        have q108 : Frm [7000, 7600] X15 X21 := by rw [hX21]; exact Frm.set q107 (show 7600 ∈ [7000, 7600] by first | exact nlm_in rfl | decide)
        have q109 : Frm [7000, 7600] X15 X18 := by rw [hX18]; exact Frm.set Frm.rf (show 7000 ∈ [7000, 7600] by first | exact nlm_in rfl | decide)
        have q110 : Frm [7000, 7600] X15 X21 := by rw [hX21]; exact Frm.set q109 (show 7600 ∈ [7000, 7600] by first | exact nlm_in rfl | decide)
        have q111 : Frm [7000, 7600] X15 X18 := by rw [hX18]; exact Frm.set Frm.rf (show 7000 ∈ [7000, 7600] by first | exact nlm_in rfl | decide)
        have q112 : Frm [7000, 7600] X15 X21 := by rw [hX21]; exact Frm.set q111 (show 7600 ∈ [7000, 7600] by first | exact nlm_in rfl | decide)
        refine lp58 (30 - 0 : Int).toNat.succ 0 X21 _ _ _ ?g9p434 hRX21 Frm.rf ?g9p435 ?g9p436 ?g9p437 ?g9p438 ?g9p439 ?g9p440 ?g9p441 ?g9p442 hw hS (lv_sub hl [2, 3, 4, 1, 0] rfl)
        case g9p434 => omega
        case g9p435 => omega
        case g9p436 => exact (Cpy.in_ (fun j => ⟨(by rw [hX21, u3_k _ _ _ _ (by first | exact Nat.ne_of_beq_eq_false rfl | decide), hX18, u3_k _ _ _ _ (by first | exact Nat.ne_of_beq_eq_false rfl | decide)]), (by rw [hX21, u3_k _ _ _ _ (by first | exact Nat.ne_of_beq_eq_false rfl | decide), hX18, u3_k _ _ _ _ (by first | exact Nat.ne_of_beq_eq_false rfl | decide)]), (by rw [hX21, u3_k _ _ _ _ (by first | exact Nat.ne_of_beq_eq_false rfl | decide), hX18, u3_k _ _ _ _ (by first | exact Nat.ne_of_beq_eq_false rfl | decide)]), (by rw [hX21, u3_k _ _ _ _ (by first | exact Nat.ne_of_beq_eq_false rfl | decide), hX18, u3_k _ _ _ _ (by first | exact Nat.ne_of_beq_eq_false rfl | decide)])⟩))
        case g9p437 => exact (CpK.in_ (Frm.arr q104 71 (by decide +kernel) (by decide)))
        case g9p438 => exact (CpK.in_ (Frm.arr q106 72 (by decide +kernel) (by decide)))
        case g9p439 => exact (CpK.len (CpK.in_ (Frm.arr q108 73 (by decide +kernel) (by decide))) (by omega))
        case g9p440 => exact (CpK.len (CpK.in_ (Frm.arr q110 74 (by decide +kernel) (by decide))) (by omega))
        case g9p441 => exact (CpK.len (CpK.in_ (Frm.arr q112 75 (by decide +kernel) (by decide))) (by omega))
        case g9p442 => omega
      · refine lv_iload_n hx hb dX9_save_34 rfl (lv_at hl 0 rfl) ?_
        rw [hQ9]
        refine ret_i (mc := 0) (ms := 0) hx hb hr hlocks hw hS (by first | exact Nat.le_of_ble_eq_true rfl | omega) (by first | exact Nat.le_of_ble_eq_true rfl | omega) dX9_save_35 ?_
        have q113 : Frm [4001] X X1 := by rw [hX1]; exact Frm.set Frm.rf (show 4001 ∈ [4001] by first | exact nlm_in rfl | decide)
        have hrd114 := rdr_eq (L := [4001]) q113 (by decide)
        have hsx115 := hsvX15
        rw [hrd114.1, hrd114.2.1, hrd114.2.2, Frm.arr q113 48 (by decide +kernel) (by decide), Frm.arr q113 55 (by decide +kernel) (by decide)] at hsx115
        exact ⟨X15, rfl, hRX15, hFX15, hMIX15, by omega, Or.inr (Or.inl ⟨(by (try delta Hid at *); omega), hm20X15 (by omega), (by rcases hsx115 with ⟨-, -, q⟩ | ⟨q, -⟩; exact q; exfalso; have h9 := recR_pos (fc := fcM X) (la := lnM X) (vl := mRid X) (rid := mRid X) (x := x) 30; omega), S4.tr (S4.frm q113 (by decide)) h4X15, S5.tr (S5.frm q113 (by decide)) h5X15⟩)⟩
    · subst ez5
      refine x_if_neF (tgt := 23) hx hb (by omega) (by decide) dX9_save_18 (by decide) ?_
      refine lv_iconst (v := jI (-1)) hx hb dX9_save_21 rfl ?_
      rw [hQ9]
      refine ret_i (mc := 0) (ms := 0) hx hb hr hlocks hw hS (by first | exact Nat.le_of_ble_eq_true rfl | omega) (by first | exact Nat.le_of_ble_eq_true rfl | omega) dX9_save_22 ?_
      have q117 : Frm [4001] X X1 := by rw [hX1]; exact Frm.set Frm.rf (show 4001 ∈ [4001] by first | exact nlm_in rfl | decide)
      have hMq116 : MInv X1 := minv_frm hMI q117 (by decide)
      have q118 : Frm [4001] X X1 := by rw [hX1]; exact Frm.set Frm.rf (show 4001 ∈ [4001] by first | exact nlm_in rfl | decide)
      exact ⟨X1, rfl, hRX1, hFX1, hMq116, by omega, Or.inl ⟨(fun q => by (try delta Hid at *); omega), by omega, q118⟩⟩
  · subst ez2
    refine x_if_eqT (tgt := 21) hx hb (by omega) (by decide) dX9_save_10 (by decide) ?_
    refine lv_iconst (v := jI (-1)) hx hb dX9_save_21 rfl ?_
    rw [hQ9]
    refine ret_i (mc := 0) (ms := 0) hx hb hr hlocks hw hS (by first | exact Nat.le_of_ble_eq_true rfl | omega) (by first | exact Nat.le_of_ble_eq_true rfl | omega) dX9_save_22 ?_
    have q120 : Frm [4001] X X1 := by rw [hX1]; exact Frm.set Frm.rf (show 4001 ∈ [4001] by first | exact nlm_in rfl | decide)
    have hMq119 : MInv X1 := minv_frm hMI q120 (by decide)
    have q121 : Frm [4001] X X1 := by rw [hX1]; exact Frm.set Frm.rf (show 4001 ∈ [4001] by first | exact nlm_in rfl | decide)
    exact ⟨X1, rfl, hRX1, hFX1, hMq119, by omega, Or.inl ⟨(fun q => by (try delta Hid at *); omega), by omega, q121⟩⟩

