set_option maxHeartbeats 4000000 in
set_option maxRecDepth 100000 in
theorem c_X9_shut (l : Launch) (D : va_G) (tc : Nat → ClassId) (base : Nat) (ad : Nat → Int → Nat) (cnt : Nat → Int) (X : Nat → Int → Int → Int) (Y : Nat → Int → Int → Option Int) (ln : Int → Int) (hR : Rng X) (hFx : Fx cnt) (hMI : MInv X) (t k on : Int) (ht : -2147483648 ≤ t ∧ t ≤ 2147483647) (hk : -2147483648 ≤ k ∧ k ≤ 2147483647) (hon : 0 ≤ on ∧ on ≤ 1) : KI l D tc base yX9_shut wsX9_shut ({ frames := 1, cells := 0, slots := 0, locals := 21 } : Room) [.ref (ad 40 0), .int (jI t), .int (jI k), .int (jI on)] (ad, cnt, X, Y, ln) 0 0 (fun z u => ∃ X1 : Nat → Int → Int → Int, u = (ad, cnt, X1, Y, ln) ∧ Rng X1 ∧ Frm [4001, 4800] X X1 ∧ MInv X1 ∧ (-2147483648 ≤ z ∧ z ≤ 2147483647) ∧ ((0 ≤ t ∧ t < X 40 0 2 ∧ 0 ≤ k ∧ k < X 44 0 t ∧ z = X 48 0 (5 * t + k) ∧ X1 48 0 (5 * t + k) = on) ∨ (¬ (0 ≤ t ∧ t < X 40 0 2 ∧ 0 ≤ k ∧ k < X 44 0 t) ∧ z = -1 ∧ X1 48 0 (5 * t + k) = X 48 0 (5 * t + k))) ∧ ∀ y, y ≠ 5 * t + k → X1 48 0 y = X 48 0 y) := by
  refine K_of (cc := cX9_shut) (maxL := 5) (ret := (some .int)) (by decide) rfl (Nat.le_of_ble_eq_true rfl) ?_
  intro p e s m below meth c ls hx hb hr hml hown hts hlocks hl hK hw hS
  have hown : s.vm.findClass RX9 = some m.cls := hown
  obtain ⟨av9, hav9⟩ : ∃ a9 : Array Value, a9 = ([.ref (ad 40 0), .int (jI t), .int (jI k), .int (jI on)] : List Value).toArray := ⟨_, rfl⟩
  rw [← hav9] at hts ⊢
  obtain ⟨Q9, hQ9⟩ : ∃ q9Q : State → Prop, q9Q = MQ below (QI D tc base (fun z u => ∃ X1 : Nat → Int → Int → Int, u = (ad, cnt, X1, Y, ln) ∧ Rng X1 ∧ Frm [4001, 4800] X X1 ∧ MInv X1 ∧ (-2147483648 ≤ z ∧ z ≤ 2147483647) ∧ ((0 ≤ t ∧ t < X 40 0 2 ∧ 0 ≤ k ∧ k < X 44 0 t ∧ z = X 48 0 (5 * t + k) ∧ X1 48 0 (5 * t + k) = on) ∨ (¬ (0 ≤ t ∧ t < X 40 0 2 ∧ 0 ≤ k ∧ k < X 44 0 t) ∧ z = -1 ∧ X1 48 0 (5 * t + k) = X 48 0 (5 * t + k))) ∧ ∀ y, y ≠ 5 * t + k → X1 48 0 y = X 48 0 y)) av9 s 0 0 (frA base) := ⟨_, rfl⟩
  rw [← hQ9]
  have hi9 : ∀ w ∈ wsX90, w ∈ wsX9_shut := fun w h => List.mem_cons_of_mem _ (List.mem_append_right _ h)
  have hf9 : fctx s m _ RX9 wsX9_shut D tc RX9 TX9 51 9 := ⟨hts, hi9, hown, hK.1, rfl⟩
  have lk13 := hts (.fieldLink RX9 13 (TX9 3).1 (TX9 3).2.1 (TX9 3).2.2.1) (gj_X9_shut_0 _ (gp_1 gp_h))
  have lk27 := hts (.fieldLink RX9 27 (TX9 7).1 (TX9 7).2.1 (TX9 7).2.2.1) (gj_X9_shut_0 _ (gp_1 (gp_1 gp_h)))
  have lk145 := hts (.fieldLink RX9 145 (TX9 0).1 (TX9 0).2.1 (TX9 0).2.2.1) (gj_X9_shut_0 _ (gp_h))
  have hc40 : cnt 40 = 1 := hFx.at 40 1 (by decide)
  have hc44 : cnt 44 = 1 := hFx.at 44 1 (by decide)
  have hc48 : cnt 48 = 1 := hFx.at 48 1 (by decide)
  have hl : lv_has ls 5 [(0, .ref (ad 40 0)), (1, .int (jI t)), (2, .int (jI k)), (3, .int (jI on))] := hl
  have fstypes : 0 ≤ X 40 0 2 ∧ X 40 0 2 ≤ 8 := hR 40 0 2
  have fsthings : 0 ≤ X 40 0 13 ∧ X 40 0 13 ≤ 30 := hR 40 0 13
  have fsmarks : 0 ≤ X 40 0 20 ∧ X 40 0 20 ≤ 4 := hR 40 0 20
  have fsnotes : 0 ≤ X 40 0 22 ∧ X 40 0 22 ≤ 80 := hR 40 0 22
  refine lv_aload_n hx hb dX9_shut_0 rfl (lv_at hl 0 rfl) ?_
  refine lv_iconst (v := jI 0) hx hb dX9_shut_1 rfl ?_
  refine x_puti (jz := 0) hx hb hf9 ⟨tyX9_ok, nmX9⟩ hw hS (by first | exact Int.le_refl 0 | omega) (by first | exact zlt hc40 | omega) sl_40_0 rfl lk145 rfl (tyX9_ok 0 (by decide)) rfl rfl dX9_shut_2 (fun H locs hw hS => ?_)
  obtain ⟨X1, hX1⟩ : ∃ Xq, Xq = u3 X 40 0 0 0 := ⟨_, rfl⟩
  rw [← hX1] at hw
  have hRX1 : Rng X1 := by rw [hX1]; exact rng_set hR (show (-2147483648) ≤ 0 ∧ 0 ≤ 2147483647 by omega)
  have hVX1 : X1 40 0 0 = 0 := by rw [hX1]; exact u3_s _ _ _ _ _
  have hFX1 : Frm [4001, 4800] X X1 := by rw [hX1]; exact Frm.set Frm.rf (show 4001 ∈ [4001, 4800] by decide)
  refine lv_aload_n hx hb dX9_shut_5 rfl (lv_at hl 0 rfl) ?_
  refine lv_iload_n hx hb dX9_shut_6 rfl (lv_at hl 1 rfl) ?_
  refine gos_i (run_V (As := [.int (jI t)]) (rest := []) hx hb hml hown hts (c_X9_isType l D tc base ad cnt X1 Y ln hRX1 hFx t (by omega)) (cwV 1 hts gX9_shut_X9_isType rfl rfl rfl (by first | exact hd_X9_isType | decide +kernel) ⟨Nat.le_of_ble_eq_true rfl, Nat.le_of_ble_eq_true rfl⟩) hK hw (by first | exact Int.le_refl 0 | omega) (by first | exact zlt hc40 | omega) sl_40_0 rfl rfl hl.1 rfl (Nat.le_of_ble_eq_true rfl) dX9_shut_7 ⟨Nat.le_of_ble_eq_true rfl, Nat.le_of_ble_eq_true rfl⟩) hS (fun z2 u3 H locs p4 hw hS => ?_)
  obtain ⟨eu3, p4⟩ := p4
  subst eu3
  have e5 : X1 40 0 2 = X 40 0 2 := by rw [hX1, u3_j _ _ _ _ (by decide)]
  simp only [e5] at p4
  rcases p4 with ⟨ez2, p4⟩ | ⟨ez2, p4⟩
  · subst ez2
    refine x_if_eqF (tgt := 27) hx hb (by omega) (by decide) dX9_shut_10 (by decide) ?_
    refine lv_iload_n hx hb dX9_shut_13 rfl (lv_at hl 2 rfl) ?_
    refine x_if_lt (tgt := 27) hx hb (by omega) dX9_shut_14 (by decide) (fun c6 => ?_) (fun c6 => ?_)
    · refine lv_iconst (v := jI (-1)) hx hb dX9_shut_27 rfl ?_
      rw [hQ9]
      refine ret_i (mc := 0) (ms := 0) hx hb hr hlocks hw hS (by first | exact Nat.le_of_ble_eq_true rfl | omega) (by first | exact Nat.le_of_ble_eq_true rfl | omega) dX9_shut_28 ?_
      have q8 : Frm [4001] X X1 := by rw [hX1]; exact Frm.set Frm.rf (show 4001 ∈ [4001] by decide)
      have hMq7 : MInv X1 := minv_frm hMI q8 (by decide)
      have e9 : X1 48 0 ((5 * t) + k) = X 48 0 ((5 * t) + k) := (by rw [hX1, u3_k _ _ _ _ (by decide)])
      exact ⟨X1, rfl, hRX1, hFX1, hMq7, by omega, (by (try delta Hid at *); first | exact Or.inr ((⟨(fun q => by omega), by omega, by omega⟩)) | exact Or.inl ⟨by omega, by omega, by omega, by omega, by omega, by omega⟩ | omega), fun y hy => (by rw [hX1, u3_k _ _ _ _ (by decide)])⟩
    · refine lv_iload_n hx hb dX9_shut_17 rfl (lv_at hl 2 rfl) ?_
      refine lv_aload_n hx hb dX9_shut_18 rfl (lv_at hl 0 rfl) ?_
      refine x_geto hx hb hf9 hw (by first | exact Int.le_refl 0 | omega) (by first | exact zlt hc40 | omega) sl_40_3 lk13 dX9_shut_19 ?_
      refine lv_iload_n hx hb dX9_shut_22 rfl (lv_at hl 1 rfl) ?_
      refine x_iald hx hb hK.1 hw (by first | exact Int.le_refl 0 | omega) (by first | exact zlt hc44 | omega) ar_44 (len_E ar_44 (by decide)) (by omega) (by omega) (by omega) dX9_shut_23 ?_
      have e10 : ∀ p9 q9 : Int, X1 44 p9 q9 = X 44 p9 q9 := fun p9 q9 => by rw [hX1, u3_k _ _ _ _ (by decide)]
      rw [e10 0 t]
      have f11 : 0 ≤ X 44 0 t ∧ X 44 0 t ≤ 5 := hR 44 0 t
      refine x_icmp_lt (tgt := 29) hx hb (by omega) (by omega) dX9_shut_24 (by decide) (fun c12 => ?_) (fun c12 => ?_)
      · refine lv_aload_n hx hb dX9_shut_29 rfl (lv_at hl 0 rfl) ?_
        refine x_geto hx hb hf9 hw (by first | exact Int.le_refl 0 | omega) (by first | exact zlt hc40 | omega) sl_40_7 lk27 dX9_shut_30 ?_
        refine lv_iconst (v := jI 5) hx hb dX9_shut_33 rfl ?_
        refine lv_iload_n hx hb dX9_shut_34 rfl (lv_at hl 1 rfl) ?_
        refine x_imul hx hb dX9_shut_35 ?_
        refine lv_iload_n hx hb dX9_shut_36 rfl (lv_at hl 2 rfl) ?_
        refine x_iadd hx hb dX9_shut_37 ?_
        refine x_zald hx hb hK.1 hw (by first | exact Int.le_refl 0 | omega) (by first | exact zlt hc48 | omega) ar_48 (len_E ar_48 (by decide)) (by omega) (by omega) (by omega) dX9_shut_38 ?_
        have e13 : ∀ p9 q9 : Int, X1 48 p9 q9 = X 48 p9 q9 := fun p9 q9 => by rw [hX1, u3_k _ _ _ _ (by decide)]
        rw [e13 0 ((5 * t) + k)]
        have f14 : 0 ≤ X 48 0 ((5 * t) + k) ∧ X 48 0 ((5 * t) + k) ≤ 1 := hR 48 0 ((5 * t) + k)
        refine lv_istore (lv' := [(4, .int (jI (X 48 0 ((5 * t) + k)))), (0, .ref (ad 40 0)), (1, .int (jI t)), (2, .int (jI k)), (3, .int (jI on))]) hx hb dX9_shut_39 hl (by decide) rfl (fun ls hl => ?_)
        refine lv_aload_n hx hb dX9_shut_41 rfl (lv_at hl 1 rfl) ?_
        refine x_geto hx hb hf9 hw (by first | exact Int.le_refl 0 | omega) (by first | exact zlt hc40 | omega) sl_40_7 lk27 dX9_shut_42 ?_
        refine lv_iconst (v := jI 5) hx hb dX9_shut_45 rfl ?_
        refine lv_iload_n hx hb dX9_shut_46 rfl (lv_at hl 2 rfl) ?_
        refine x_imul hx hb dX9_shut_47 ?_
        refine lv_iload_n hx hb dX9_shut_48 rfl (lv_at hl 3 rfl) ?_
        refine x_iadd hx hb dX9_shut_49 ?_
        refine lv_iload_n hx hb dX9_shut_50 rfl (lv_at hl 4 rfl) ?_
        refine x_zast hx hb hK.1 hw hS (by first | exact Int.le_refl 0 | omega) (by first | exact zlt hc48 | omega) ar_48 (len_E ar_48 (by decide)) (by omega) (by omega) (by omega) (by omega) (by omega) dX9_shut_51 (fun H locs hw hS => ?_)
        obtain ⟨X15, hX15⟩ : ∃ Xq, Xq = u3 X1 48 0 ((5 * t) + k) on := ⟨_, rfl⟩
        rw [← hX15] at hw
        have hRX15 : Rng X15 := by rw [hX15]; exact rng_set hRX1 (show 0 ≤ on ∧ on ≤ 1 by omega)
        have hVX15 : X15 48 0 ((5 * t) + k) = on := by rw [hX15]; exact u3_s _ _ _ _ _
        have hFX15 : Frm [4001, 4800] X X15 := by rw [hX15]; exact Frm.set hFX1 (show 4800 ∈ [4001, 4800] by decide)
        refine lv_iload hx hb dX9_shut_52 (lv_at hl 0 rfl) ?_
        refine x_if_eq (tgt := 61) hx hb (by omega) dX9_shut_54 (by decide) (fun c16 => ?_) (fun c16 => ?_)
        · refine lv_iconst (v := jI 0) hx hb dX9_shut_61 rfl ?_
          rw [hQ9]
          refine ret_i (mc := 0) (ms := 0) hx hb hr hlocks hw hS (by first | exact Nat.le_of_ble_eq_true rfl | omega) (by first | exact Nat.le_of_ble_eq_true rfl | omega) dX9_shut_62 ?_
          have q18 : Frm [4001, 4800] X X1 := by rw [hX1]; exact Frm.set Frm.rf (show 4001 ∈ [4001, 4800] by decide)
          have q19 : Frm [4001, 4800] X X15 := by rw [hX15]; exact Frm.set q18 (show 4800 ∈ [4001, 4800] by decide)
          have hMq17 : MInv X15 := minv_frm hMI q19 (by decide)
          have e20 : X15 48 0 ((5 * t) + k) = on := (by exact hVX15)
          exact ⟨X15, rfl, hRX15, hFX15, hMq17, by omega, (by (try delta Hid at *); first | exact Or.inl ⟨by omega, by omega, by omega, by omega, by omega, by omega⟩ | omega), fun y hy => (by rw [hX15, u3_j _ _ _ _ hy, hX1, u3_k _ _ _ _ (by decide)])⟩
        · refine lv_iconst (v := jI 1) hx hb dX9_shut_57 rfl ?_
          refine lv_goto (tgt := 62) hx hb dX9_shut_58 (by decide) ?_
          rw [hQ9]
          refine ret_i (mc := 0) (ms := 0) hx hb hr hlocks hw hS (by first | exact Nat.le_of_ble_eq_true rfl | omega) (by first | exact Nat.le_of_ble_eq_true rfl | omega) dX9_shut_62 ?_
          have q22 : Frm [4001, 4800] X X1 := by rw [hX1]; exact Frm.set Frm.rf (show 4001 ∈ [4001, 4800] by decide)
          have q23 : Frm [4001, 4800] X X15 := by rw [hX15]; exact Frm.set q22 (show 4800 ∈ [4001, 4800] by decide)
          have hMq21 : MInv X15 := minv_frm hMI q23 (by decide)
          have e24 : X15 48 0 ((5 * t) + k) = on := (by exact hVX15)
          exact ⟨X15, rfl, hRX15, hFX15, hMq21, by omega, (by (try delta Hid at *); first | exact Or.inl ⟨by omega, by omega, by omega, by omega, by omega, by omega⟩ | omega), fun y hy => (by rw [hX15, u3_j _ _ _ _ hy, hX1, u3_k _ _ _ _ (by decide)])⟩
      · refine lv_iconst (v := jI (-1)) hx hb dX9_shut_27 rfl ?_
        rw [hQ9]
        refine ret_i (mc := 0) (ms := 0) hx hb hr hlocks hw hS (by first | exact Nat.le_of_ble_eq_true rfl | omega) (by first | exact Nat.le_of_ble_eq_true rfl | omega) dX9_shut_28 ?_
        have q26 : Frm [4001] X X1 := by rw [hX1]; exact Frm.set Frm.rf (show 4001 ∈ [4001] by decide)
        have hMq25 : MInv X1 := minv_frm hMI q26 (by decide)
        have e27 : X1 48 0 ((5 * t) + k) = X 48 0 ((5 * t) + k) := (by rw [hX1, u3_k _ _ _ _ (by decide)])
        exact ⟨X1, rfl, hRX1, hFX1, hMq25, by omega, (by (try delta Hid at *); first | exact Or.inr ((⟨(fun q => by omega), by omega, by omega⟩)) | exact Or.inl ⟨by omega, by omega, by omega, by omega, by omega, by omega⟩ | omega), fun y hy => (by rw [hX1, u3_k _ _ _ _ (by decide)])⟩
  · subst ez2
    refine x_if_eqT (tgt := 27) hx hb (by omega) (by decide) dX9_shut_10 (by decide) ?_
    refine lv_iconst (v := jI (-1)) hx hb dX9_shut_27 rfl ?_
    rw [hQ9]
    refine ret_i (mc := 0) (ms := 0) hx hb hr hlocks hw hS (by first | exact Nat.le_of_ble_eq_true rfl | omega) (by first | exact Nat.le_of_ble_eq_true rfl | omega) dX9_shut_28 ?_
    have q29 : Frm [4001] X X1 := by rw [hX1]; exact Frm.set Frm.rf (show 4001 ∈ [4001] by decide)
    have hMq28 : MInv X1 := minv_frm hMI q29 (by decide)
    have e30 : X1 48 0 ((5 * t) + k) = X 48 0 ((5 * t) + k) := (by rw [hX1, u3_k _ _ _ _ (by decide)])
    exact ⟨X1, rfl, hRX1, hFX1, hMq28, by omega, (by (try delta Hid at *); first | exact Or.inr ((⟨(fun q => by omega), by omega, by omega⟩)) | exact Or.inl ⟨by omega, by omega, by omega, by omega, by omega, by omega⟩ | omega), fun y hy => (by rw [hX1, u3_k _ _ _ _ (by decide)])⟩
