set_option maxHeartbeats 4000000 in
set_option maxRecDepth 100000 in
theorem c_X9_itemAt (l : Launch) (D : va_G) (tc : Nat → ClassId) (base : Nat) (ad : Nat → Int → Nat) (cnt : Nat → Int) (X : Nat → Int → Int → Int) (Y : Nat → Int → Int → Option Int) (ln : Int → Int) (hR : Rng X) (hFx : Fx cnt) (hMI : MInv X) (x k i : Int) (hx : -2147483648 ≤ x ∧ x ≤ 2147483647) (hk : -2147483648 ≤ k ∧ k ≤ 2147483647) (hi : -2147483648 ≤ i ∧ i ≤ 2147483647) : KL l D tc base yX9_itemAt wsX9_itemAt ({ frames := 2, cells := 0, slots := 0, locals := 43 } : Room) [.ref (ad 40 0), .int (jI x), .int (jI k), .int (jI i)] (ad, cnt, X, Y, ln) 0 0 (fun z u => ∃ X1 : Nat → Int → Int → Int, u = (ad, cnt, X1, Y, ln) ∧ Rng X1 ∧ Frm [4001] X X1 ∧ MInv X1 ∧ (-9223372036854775808 ≤ z ∧ z ≤ 9223372036854775807) ∧ ((¬ (0 ≤ x ∧ x < X 40 0 13) ∧ z = 0 ∧ X1 40 0 0 = 1) ∨ ((0 ≤ x ∧ x < X 40 0 13) ∧ ¬ (0 ≤ x ∧ x < X 40 0 13 ∧ 0 ≤ k ∧ k < X 44 0 (X 55 0 x)) ∧ z = 0 ∧ X1 40 0 0 = 3) ∨ ((0 ≤ x ∧ x < X 40 0 13 ∧ 0 ≤ k ∧ k < X 44 0 (X 55 0 x)) ∧ (X 46 0 (5 * X 55 0 x + k) < 3 ∨ X 56 0 (5 * x + k) < 0) ∧ z = 0 ∧ X1 40 0 0 = 2) ∨ ((0 ≤ x ∧ x < X 40 0 13 ∧ 0 ≤ k ∧ k < X 44 0 (X 55 0 x)) ∧ 3 ≤ X 46 0 (5 * X 55 0 x + k) ∧ 0 ≤ X 56 0 (5 * x + k) ∧ ¬ (0 ≤ i ∧ i < X 58 0 (X 56 0 (5 * x + k))) ∧ z = 0 ∧ X1 40 0 0 = 3) ∨ ((0 ≤ x ∧ x < X 40 0 13 ∧ 0 ≤ k ∧ k < X 44 0 (X 55 0 x)) ∧ 3 ≤ X 46 0 (5 * X 55 0 x + k) ∧ 0 ≤ X 56 0 (5 * x + k) ∧ (0 ≤ i ∧ i < X 58 0 (X 56 0 (5 * x + k))) ∧ z = X 59 0 (12 * X 56 0 (5 * x + k) + i) ∧ X1 40 0 0 = 0))) := by
  refine K_of (cc := cX9_itemAt) (maxL := 5) (ret := (some .long)) (by decide) rfl (Nat.le_of_ble_eq_true rfl) ?_
  intro p e s m below meth c ls hx hb hr hml hown hts hlocks hl hK hw hS
  have hown : s.vm.findClass RX9 = some m.cls := hown
  obtain ⟨av9, hav9⟩ : ∃ a9 : Array Value, a9 = ([.ref (ad 40 0), .int (jI x), .int (jI k), .int (jI i)] : List Value).toArray := ⟨_, rfl⟩
  rw [← hav9] at hts ⊢
  obtain ⟨Q9, hQ9⟩ : ∃ q9Q : State → Prop, q9Q = MQ below (QL D tc base (fun z u => ∃ X1 : Nat → Int → Int → Int, u = (ad, cnt, X1, Y, ln) ∧ Rng X1 ∧ Frm [4001] X X1 ∧ MInv X1 ∧ (-9223372036854775808 ≤ z ∧ z ≤ 9223372036854775807) ∧ ((¬ (0 ≤ x ∧ x < X 40 0 13) ∧ z = 0 ∧ X1 40 0 0 = 1) ∨ ((0 ≤ x ∧ x < X 40 0 13) ∧ ¬ (0 ≤ x ∧ x < X 40 0 13 ∧ 0 ≤ k ∧ k < X 44 0 (X 55 0 x)) ∧ z = 0 ∧ X1 40 0 0 = 3) ∨ ((0 ≤ x ∧ x < X 40 0 13 ∧ 0 ≤ k ∧ k < X 44 0 (X 55 0 x)) ∧ (X 46 0 (5 * X 55 0 x + k) < 3 ∨ X 56 0 (5 * x + k) < 0) ∧ z = 0 ∧ X1 40 0 0 = 2) ∨ ((0 ≤ x ∧ x < X 40 0 13 ∧ 0 ≤ k ∧ k < X 44 0 (X 55 0 x)) ∧ 3 ≤ X 46 0 (5 * X 55 0 x + k) ∧ 0 ≤ X 56 0 (5 * x + k) ∧ ¬ (0 ≤ i ∧ i < X 58 0 (X 56 0 (5 * x + k))) ∧ z = 0 ∧ X1 40 0 0 = 3) ∨ ((0 ≤ x ∧ x < X 40 0 13 ∧ 0 ≤ k ∧ k < X 44 0 (X 55 0 x)) ∧ 3 ≤ X 46 0 (5 * X 55 0 x + k) ∧ 0 ≤ X 56 0 (5 * x + k) ∧ (0 ≤ i ∧ i < X 58 0 (X 56 0 (5 * x + k))) ∧ z = X 59 0 (12 * X 56 0 (5 * x + k) + i) ∧ X1 40 0 0 = 0)))) av9 s 0 0 (frA base) := ⟨_, rfl⟩
  rw [← hQ9]
  have hi9 : ∀ w ∈ wsX90, w ∈ wsX9_itemAt := fun w h => List.mem_cons_of_mem _ (List.mem_append_right _ h)
  have hf9 : fctx s m _ RX9 wsX9_itemAt D tc RX9 TX9 51 9 := ⟨hts, hi9, hown, hK.1, rfl⟩
  have lk48 := hts (.fieldLink RX9 48 (TX9 15).1 (TX9 15).2.1 (TX9 15).2.2.1) (gj_X9_itemAt_0 _ (gp_1 gp_h))
  have lk54 := hts (.fieldLink RX9 54 (TX9 17).1 (TX9 17).2.1 (TX9 17).2.2.1) (gj_X9_itemAt_0 _ (gp_1 (gp_1 gp_h)))
  have lk57 := hts (.fieldLink RX9 57 (TX9 18).1 (TX9 18).2.1 (TX9 18).2.2.1) (gj_X9_itemAt_0 _ (gp_1 (gp_1 (gp_1 gp_h))))
  have lk145 := hts (.fieldLink RX9 145 (TX9 0).1 (TX9 0).2.1 (TX9 0).2.2.1) (gj_X9_itemAt_0 _ (gp_h))
  have hc40 : cnt 40 = 1 := hFx.at 40 1 (by decide)
  have hc56 : cnt 56 = 1 := hFx.at 56 1 (by decide)
  have hc58 : cnt 58 = 1 := hFx.at 58 1 (by decide)
  have hc59 : cnt 59 = 1 := hFx.at 59 1 (by decide)
  have hl : lv_has ls 5 [(0, .ref (ad 40 0)), (1, .int (jI x)), (2, .int (jI k)), (3, .int (jI i))] := hl
  have fstypes : 0 ≤ X 40 0 2 ∧ X 40 0 2 ≤ 8 := hR 40 0 2
  have fsthings : 0 ≤ X 40 0 13 ∧ X 40 0 13 ≤ 30 := hR 40 0 13
  have fsmarks : 0 ≤ X 40 0 20 ∧ X 40 0 20 ≤ 4 := hR 40 0 20
  have fsnotes : 0 ≤ X 40 0 22 ∧ X 40 0 22 ≤ 80 := hR 40 0 22
  refine lv_aload_n hx hb dX9_itemAt_0 rfl (lv_at hl 0 rfl) ?_
  refine lv_iconst (v := jI 0) hx hb dX9_itemAt_1 rfl ?_
  refine x_puti (jz := 0) hx hb hf9 ⟨tyX9_ok, nmX9⟩ hw hS (by first | exact Int.le_refl 0 | omega) (by first | exact zlt hc40 | omega) sl_40_0 rfl lk145 rfl (tyX9_ok 0 (by decide)) rfl rfl dX9_itemAt_2 (fun H locs hw hS => ?_)
  obtain ⟨X1, hX1⟩ : ∃ Xq, Xq = u3 X 40 0 0 0 := ⟨_, rfl⟩
  rw [← hX1] at hw
  have hRX1 : Rng X1 := by rw [hX1]; exact rng_set hR (show (-2147483648) ≤ 0 ∧ 0 ≤ 2147483647 by omega)
  have hVX1 : X1 40 0 0 = 0 := by rw [hX1]; exact u3_s _ _ _ _ _
  have hFX1 : Frm [4001] X X1 := by rw [hX1]; exact Frm.set Frm.rf (show 4001 ∈ [4001] by decide)
  refine lv_aload_n hx hb dX9_itemAt_5 rfl (lv_at hl 0 rfl) ?_
  refine lv_iload_n hx hb dX9_itemAt_6 rfl (lv_at hl 1 rfl) ?_
  refine gos_i (run_V (As := [.int (jI x)]) (rest := []) hx hb hml hown hts (c_X9_isThing l D tc base ad cnt X1 Y ln hRX1 hFx x (by omega)) (cwV 1 hts gX9_itemAt_X9_isThing rfl rfl rfl (by first | exact hd_X9_isThing | decide +kernel) ⟨Nat.le_of_ble_eq_true rfl, Nat.le_of_ble_eq_true rfl⟩) hK hw (by first | exact Int.le_refl 0 | omega) (by first | exact zlt hc40 | omega) sl_40_0 rfl rfl hl.1 rfl (Nat.le_of_ble_eq_true rfl) dX9_itemAt_7 ⟨Nat.le_of_ble_eq_true rfl, Nat.le_of_ble_eq_true rfl⟩) hS (fun z2 u3 H locs p4 hw hS => ?_)
  obtain ⟨eu3, p4⟩ := p4
  subst eu3
  have e5 : X1 40 0 13 = X 40 0 13 := by rw [hX1, u3_j _ _ _ _ (by decide)]
  simp only [e5] at p4
  rcases p4 with ⟨ez2, p4⟩ | ⟨ez2, p4⟩
  · subst ez2
    refine x_if_neT (tgt := 20) hx hb (by omega) (by decide) dX9_itemAt_10 (by decide) ?_
    refine lv_aload_n hx hb dX9_itemAt_20 rfl (lv_at hl 0 rfl) ?_
    refine lv_iload_n hx hb dX9_itemAt_21 rfl (lv_at hl 1 rfl) ?_
    refine lv_iload_n hx hb dX9_itemAt_22 rfl (lv_at hl 2 rfl) ?_
    refine gos_i (run_V (As := [.int (jI x), .int (jI k)]) (rest := []) hx hb hml hown hts (c_X9_isField l D tc base ad cnt X1 Y ln hRX1 hFx x k (by omega) (by omega)) (cwV 2 hts gX9_itemAt_X9_isField rfl rfl rfl (by first | exact hd_X9_isField | decide +kernel) ⟨Nat.le_of_ble_eq_true rfl, Nat.le_of_ble_eq_true rfl⟩) hK hw (by first | exact Int.le_refl 0 | omega) (by first | exact zlt hc40 | omega) sl_40_0 rfl rfl hl.1 rfl (Nat.le_of_ble_eq_true rfl) dX9_itemAt_23 ⟨Nat.le_of_ble_eq_true rfl, Nat.le_of_ble_eq_true rfl⟩) hS (fun z6 u7 H locs p8 hw hS => ?_)
    obtain ⟨eu7, p8⟩ := p8
    subst eu7
    have e9 : X1 40 0 13 = X 40 0 13 := by rw [hX1, u3_j _ _ _ _ (by decide)]
    have e10 : ∀ j : Int, X1 55 0 j = X 55 0 j := fun j => by rw [hX1, u3_k _ _ _ _ (by decide)]
    have e11 : ∀ j : Int, X1 44 0 j = X 44 0 j := fun j => by rw [hX1, u3_k _ _ _ _ (by decide)]
    simp only [e9, e10, e11] at p8
    rcases p8 with ⟨ez6, p8⟩ | ⟨ez6, p8⟩
    · subst ez6
      refine x_if_neT (tgt := 36) hx hb (by omega) (by decide) dX9_itemAt_26 (by decide) ?_
      refine lv_aload_n hx hb dX9_itemAt_36 rfl (lv_at hl 0 rfl) ?_
      refine lv_iload_n hx hb dX9_itemAt_37 rfl (lv_at hl 1 rfl) ?_
      refine lv_iload_n hx hb dX9_itemAt_38 rfl (lv_at hl 2 rfl) ?_
      refine gos_i (run_V (As := [.int (jI x), .int (jI k)]) (rest := []) hx hb hml hown hts (c_X9_lane l D tc base ad cnt X1 Y ln hRX1 hFx x k (by omega) (by omega)) (cwV 2 hts gX9_itemAt_X9_lane rfl rfl rfl (by first | exact hd_X9_lane | decide +kernel) ⟨Nat.le_of_ble_eq_true rfl, Nat.le_of_ble_eq_true rfl⟩) hK hw (by first | exact Int.le_refl 0 | omega) (by first | exact zlt hc40 | omega) sl_40_0 rfl rfl hl.1 rfl (Nat.le_of_ble_eq_true rfl) dX9_itemAt_39 ⟨Nat.le_of_ble_eq_true rfl, Nat.le_of_ble_eq_true rfl⟩) hS (fun z12 u13 H locs p14 hw hS => ?_)
      obtain ⟨eu13, p14⟩ := p14
      subst eu13
      have e15 : ∀ j : Int, X1 55 0 j = X 55 0 j := fun j => by rw [hX1, u3_k _ _ _ _ (by decide)]
      have e16 : ∀ j : Int, X1 46 0 j = X 46 0 j := fun j => by rw [hX1, u3_k _ _ _ _ (by decide)]
      simp only [e15, e16] at p14
      refine lv_iconst (v := jI 3) hx hb dX9_itemAt_42 rfl ?_
      refine x_icmp_ge (tgt := 50) hx hb (by omega) (by omega) dX9_itemAt_43 (by decide) (fun c17 => ?_) (fun c17 => ?_)
      · refine lv_aload_n hx hb dX9_itemAt_50 rfl (lv_at hl 0 rfl) ?_
        refine x_geto hx hb hf9 hw (by first | exact Int.le_refl 0 | omega) (by first | exact zlt hc40 | omega) sl_40_15 lk48 dX9_itemAt_51 ?_
        refine lv_iconst (v := jI 5) hx hb dX9_itemAt_54 rfl ?_
        refine lv_iload_n hx hb dX9_itemAt_55 rfl (lv_at hl 1 rfl) ?_
        refine x_imul hx hb dX9_itemAt_56 ?_
        refine lv_iload_n hx hb dX9_itemAt_57 rfl (lv_at hl 2 rfl) ?_
        refine x_iadd hx hb dX9_itemAt_58 ?_
        obtain ⟨hy1, hy2, hy3⟩ := hMI.1 x k (by omega) (by omega) (by omega) (by omega)
        refine x_lald hx hb hK.1 hw (by first | exact Int.le_refl 0 | omega) (by first | exact zlt hc56 | omega) ar_56 (len_E ar_56 (by decide)) (by omega) (by omega) (by omega) dX9_itemAt_59 ?_
        have e18 : ∀ p9 q9 : Int, X1 56 p9 q9 = X 56 p9 q9 := fun p9 q9 => by rw [hX1, u3_k _ _ _ _ (by decide)]
        rw [e18 0 ((5 * x) + k)]
        have f19 : (-9223372036854775808) ≤ X 56 0 ((5 * x) + k) ∧ X 56 0 ((5 * x) + k) ≤ 9223372036854775807 := hR 56 0 ((5 * x) + k)
        refine x_l2i hx hb dX9_itemAt_60 ?_
        refine lv_istore (lv' := [(4, .int (jI (X 56 0 ((5 * x) + k)))), (0, .ref (ad 40 0)), (1, .int (jI x)), (2, .int (jI k)), (3, .int (jI i))]) hx hb dX9_itemAt_61 hl (by decide) rfl (fun ls hl => ?_)
        refine lv_iload hx hb dX9_itemAt_63 (lv_at hl 0 rfl) ?_
        refine x_if_ge (tgt := 75) hx hb (by omega) dX9_itemAt_65 (by decide) (fun c20 => ?_) (fun c20 => ?_)
        · refine lv_iload_n hx hb dX9_itemAt_75 rfl (lv_at hl 4 rfl) ?_
          refine x_if_lt (tgt := 90) hx hb (by omega) dX9_itemAt_76 (by decide) (fun c21 => ?_) (fun c21 => ?_)
          · refine lv_aload_n hx hb dX9_itemAt_90 rfl (lv_at hl 1 rfl) ?_
            refine lv_iconst (v := jI 3) hx hb dX9_itemAt_91 rfl ?_
            refine x_puti (jz := 0) hx hb hf9 ⟨tyX9_ok, nmX9⟩ hw hS (by first | exact Int.le_refl 0 | omega) (by first | exact zlt hc40 | omega) sl_40_0 rfl lk145 rfl (tyX9_ok 0 (by decide)) rfl rfl dX9_itemAt_92 (fun H locs hw hS => ?_)
            obtain ⟨X22, hX22⟩ : ∃ Xq, Xq = u3 X1 40 0 0 3 := ⟨_, rfl⟩
            rw [← hX22] at hw
            have hRX22 : Rng X22 := by rw [hX22]; exact rng_set hRX1 (show (-2147483648) ≤ 3 ∧ 3 ≤ 2147483647 by omega)
            have hVX22 : X22 40 0 0 = 3 := by rw [hX22]; exact u3_s _ _ _ _ _
            have hFX22 : Frm [4001] X X22 := by rw [hX22]; exact Frm.set hFX1 (show 4001 ∈ [4001] by decide)
            refine lv_lconst (v := jL 0) hx hb dX9_itemAt_95 (by decide) ?_
            rw [hQ9]
            refine ret_l (mc := 0) (ms := 0) hx hb hr hlocks hw hS (by first | exact Nat.le_of_ble_eq_true rfl | omega) (by first | exact Nat.le_of_ble_eq_true rfl | omega) dX9_itemAt_96 ?_
            have q24 : Frm [4001] X X1 := by rw [hX1]; exact Frm.set Frm.rf (show 4001 ∈ [4001] by decide)
            have q25 : Frm [4001] X X22 := by rw [hX22]; exact Frm.set q24 (show 4001 ∈ [4001] by decide)
            have hMq23 : MInv X22 := minv_frm hMI q25 (by decide)
            have e26 : X22 40 0 0 = 3 := (by exact hVX22)
            exact ⟨X22, rfl, hRX22, hFX22, hMq23, by omega, (by (try delta Hid at *); first | exact Or.inl ⟨(fun q => by omega), by omega, by omega⟩ | exact Or.inr (Or.inl ⟨(by omega), (fun q => by omega), by omega, by omega⟩) | exact Or.inr (Or.inr (Or.inl ⟨(by omega), (by omega), by omega, by omega⟩)) | exact Or.inr (Or.inr (Or.inr (Or.inl ⟨(by omega), by omega, by omega, (fun q => by omega), by omega, by omega⟩))) | exact Or.inr (Or.inr (Or.inr (Or.inr (⟨(by omega), by omega, by omega, (by omega), by omega, by omega⟩)))))⟩
          · refine lv_iload_n hx hb dX9_itemAt_79 rfl (lv_at hl 4 rfl) ?_
            refine lv_aload_n hx hb dX9_itemAt_80 rfl (lv_at hl 1 rfl) ?_
            refine x_geto hx hb hf9 hw (by first | exact Int.le_refl 0 | omega) (by first | exact zlt hc40 | omega) sl_40_17 lk54 dX9_itemAt_81 ?_
            refine lv_iload hx hb dX9_itemAt_84 (lv_at hl 0 rfl) ?_
            refine x_iald hx hb hK.1 hw (by first | exact Int.le_refl 0 | omega) (by first | exact zlt hc58 | omega) ar_58 (len_E ar_58 (by decide)) (by omega) (by omega) (by omega) dX9_itemAt_86 ?_
            have e27 : ∀ p9 q9 : Int, X1 58 p9 q9 = X 58 p9 q9 := fun p9 q9 => by rw [hX1, u3_k _ _ _ _ (by decide)]
            rw [e27 0 (X 56 0 ((5 * x) + k))]
            have f28 : 0 ≤ X 58 0 (X 56 0 ((5 * x) + k)) ∧ X 58 0 (X 56 0 ((5 * x) + k)) ≤ 12 := hR 58 0 (X 56 0 ((5 * x) + k))
            refine x_icmp_lt (tgt := 97) hx hb (by omega) (by omega) dX9_itemAt_87 (by decide) (fun c29 => ?_) (fun c29 => ?_)
            · refine lv_aload_n hx hb dX9_itemAt_97 rfl (lv_at hl 1 rfl) ?_
              refine x_geto hx hb hf9 hw (by first | exact Int.le_refl 0 | omega) (by first | exact zlt hc40 | omega) sl_40_18 lk57 dX9_itemAt_98 ?_
              refine lv_bipush (v := jI 12) hx hb dX9_itemAt_101 (by decide) ?_
              refine lv_iload hx hb dX9_itemAt_103 (lv_at hl 0 rfl) ?_
              refine x_imul hx hb dX9_itemAt_105 ?_
              refine lv_iload_n hx hb dX9_itemAt_106 rfl (lv_at hl 4 rfl) ?_
              refine x_iadd hx hb dX9_itemAt_107 ?_
              refine x_lald hx hb hK.1 hw (by first | exact Int.le_refl 0 | omega) (by first | exact zlt hc59 | omega) ar_59 (len_E ar_59 (by decide)) (by omega) (by omega) (by omega) dX9_itemAt_108 ?_
              have e30 : ∀ p9 q9 : Int, X1 59 p9 q9 = X 59 p9 q9 := fun p9 q9 => by rw [hX1, u3_k _ _ _ _ (by decide)]
              rw [e30 0 ((12 * (X 56 0 ((5 * x) + k))) + i)]
              have f31 : (-9223372036854775808) ≤ X 59 0 ((12 * (X 56 0 ((5 * x) + k))) + i) ∧ X 59 0 ((12 * (X 56 0 ((5 * x) + k))) + i) ≤ 9223372036854775807 := hR 59 0 ((12 * (X 56 0 ((5 * x) + k))) + i)
              rw [hQ9]
              refine ret_l (mc := 0) (ms := 0) hx hb hr hlocks hw hS (by first | exact Nat.le_of_ble_eq_true rfl | omega) (by first | exact Nat.le_of_ble_eq_true rfl | omega) dX9_itemAt_109 ?_
              have q33 : Frm [4001] X X1 := by rw [hX1]; exact Frm.set Frm.rf (show 4001 ∈ [4001] by decide)
              have hMq32 : MInv X1 := minv_frm hMI q33 (by decide)
              have e34 : X1 40 0 0 = 0 := (by exact hVX1)
              exact ⟨X1, rfl, hRX1, hFX1, hMq32, by omega, (by (try delta Hid at *); first | exact Or.inr (Or.inr (Or.inr (Or.inr (⟨(by omega), by omega, by omega, (by omega), by omega, by omega⟩)))) | exact Or.inl ⟨(fun q => by omega), by omega, by omega⟩ | exact Or.inr (Or.inl ⟨(by omega), (fun q => by omega), by omega, by omega⟩) | exact Or.inr (Or.inr (Or.inl ⟨(by omega), (by omega), by omega, by omega⟩)) | exact Or.inr (Or.inr (Or.inr (Or.inl ⟨(by omega), by omega, by omega, (fun q => by omega), by omega, by omega⟩))))⟩
            · refine lv_aload_n hx hb dX9_itemAt_90 rfl (lv_at hl 1 rfl) ?_
              refine lv_iconst (v := jI 3) hx hb dX9_itemAt_91 rfl ?_
              refine x_puti (jz := 0) hx hb hf9 ⟨tyX9_ok, nmX9⟩ hw hS (by first | exact Int.le_refl 0 | omega) (by first | exact zlt hc40 | omega) sl_40_0 rfl lk145 rfl (tyX9_ok 0 (by decide)) rfl rfl dX9_itemAt_92 (fun H locs hw hS => ?_)
              obtain ⟨X35, hX35⟩ : ∃ Xq, Xq = u3 X1 40 0 0 3 := ⟨_, rfl⟩
              rw [← hX35] at hw
              have hRX35 : Rng X35 := by rw [hX35]; exact rng_set hRX1 (show (-2147483648) ≤ 3 ∧ 3 ≤ 2147483647 by omega)
              have hVX35 : X35 40 0 0 = 3 := by rw [hX35]; exact u3_s _ _ _ _ _
              have hFX35 : Frm [4001] X X35 := by rw [hX35]; exact Frm.set hFX1 (show 4001 ∈ [4001] by decide)
              refine lv_lconst (v := jL 0) hx hb dX9_itemAt_95 (by decide) ?_
              rw [hQ9]
              refine ret_l (mc := 0) (ms := 0) hx hb hr hlocks hw hS (by first | exact Nat.le_of_ble_eq_true rfl | omega) (by first | exact Nat.le_of_ble_eq_true rfl | omega) dX9_itemAt_96 ?_
              have q37 : Frm [4001] X X1 := by rw [hX1]; exact Frm.set Frm.rf (show 4001 ∈ [4001] by decide)
              have q38 : Frm [4001] X X35 := by rw [hX35]; exact Frm.set q37 (show 4001 ∈ [4001] by decide)
              have hMq36 : MInv X35 := minv_frm hMI q38 (by decide)
              have e39 : X35 40 0 0 = 3 := (by exact hVX35)
              exact ⟨X35, rfl, hRX35, hFX35, hMq36, by omega, (by (try delta Hid at *); first | exact Or.inl ⟨(fun q => by omega), by omega, by omega⟩ | exact Or.inr (Or.inl ⟨(by omega), (fun q => by omega), by omega, by omega⟩) | exact Or.inr (Or.inr (Or.inl ⟨(by omega), (by omega), by omega, by omega⟩)) | exact Or.inr (Or.inr (Or.inr (Or.inl ⟨(by omega), by omega, by omega, (fun q => by omega), by omega, by omega⟩))) | exact Or.inr (Or.inr (Or.inr (Or.inr (⟨(by omega), by omega, by omega, (by omega), by omega, by omega⟩)))))⟩
        · refine lv_aload_n hx hb dX9_itemAt_68 rfl (lv_at hl 1 rfl) ?_
          refine lv_iconst (v := jI 2) hx hb dX9_itemAt_69 rfl ?_
          refine x_puti (jz := 0) hx hb hf9 ⟨tyX9_ok, nmX9⟩ hw hS (by first | exact Int.le_refl 0 | omega) (by first | exact zlt hc40 | omega) sl_40_0 rfl lk145 rfl (tyX9_ok 0 (by decide)) rfl rfl dX9_itemAt_70 (fun H locs hw hS => ?_)
          obtain ⟨X40, hX40⟩ : ∃ Xq, Xq = u3 X1 40 0 0 2 := ⟨_, rfl⟩
          rw [← hX40] at hw
          have hRX40 : Rng X40 := by rw [hX40]; exact rng_set hRX1 (show (-2147483648) ≤ 2 ∧ 2 ≤ 2147483647 by omega)
          have hVX40 : X40 40 0 0 = 2 := by rw [hX40]; exact u3_s _ _ _ _ _
          have hFX40 : Frm [4001] X X40 := by rw [hX40]; exact Frm.set hFX1 (show 4001 ∈ [4001] by decide)
          refine lv_lconst (v := jL 0) hx hb dX9_itemAt_73 (by decide) ?_
          rw [hQ9]
          refine ret_l (mc := 0) (ms := 0) hx hb hr hlocks hw hS (by first | exact Nat.le_of_ble_eq_true rfl | omega) (by first | exact Nat.le_of_ble_eq_true rfl | omega) dX9_itemAt_74 ?_
          have q42 : Frm [4001] X X1 := by rw [hX1]; exact Frm.set Frm.rf (show 4001 ∈ [4001] by decide)
          have q43 : Frm [4001] X X40 := by rw [hX40]; exact Frm.set q42 (show 4001 ∈ [4001] by decide)
          have hMq41 : MInv X40 := minv_frm hMI q43 (by decide)
          have e44 : X40 40 0 0 = 2 := (by exact hVX40)
          exact ⟨X40, rfl, hRX40, hFX40, hMq41, by omega, (by (try delta Hid at *); first | exact Or.inl ⟨(fun q => by omega), by omega, by omega⟩ | exact Or.inr (Or.inl ⟨(by omega), (fun q => by omega), by omega, by omega⟩) | exact Or.inr (Or.inr (Or.inl ⟨(by omega), (by omega), by omega, by omega⟩)) | exact Or.inr (Or.inr (Or.inr (Or.inl ⟨(by omega), by omega, by omega, (fun q => by omega), by omega, by omega⟩))) | exact Or.inr (Or.inr (Or.inr (Or.inr (⟨(by omega), by omega, by omega, (by omega), by omega, by omega⟩)))))⟩
      · refine lv_iconst (v := jI (-1)) hx hb dX9_itemAt_46 rfl ?_
        refine lv_goto (tgt := 61) hx hb dX9_itemAt_47 (by decide) ?_
        refine lv_istore (lv' := [(4, .int (jI (-1))), (0, .ref (ad 40 0)), (1, .int (jI x)), (2, .int (jI k)), (3, .int (jI i))]) hx hb dX9_itemAt_61 hl (by decide) rfl (fun ls hl => ?_)
        refine lv_iload hx hb dX9_itemAt_63 (lv_at hl 0 rfl) ?_
        refine x_if_ge (tgt := 75) hx hb (by omega) dX9_itemAt_65 (by decide) (fun c45 => ?_) (fun c45 => ?_)
        · refine lv_iload_n hx hb dX9_itemAt_75 rfl (lv_at hl 4 rfl) ?_
          refine x_if_lt (tgt := 90) hx hb (by omega) dX9_itemAt_76 (by decide) (fun c46 => ?_) (fun c46 => ?_)
          · refine lv_aload_n hx hb dX9_itemAt_90 rfl (lv_at hl 1 rfl) ?_
            refine lv_iconst (v := jI 3) hx hb dX9_itemAt_91 rfl ?_
            refine x_puti (jz := 0) hx hb hf9 ⟨tyX9_ok, nmX9⟩ hw hS (by first | exact Int.le_refl 0 | omega) (by first | exact zlt hc40 | omega) sl_40_0 rfl lk145 rfl (tyX9_ok 0 (by decide)) rfl rfl dX9_itemAt_92 (fun H locs hw hS => ?_)
            obtain ⟨X47, hX47⟩ : ∃ Xq, Xq = u3 X1 40 0 0 3 := ⟨_, rfl⟩
            rw [← hX47] at hw
            have hRX47 : Rng X47 := by rw [hX47]; exact rng_set hRX1 (show (-2147483648) ≤ 3 ∧ 3 ≤ 2147483647 by omega)
            have hVX47 : X47 40 0 0 = 3 := by rw [hX47]; exact u3_s _ _ _ _ _
            have hFX47 : Frm [4001] X X47 := by rw [hX47]; exact Frm.set hFX1 (show 4001 ∈ [4001] by decide)
            refine lv_lconst (v := jL 0) hx hb dX9_itemAt_95 (by decide) ?_
            rw [hQ9]
            refine ret_l (mc := 0) (ms := 0) hx hb hr hlocks hw hS (by first | exact Nat.le_of_ble_eq_true rfl | omega) (by first | exact Nat.le_of_ble_eq_true rfl | omega) dX9_itemAt_96 ?_
            have q49 : Frm [4001] X X1 := by rw [hX1]; exact Frm.set Frm.rf (show 4001 ∈ [4001] by decide)
            have q50 : Frm [4001] X X47 := by rw [hX47]; exact Frm.set q49 (show 4001 ∈ [4001] by decide)
            have hMq48 : MInv X47 := minv_frm hMI q50 (by decide)
            have e51 : X47 40 0 0 = 3 := (by exact hVX47)
            exact ⟨X47, rfl, hRX47, hFX47, hMq48, by omega, (by (try delta Hid at *); first | exact Or.inl ⟨(fun q => by omega), by omega, by omega⟩ | exact Or.inr (Or.inl ⟨(by omega), (fun q => by omega), by omega, by omega⟩) | exact Or.inr (Or.inr (Or.inl ⟨(by omega), (by omega), by omega, by omega⟩)) | exact Or.inr (Or.inr (Or.inr (Or.inl ⟨(by omega), by omega, by omega, (fun q => by omega), by omega, by omega⟩))) | exact Or.inr (Or.inr (Or.inr (Or.inr (⟨(by omega), by omega, by omega, (by omega), by omega, by omega⟩)))))⟩
          · refine lv_iload_n hx hb dX9_itemAt_79 rfl (lv_at hl 4 rfl) ?_
            refine lv_aload_n hx hb dX9_itemAt_80 rfl (lv_at hl 1 rfl) ?_
            refine x_geto hx hb hf9 hw (by first | exact Int.le_refl 0 | omega) (by first | exact zlt hc40 | omega) sl_40_17 lk54 dX9_itemAt_81 ?_
            refine lv_iload hx hb dX9_itemAt_84 (lv_at hl 0 rfl) ?_
            refine x_iald hx hb hK.1 hw (by first | exact Int.le_refl 0 | omega) (by first | exact zlt hc58 | omega) ar_58 (len_E ar_58 (by decide)) (by omega) (by omega) (by omega) dX9_itemAt_86 ?_
            have e52 : ∀ p9 q9 : Int, X1 58 p9 q9 = X 58 p9 q9 := fun p9 q9 => by rw [hX1, u3_k _ _ _ _ (by decide)]
            rw [e52 0 (-1)]
            have f53 : 0 ≤ X 58 0 (-1) ∧ X 58 0 (-1) ≤ 12 := hR 58 0 (-1)
            refine x_icmp_lt (tgt := 97) hx hb (by omega) (by omega) dX9_itemAt_87 (by decide) (fun c54 => ?_) (fun c54 => ?_)
            · refine lv_aload_n hx hb dX9_itemAt_97 rfl (lv_at hl 1 rfl) ?_
              refine x_geto hx hb hf9 hw (by first | exact Int.le_refl 0 | omega) (by first | exact zlt hc40 | omega) sl_40_18 lk57 dX9_itemAt_98 ?_
              refine lv_bipush (v := jI 12) hx hb dX9_itemAt_101 (by decide) ?_
              refine lv_iload hx hb dX9_itemAt_103 (lv_at hl 0 rfl) ?_
              refine x_imul hx hb dX9_itemAt_105 ?_
              refine lv_iload_n hx hb dX9_itemAt_106 rfl (lv_at hl 4 rfl) ?_
              refine x_iadd hx hb dX9_itemAt_107 ?_
              refine x_lald hx hb hK.1 hw (by first | exact Int.le_refl 0 | omega) (by first | exact zlt hc59 | omega) ar_59 (len_E ar_59 (by decide)) (by omega) (by omega) (by omega) dX9_itemAt_108 ?_
              have e55 : ∀ p9 q9 : Int, X1 59 p9 q9 = X 59 p9 q9 := fun p9 q9 => by rw [hX1, u3_k _ _ _ _ (by decide)]
              rw [e55 0 ((12 * (-1)) + i)]
              have f56 : (-9223372036854775808) ≤ X 59 0 ((12 * (-1)) + i) ∧ X 59 0 ((12 * (-1)) + i) ≤ 9223372036854775807 := hR 59 0 ((12 * (-1)) + i)
              rw [hQ9]
              refine ret_l (mc := 0) (ms := 0) hx hb hr hlocks hw hS (by first | exact Nat.le_of_ble_eq_true rfl | omega) (by first | exact Nat.le_of_ble_eq_true rfl | omega) dX9_itemAt_109 ?_
              have q58 : Frm [4001] X X1 := by rw [hX1]; exact Frm.set Frm.rf (show 4001 ∈ [4001] by decide)
              have hMq57 : MInv X1 := minv_frm hMI q58 (by decide)
              have e59 : X1 40 0 0 = 0 := (by exact hVX1)
              exact ⟨X1, rfl, hRX1, hFX1, hMq57, by omega, (by (try delta Hid at *); first | exact Or.inr (Or.inr (Or.inr (Or.inr (⟨(by omega), by omega, by omega, (by omega), by omega, by omega⟩)))) | exact Or.inl ⟨(fun q => by omega), by omega, by omega⟩ | exact Or.inr (Or.inl ⟨(by omega), (fun q => by omega), by omega, by omega⟩) | exact Or.inr (Or.inr (Or.inl ⟨(by omega), (by omega), by omega, by omega⟩)) | exact Or.inr (Or.inr (Or.inr (Or.inl ⟨(by omega), by omega, by omega, (fun q => by omega), by omega, by omega⟩))))⟩
            · refine lv_aload_n hx hb dX9_itemAt_90 rfl (lv_at hl 1 rfl) ?_
              refine lv_iconst (v := jI 3) hx hb dX9_itemAt_91 rfl ?_
              refine x_puti (jz := 0) hx hb hf9 ⟨tyX9_ok, nmX9⟩ hw hS (by first | exact Int.le_refl 0 | omega) (by first | exact zlt hc40 | omega) sl_40_0 rfl lk145 rfl (tyX9_ok 0 (by decide)) rfl rfl dX9_itemAt_92 (fun H locs hw hS => ?_)
              obtain ⟨X60, hX60⟩ : ∃ Xq, Xq = u3 X1 40 0 0 3 := ⟨_, rfl⟩
              rw [← hX60] at hw
              have hRX60 : Rng X60 := by rw [hX60]; exact rng_set hRX1 (show (-2147483648) ≤ 3 ∧ 3 ≤ 2147483647 by omega)
              have hVX60 : X60 40 0 0 = 3 := by rw [hX60]; exact u3_s _ _ _ _ _
              have hFX60 : Frm [4001] X X60 := by rw [hX60]; exact Frm.set hFX1 (show 4001 ∈ [4001] by decide)
              refine lv_lconst (v := jL 0) hx hb dX9_itemAt_95 (by decide) ?_
              rw [hQ9]
              refine ret_l (mc := 0) (ms := 0) hx hb hr hlocks hw hS (by first | exact Nat.le_of_ble_eq_true rfl | omega) (by first | exact Nat.le_of_ble_eq_true rfl | omega) dX9_itemAt_96 ?_
              have q62 : Frm [4001] X X1 := by rw [hX1]; exact Frm.set Frm.rf (show 4001 ∈ [4001] by decide)
              have q63 : Frm [4001] X X60 := by rw [hX60]; exact Frm.set q62 (show 4001 ∈ [4001] by decide)
              have hMq61 : MInv X60 := minv_frm hMI q63 (by decide)
              have e64 : X60 40 0 0 = 3 := (by exact hVX60)
              exact ⟨X60, rfl, hRX60, hFX60, hMq61, by omega, (by (try delta Hid at *); first | exact Or.inl ⟨(fun q => by omega), by omega, by omega⟩ | exact Or.inr (Or.inl ⟨(by omega), (fun q => by omega), by omega, by omega⟩) | exact Or.inr (Or.inr (Or.inl ⟨(by omega), (by omega), by omega, by omega⟩)) | exact Or.inr (Or.inr (Or.inr (Or.inl ⟨(by omega), by omega, by omega, (fun q => by omega), by omega, by omega⟩))) | exact Or.inr (Or.inr (Or.inr (Or.inr (⟨(by omega), by omega, by omega, (by omega), by omega, by omega⟩)))))⟩
        · refine lv_aload_n hx hb dX9_itemAt_68 rfl (lv_at hl 1 rfl) ?_
          refine lv_iconst (v := jI 2) hx hb dX9_itemAt_69 rfl ?_
          refine x_puti (jz := 0) hx hb hf9 ⟨tyX9_ok, nmX9⟩ hw hS (by first | exact Int.le_refl 0 | omega) (by first | exact zlt hc40 | omega) sl_40_0 rfl lk145 rfl (tyX9_ok 0 (by decide)) rfl rfl dX9_itemAt_70 (fun H locs hw hS => ?_)
          obtain ⟨X65, hX65⟩ : ∃ Xq, Xq = u3 X1 40 0 0 2 := ⟨_, rfl⟩
          rw [← hX65] at hw
          have hRX65 : Rng X65 := by rw [hX65]; exact rng_set hRX1 (show (-2147483648) ≤ 2 ∧ 2 ≤ 2147483647 by omega)
          have hVX65 : X65 40 0 0 = 2 := by rw [hX65]; exact u3_s _ _ _ _ _
          have hFX65 : Frm [4001] X X65 := by rw [hX65]; exact Frm.set hFX1 (show 4001 ∈ [4001] by decide)
          refine lv_lconst (v := jL 0) hx hb dX9_itemAt_73 (by decide) ?_
          rw [hQ9]
          refine ret_l (mc := 0) (ms := 0) hx hb hr hlocks hw hS (by first | exact Nat.le_of_ble_eq_true rfl | omega) (by first | exact Nat.le_of_ble_eq_true rfl | omega) dX9_itemAt_74 ?_
          have q67 : Frm [4001] X X1 := by rw [hX1]; exact Frm.set Frm.rf (show 4001 ∈ [4001] by decide)
          have q68 : Frm [4001] X X65 := by rw [hX65]; exact Frm.set q67 (show 4001 ∈ [4001] by decide)
          have hMq66 : MInv X65 := minv_frm hMI q68 (by decide)
          have e69 : X65 40 0 0 = 2 := (by exact hVX65)
          exact ⟨X65, rfl, hRX65, hFX65, hMq66, by omega, (by (try delta Hid at *); first | exact Or.inl ⟨(fun q => by omega), by omega, by omega⟩ | exact Or.inr (Or.inl ⟨(by omega), (fun q => by omega), by omega, by omega⟩) | exact Or.inr (Or.inr (Or.inl ⟨(by omega), (by omega), by omega, by omega⟩)) | exact Or.inr (Or.inr (Or.inr (Or.inl ⟨(by omega), by omega, by omega, (fun q => by omega), by omega, by omega⟩))) | exact Or.inr (Or.inr (Or.inr (Or.inr (⟨(by omega), by omega, by omega, (by omega), by omega, by omega⟩)))))⟩
    · subst ez6
      refine x_if_neF (tgt := 36) hx hb (by omega) (by decide) dX9_itemAt_26 (by decide) ?_
      refine lv_aload_n hx hb dX9_itemAt_29 rfl (lv_at hl 0 rfl) ?_
      refine lv_iconst (v := jI 3) hx hb dX9_itemAt_30 rfl ?_
      refine x_puti (jz := 0) hx hb hf9 ⟨tyX9_ok, nmX9⟩ hw hS (by first | exact Int.le_refl 0 | omega) (by first | exact zlt hc40 | omega) sl_40_0 rfl lk145 rfl (tyX9_ok 0 (by decide)) rfl rfl dX9_itemAt_31 (fun H locs hw hS => ?_)
      obtain ⟨X70, hX70⟩ : ∃ Xq, Xq = u3 X1 40 0 0 3 := ⟨_, rfl⟩
      rw [← hX70] at hw
      have hRX70 : Rng X70 := by rw [hX70]; exact rng_set hRX1 (show (-2147483648) ≤ 3 ∧ 3 ≤ 2147483647 by omega)
      have hVX70 : X70 40 0 0 = 3 := by rw [hX70]; exact u3_s _ _ _ _ _
      have hFX70 : Frm [4001] X X70 := by rw [hX70]; exact Frm.set hFX1 (show 4001 ∈ [4001] by decide)
      refine lv_lconst (v := jL 0) hx hb dX9_itemAt_34 (by decide) ?_
      rw [hQ9]
      refine ret_l (mc := 0) (ms := 0) hx hb hr hlocks hw hS (by first | exact Nat.le_of_ble_eq_true rfl | omega) (by first | exact Nat.le_of_ble_eq_true rfl | omega) dX9_itemAt_35 ?_
      have q72 : Frm [4001] X X1 := by rw [hX1]; exact Frm.set Frm.rf (show 4001 ∈ [4001] by decide)
      have q73 : Frm [4001] X X70 := by rw [hX70]; exact Frm.set q72 (show 4001 ∈ [4001] by decide)
      have hMq71 : MInv X70 := minv_frm hMI q73 (by decide)
      have e74 : X70 40 0 0 = 3 := (by exact hVX70)
      exact ⟨X70, rfl, hRX70, hFX70, hMq71, by omega, (by (try delta Hid at *); first | exact Or.inl ⟨(fun q => by omega), by omega, by omega⟩ | exact Or.inr (Or.inl ⟨(by omega), (fun q => by omega), by omega, by omega⟩) | exact Or.inr (Or.inr (Or.inl ⟨(by omega), (by omega), by omega, by omega⟩)) | exact Or.inr (Or.inr (Or.inr (Or.inl ⟨(by omega), by omega, by omega, (fun q => by omega), by omega, by omega⟩))) | exact Or.inr (Or.inr (Or.inr (Or.inr (⟨(by omega), by omega, by omega, (by omega), by omega, by omega⟩)))))⟩
  · subst ez2
    refine x_if_neF (tgt := 20) hx hb (by omega) (by decide) dX9_itemAt_10 (by decide) ?_
    refine lv_aload_n hx hb dX9_itemAt_13 rfl (lv_at hl 0 rfl) ?_
    refine lv_iconst (v := jI 1) hx hb dX9_itemAt_14 rfl ?_
    refine x_puti (jz := 0) hx hb hf9 ⟨tyX9_ok, nmX9⟩ hw hS (by first | exact Int.le_refl 0 | omega) (by first | exact zlt hc40 | omega) sl_40_0 rfl lk145 rfl (tyX9_ok 0 (by decide)) rfl rfl dX9_itemAt_15 (fun H locs hw hS => ?_)
    obtain ⟨X75, hX75⟩ : ∃ Xq, Xq = u3 X1 40 0 0 1 := ⟨_, rfl⟩
    rw [← hX75] at hw
    have hRX75 : Rng X75 := by rw [hX75]; exact rng_set hRX1 (show (-2147483648) ≤ 1 ∧ 1 ≤ 2147483647 by omega)
    have hVX75 : X75 40 0 0 = 1 := by rw [hX75]; exact u3_s _ _ _ _ _
    have hFX75 : Frm [4001] X X75 := by rw [hX75]; exact Frm.set hFX1 (show 4001 ∈ [4001] by decide)
    refine lv_lconst (v := jL 0) hx hb dX9_itemAt_18 (by decide) ?_
    rw [hQ9]
    refine ret_l (mc := 0) (ms := 0) hx hb hr hlocks hw hS (by first | exact Nat.le_of_ble_eq_true rfl | omega) (by first | exact Nat.le_of_ble_eq_true rfl | omega) dX9_itemAt_19 ?_
    have q77 : Frm [4001] X X1 := by rw [hX1]; exact Frm.set Frm.rf (show 4001 ∈ [4001] by decide)
    have q78 : Frm [4001] X X75 := by rw [hX75]; exact Frm.set q77 (show 4001 ∈ [4001] by decide)
    have hMq76 : MInv X75 := minv_frm hMI q78 (by decide)
    have e79 : X75 40 0 0 = 1 := (by exact hVX75)
    exact ⟨X75, rfl, hRX75, hFX75, hMq76, by omega, (by (try delta Hid at *); first | exact Or.inl ⟨(fun q => by omega), by omega, by omega⟩ | exact Or.inr (Or.inl ⟨(by omega), (fun q => by omega), by omega, by omega⟩) | exact Or.inr (Or.inr (Or.inl ⟨(by omega), (by omega), by omega, by omega⟩)) | exact Or.inr (Or.inr (Or.inr (Or.inl ⟨(by omega), by omega, by omega, (fun q => by omega), by omega, by omega⟩))) | exact Or.inr (Or.inr (Or.inr (Or.inr (⟨(by omega), by omega, by omega, (by omega), by omega, by omega⟩)))))⟩
