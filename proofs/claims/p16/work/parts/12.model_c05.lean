set_option maxHeartbeats 4000000 in
set_option maxRecDepth 100000 in
theorem c_X9_item (l : Launch) (D : va_G) (tc : Nat → ClassId) (base : Nat) (ad : Nat → Int → Nat) (cnt : Nat → Int) (X : Nat → Int → Int → Int) (Y : Nat → Int → Int → Option Int) (ln : Int → Int) (hR : Rng X) (hFx : Fx cnt) (hMI : MInv X) (x k i v : Int) (hx : -2147483648 ≤ x ∧ x ≤ 2147483647) (hk : -2147483648 ≤ k ∧ k ≤ 2147483647) (hi : -2147483648 ≤ i ∧ i ≤ 2147483647) (hv : -9223372036854775808 ≤ v ∧ v ≤ 9223372036854775807) : KI l D tc base yX9_item wsX9_item ({ frames := 2, cells := 0, slots := 0, locals := 43 } : Room) [.ref (ad 40 0), .int (jI x), .int (jI k), .int (jI i), .long (jL v)] (ad, cnt, X, Y, ln) 0 0 (fun z u => ∃ X1 : Nat → Int → Int → Int, u = (ad, cnt, X1, Y, ln) ∧ Rng X1 ∧ Frm [4001, 6600, 6700, 6800, 4023, 5900] X X1 ∧ MInv X1 ∧ (-2147483648 ≤ z ∧ z ≤ 2147483647) ∧ ((¬ (0 ≤ x ∧ x < X 40 0 13 ∧ 0 ≤ k ∧ k < X 44 0 (X 55 0 x)) ∧ z = -1) ∨ ((0 ≤ x ∧ x < X 40 0 13 ∧ 0 ≤ k ∧ k < X 44 0 (X 55 0 x)) ∧ X 46 0 (5 * X 55 0 x + k) < 3 ∧ z = -14) ∨ ((0 ≤ x ∧ x < X 40 0 13 ∧ 0 ≤ k ∧ k < X 44 0 (X 55 0 x)) ∧ 3 ≤ X 46 0 (5 * X 55 0 x + k) ∧ (X 56 0 (5 * x + k) < 0) ∧ z = -11) ∨ ((0 ≤ x ∧ x < X 40 0 13 ∧ 0 ≤ k ∧ k < X 44 0 (X 55 0 x)) ∧ 3 ≤ X 46 0 (5 * X 55 0 x + k) ∧ ¬ (X 56 0 (5 * x + k) < 0) ∧ ¬ (0 ≤ i ∧ i < X 58 0 (X 56 0 (5 * x + k))) ∧ z = -12) ∨ ((0 ≤ x ∧ x < X 40 0 13 ∧ 0 ≤ k ∧ k < X 44 0 (X 55 0 x)) ∧ 3 ≤ X 46 0 (5 * X 55 0 x + k) ∧ ¬ (X 56 0 (5 * x + k) < 0) ∧ (0 ≤ i ∧ i < X 58 0 (X 56 0 (5 * x + k))) ∧ (0 < X 40 0 20 ∧ X 40 0 22 = 80) ∧ z = -4) ∨ ((0 ≤ x ∧ x < X 40 0 13 ∧ 0 ≤ k ∧ k < X 44 0 (X 55 0 x)) ∧ 3 ≤ X 46 0 (5 * X 55 0 x + k) ∧ ¬ (X 56 0 (5 * x + k) < 0) ∧ (0 ≤ i ∧ i < X 58 0 (X 56 0 (5 * x + k))) ∧ (X 40 0 20 = 0 ∨ X 40 0 22 ≤ 79) ∧ z = 1)) ∧ (z < 0 → Frm [4001] X X1) ∧ (z = 1 → eNoteM X X1 (X 64 0 (X 40 0 22)) (X 65 0 (X 40 0 22)) (X 56 0 (5 * x + k)) i (X 59 0 (12 * X 56 0 (5 * x + k) + i)) ∧ X1 59 0 (12 * X 56 0 (5 * x + k) + i) = cutZ (X 57 0 (X 56 0 (5 * x + k))) v ∧ ∀ p, p ≠ 12 * X 56 0 (5 * x + k) + i → X1 59 0 p = X 59 0 p)) := by
  refine K_of (cc := cX9_item) (maxL := 7) (ret := (some .int)) (by decide) rfl (Nat.le_of_ble_eq_true rfl) ?_
  intro p e s m below meth c ls hx hb hr hml hown hts hlocks hl hK hw hS
  have hown : s.vm.findClass RX9 = some m.cls := hown
  obtain ⟨av9, hav9⟩ : ∃ a9 : Array Value, a9 = ([.ref (ad 40 0), .int (jI x), .int (jI k), .int (jI i), .long (jL v)] : List Value).toArray := ⟨_, rfl⟩
  rw [← hav9] at hts ⊢
  obtain ⟨Q9, hQ9⟩ : ∃ q9Q : State → Prop, q9Q = MQ below (QI D tc base (fun z u => ∃ X1 : Nat → Int → Int → Int, u = (ad, cnt, X1, Y, ln) ∧ Rng X1 ∧ Frm [4001, 6600, 6700, 6800, 4023, 5900] X X1 ∧ MInv X1 ∧ (-2147483648 ≤ z ∧ z ≤ 2147483647) ∧ ((¬ (0 ≤ x ∧ x < X 40 0 13 ∧ 0 ≤ k ∧ k < X 44 0 (X 55 0 x)) ∧ z = -1) ∨ ((0 ≤ x ∧ x < X 40 0 13 ∧ 0 ≤ k ∧ k < X 44 0 (X 55 0 x)) ∧ X 46 0 (5 * X 55 0 x + k) < 3 ∧ z = -14) ∨ ((0 ≤ x ∧ x < X 40 0 13 ∧ 0 ≤ k ∧ k < X 44 0 (X 55 0 x)) ∧ 3 ≤ X 46 0 (5 * X 55 0 x + k) ∧ (X 56 0 (5 * x + k) < 0) ∧ z = -11) ∨ ((0 ≤ x ∧ x < X 40 0 13 ∧ 0 ≤ k ∧ k < X 44 0 (X 55 0 x)) ∧ 3 ≤ X 46 0 (5 * X 55 0 x + k) ∧ ¬ (X 56 0 (5 * x + k) < 0) ∧ ¬ (0 ≤ i ∧ i < X 58 0 (X 56 0 (5 * x + k))) ∧ z = -12) ∨ ((0 ≤ x ∧ x < X 40 0 13 ∧ 0 ≤ k ∧ k < X 44 0 (X 55 0 x)) ∧ 3 ≤ X 46 0 (5 * X 55 0 x + k) ∧ ¬ (X 56 0 (5 * x + k) < 0) ∧ (0 ≤ i ∧ i < X 58 0 (X 56 0 (5 * x + k))) ∧ (0 < X 40 0 20 ∧ X 40 0 22 = 80) ∧ z = -4) ∨ ((0 ≤ x ∧ x < X 40 0 13 ∧ 0 ≤ k ∧ k < X 44 0 (X 55 0 x)) ∧ 3 ≤ X 46 0 (5 * X 55 0 x + k) ∧ ¬ (X 56 0 (5 * x + k) < 0) ∧ (0 ≤ i ∧ i < X 58 0 (X 56 0 (5 * x + k))) ∧ (X 40 0 20 = 0 ∨ X 40 0 22 ≤ 79) ∧ z = 1)) ∧ (z < 0 → Frm [4001] X X1) ∧ (z = 1 → eNoteM X X1 (X 64 0 (X 40 0 22)) (X 65 0 (X 40 0 22)) (X 56 0 (5 * x + k)) i (X 59 0 (12 * X 56 0 (5 * x + k) + i)) ∧ X1 59 0 (12 * X 56 0 (5 * x + k) + i) = cutZ (X 57 0 (X 56 0 (5 * x + k))) v ∧ ∀ p, p ≠ 12 * X 56 0 (5 * x + k) + i → X1 59 0 p = X 59 0 p))) av9 s 0 0 (frA base) := ⟨_, rfl⟩
  rw [← hQ9]
  have hi9 : ∀ w ∈ wsX90, w ∈ wsX9_item := fun w h => List.mem_cons_of_mem _ (List.mem_append_right _ h)
  have hf9 : fctx s m _ RX9 wsX9_item D tc RX9 TX9 51 9 := ⟨hts, hi9, hown, hK.1, rfl⟩
  have lk48 := hts (.fieldLink RX9 48 (TX9 15).1 (TX9 15).2.1 (TX9 15).2.2.1) (gj_X9_item_0 _ (gp_1 gp_h))
  have lk51 := hts (.fieldLink RX9 51 (TX9 16).1 (TX9 16).2.1 (TX9 16).2.2.1) (gj_X9_item_0 _ (gp_4 (gp_4 (gp_1 gp_h))))
  have lk54 := hts (.fieldLink RX9 54 (TX9 17).1 (TX9 17).2.1 (TX9 17).2.2.1) (gj_X9_item_0 _ (gp_1 (gp_1 gp_h)))
  have lk57 := hts (.fieldLink RX9 57 (TX9 18).1 (TX9 18).2.1 (TX9 18).2.2.1) (gj_X9_item_0 _ (gp_4 (gp_4 gp_h)))
  have lk72 := hts (.fieldLink RX9 72 (TX9 25).1 (TX9 25).2.1 (TX9 25).2.2.1) (gj_X9_item_0 _ (gp_4 gp_h))
  have lk75 := hts (.fieldLink RX9 75 (TX9 26).1 (TX9 26).2.1 (TX9 26).2.2.1) (gj_X9_item_0 _ (gp_4 (gp_1 (gp_1 gp_h))))
  have lk78 := hts (.fieldLink RX9 78 (TX9 27).1 (TX9 27).2.1 (TX9 27).2.2.1) (gj_X9_item_0 _ (gp_4 (gp_1 (gp_1 (gp_1 gp_h)))))
  have lk145 := hts (.fieldLink RX9 145 (TX9 0).1 (TX9 0).2.1 (TX9 0).2.2.1) (gj_X9_item_0 _ (gp_h))
  have lk165 := hts (.fieldLink RX9 165 (TX9 20).1 (TX9 20).2.1 (TX9 20).2.2.1) (gj_X9_item_0 _ (gp_1 (gp_1 (gp_1 gp_h))))
  have lk173 := hts (.fieldLink RX9 173 (TX9 22).1 (TX9 22).2.1 (TX9 22).2.2.1) (gj_X9_item_0 _ (gp_4 (gp_1 gp_h)))
  have hc40 : cnt 40 = 1 := hFx.at 40 1 (by decide)
  have hc56 : cnt 56 = 1 := hFx.at 56 1 (by decide)
  have hc57 : cnt 57 = 1 := hFx.at 57 1 (by decide)
  have hc58 : cnt 58 = 1 := hFx.at 58 1 (by decide)
  have hc59 : cnt 59 = 1 := hFx.at 59 1 (by decide)
  have hc66 : cnt 66 = 1 := hFx.at 66 1 (by decide)
  have hc67 : cnt 67 = 1 := hFx.at 67 1 (by decide)
  have hc68 : cnt 68 = 1 := hFx.at 68 1 (by decide)
  have hl : lv_has ls 7 [(0, .ref (ad 40 0)), (1, .int (jI x)), (2, .int (jI k)), (3, .int (jI i)), (4, .long (jL v))] := hl
  have fstypes : 0 ≤ X 40 0 2 ∧ X 40 0 2 ≤ 8 := hR 40 0 2
  have fsthings : 0 ≤ X 40 0 13 ∧ X 40 0 13 ≤ 30 := hR 40 0 13
  have fsmarks : 0 ≤ X 40 0 20 ∧ X 40 0 20 ≤ 4 := hR 40 0 20
  have fsnotes : 0 ≤ X 40 0 22 ∧ X 40 0 22 ≤ 80 := hR 40 0 22
  refine lv_aload_n hx hb dX9_item_0 rfl (lv_at hl 0 rfl) ?_
  refine lv_iconst (v := jI 0) hx hb dX9_item_1 rfl ?_
  refine x_puti (jz := 0) hx hb hf9 ⟨tyX9_ok, nmX9⟩ hw hS (by first | exact Int.le_refl 0 | omega) (by first | exact zlt hc40 | omega) sl_40_0 rfl lk145 rfl (tyX9_ok 0 (by decide)) rfl rfl dX9_item_2 (fun H locs hw hS => ?_)
  obtain ⟨X1, hX1⟩ : ∃ Xq, Xq = u3 X 40 0 0 0 := ⟨_, rfl⟩
  rw [← hX1] at hw
  have hRX1 : Rng X1 := by rw [hX1]; exact rng_set hR (show (-2147483648) ≤ 0 ∧ 0 ≤ 2147483647 by omega)
  have hVX1 : X1 40 0 0 = 0 := by rw [hX1]; exact u3_s _ _ _ _ _
  have hFX1 : Frm [4001, 6600, 6700, 6800, 4023, 5900] X X1 := by rw [hX1]; exact Frm.set Frm.rf (show 4001 ∈ [4001, 6600, 6700, 6800, 4023, 5900] by decide)
  refine lv_aload_n hx hb dX9_item_5 rfl (lv_at hl 0 rfl) ?_
  refine lv_iload_n hx hb dX9_item_6 rfl (lv_at hl 1 rfl) ?_
  refine lv_iload_n hx hb dX9_item_7 rfl (lv_at hl 2 rfl) ?_
  refine gos_i (run_V (As := [.int (jI x), .int (jI k)]) (rest := []) hx hb hml hown hts (c_X9_isField l D tc base ad cnt X1 Y ln hRX1 hFx x k (by omega) (by omega)) (cwV 2 hts gX9_item_X9_isField rfl rfl rfl (by first | exact hd_X9_isField | decide +kernel) ⟨Nat.le_of_ble_eq_true rfl, Nat.le_of_ble_eq_true rfl⟩) hK hw (by first | exact Int.le_refl 0 | omega) (by first | exact zlt hc40 | omega) sl_40_0 rfl rfl hl.1 rfl (Nat.le_of_ble_eq_true rfl) dX9_item_8 ⟨Nat.le_of_ble_eq_true rfl, Nat.le_of_ble_eq_true rfl⟩) hS (fun z2 u3 H locs p4 hw hS => ?_)
  obtain ⟨eu3, p4⟩ := p4
  subst eu3
  have e5 : X1 40 0 13 = X 40 0 13 := by rw [hX1, u3_j _ _ _ _ (by decide)]
  have e6 : ∀ j : Int, X1 55 0 j = X 55 0 j := fun j => by rw [hX1, u3_k _ _ _ _ (by decide)]
  have e7 : ∀ j : Int, X1 44 0 j = X 44 0 j := fun j => by rw [hX1, u3_k _ _ _ _ (by decide)]
  simp only [e5, e6, e7] at p4
  rcases p4 with ⟨ez2, p4⟩ | ⟨ez2, p4⟩
  · subst ez2
    refine x_if_neT (tgt := 16) hx hb (by omega) (by decide) dX9_item_11 (by decide) ?_
    refine lv_aload_n hx hb dX9_item_16 rfl (lv_at hl 0 rfl) ?_
    refine lv_iload_n hx hb dX9_item_17 rfl (lv_at hl 1 rfl) ?_
    refine lv_iload_n hx hb dX9_item_18 rfl (lv_at hl 2 rfl) ?_
    refine gos_i (run_V (As := [.int (jI x), .int (jI k)]) (rest := []) hx hb hml hown hts (c_X9_lane l D tc base ad cnt X1 Y ln hRX1 hFx x k (by omega) (by omega)) (cwV 2 hts gX9_item_X9_lane rfl rfl rfl (by first | exact hd_X9_lane | decide +kernel) ⟨Nat.le_of_ble_eq_true rfl, Nat.le_of_ble_eq_true rfl⟩) hK hw (by first | exact Int.le_refl 0 | omega) (by first | exact zlt hc40 | omega) sl_40_0 rfl rfl hl.1 rfl (Nat.le_of_ble_eq_true rfl) dX9_item_19 ⟨Nat.le_of_ble_eq_true rfl, Nat.le_of_ble_eq_true rfl⟩) hS (fun z8 u9 H locs p10 hw hS => ?_)
    obtain ⟨eu9, p10⟩ := p10
    subst eu9
    have e11 : ∀ j : Int, X1 55 0 j = X 55 0 j := fun j => by rw [hX1, u3_k _ _ _ _ (by decide)]
    have e12 : ∀ j : Int, X1 46 0 j = X 46 0 j := fun j => by rw [hX1, u3_k _ _ _ _ (by decide)]
    simp only [e11, e12] at p10
    refine lv_iconst (v := jI 3) hx hb dX9_item_22 rfl ?_
    refine x_icmp_ge (tgt := 29) hx hb (by omega) (by omega) dX9_item_23 (by decide) (fun c13 => ?_) (fun c13 => ?_)
    · refine lv_aload_n hx hb dX9_item_29 rfl (lv_at hl 0 rfl) ?_
      refine x_geto hx hb hf9 hw (by first | exact Int.le_refl 0 | omega) (by first | exact zlt hc40 | omega) sl_40_15 lk48 dX9_item_30 ?_
      refine lv_iconst (v := jI 5) hx hb dX9_item_33 rfl ?_
      refine lv_iload_n hx hb dX9_item_34 rfl (lv_at hl 1 rfl) ?_
      refine x_imul hx hb dX9_item_35 ?_
      refine lv_iload_n hx hb dX9_item_36 rfl (lv_at hl 2 rfl) ?_
      refine x_iadd hx hb dX9_item_37 ?_
      obtain ⟨hy1, hy2, hy3⟩ := hMI.1 x k (by omega) (by omega) (by omega) (by omega)
      refine x_lald hx hb hK.1 hw (by first | exact Int.le_refl 0 | omega) (by first | exact zlt hc56 | omega) ar_56 (len_E ar_56 (by decide)) (by omega) (by omega) (by omega) dX9_item_38 ?_
      have e14 : ∀ p9 q9 : Int, X1 56 p9 q9 = X 56 p9 q9 := fun p9 q9 => by rw [hX1, u3_k _ _ _ _ (by decide)]
      rw [e14 0 ((5 * x) + k)]
      have f15 : (-9223372036854775808) ≤ X 56 0 ((5 * x) + k) ∧ X 56 0 ((5 * x) + k) ≤ 9223372036854775807 := hR 56 0 ((5 * x) + k)
      refine x_l2i hx hb dX9_item_39 ?_
      refine lv_istore (lv' := [(6, .int (jI (X 56 0 ((5 * x) + k)))), (0, .ref (ad 40 0)), (1, .int (jI x)), (2, .int (jI k)), (3, .int (jI i)), (4, .long (jL v))]) hx hb dX9_item_40 hl (by decide) rfl (fun ls hl => ?_)
      refine lv_iload hx hb dX9_item_42 (lv_at hl 0 rfl) ?_
      refine x_if_ge (tgt := 50) hx hb (by omega) dX9_item_44 (by decide) (fun c16 => ?_) (fun c16 => ?_)
      · refine lv_iload_n hx hb dX9_item_50 rfl (lv_at hl 4 rfl) ?_
        refine x_if_lt (tgt := 65) hx hb (by omega) dX9_item_51 (by decide) (fun c17 => ?_) (fun c17 => ?_)
        · refine lv_bipush (v := jI (-12)) hx hb dX9_item_65 (by decide) ?_
          rw [hQ9]
          refine ret_i (mc := 0) (ms := 0) hx hb hr hlocks hw hS (by first | exact Nat.le_of_ble_eq_true rfl | omega) (by first | exact Nat.le_of_ble_eq_true rfl | omega) dX9_item_67 ?_
          have q19 : Frm [4001] X X1 := by rw [hX1]; exact Frm.set Frm.rf (show 4001 ∈ [4001] by decide)
          have hMq18 : MInv X1 := minv_frm hMI q19 (by decide)
          have q20 : Frm [4001] X X1 := by rw [hX1]; exact Frm.set Frm.rf (show 4001 ∈ [4001] by decide)
          exact ⟨X1, rfl, hRX1, hFX1, hMq18, by omega, (by (try delta Hid at *); exact Or.inr (Or.inr (Or.inr (Or.inl ⟨(by omega), by omega, (fun q => by omega), (fun q => by omega), by omega⟩)))), fun _ => q20, fun q => (by exfalso; omega)⟩
        · refine lv_iload_n hx hb dX9_item_54 rfl (lv_at hl 4 rfl) ?_
          refine lv_aload_n hx hb dX9_item_55 rfl (lv_at hl 1 rfl) ?_
          refine x_geto hx hb hf9 hw (by first | exact Int.le_refl 0 | omega) (by first | exact zlt hc40 | omega) sl_40_17 lk54 dX9_item_56 ?_
          refine lv_iload hx hb dX9_item_59 (lv_at hl 0 rfl) ?_
          refine x_iald hx hb hK.1 hw (by first | exact Int.le_refl 0 | omega) (by first | exact zlt hc58 | omega) ar_58 (len_E ar_58 (by decide)) (by omega) (by omega) (by omega) dX9_item_61 ?_
          have e21 : ∀ p9 q9 : Int, X1 58 p9 q9 = X 58 p9 q9 := fun p9 q9 => by rw [hX1, u3_k _ _ _ _ (by decide)]
          rw [e21 0 (X 56 0 ((5 * x) + k))]
          have f22 : 0 ≤ X 58 0 (X 56 0 ((5 * x) + k)) ∧ X 58 0 (X 56 0 ((5 * x) + k)) ≤ 12 := hR 58 0 (X 56 0 ((5 * x) + k))
          refine x_icmp_lt (tgt := 68) hx hb (by omega) (by omega) dX9_item_62 (by decide) (fun c23 => ?_) (fun c23 => ?_)
          · refine lv_aload_n hx hb dX9_item_68 rfl (lv_at hl 1 rfl) ?_
            refine gos_i (run_V (As := []) (rest := []) hx hb hml hown hts (c_X9_isFull l D tc base ad cnt X1 Y ln hRX1 hFx) (cwV 0 hts gX9_item_X9_isFull rfl rfl rfl (by first | exact hd_X9_isFull | decide +kernel) ⟨Nat.le_of_ble_eq_true rfl, Nat.le_of_ble_eq_true rfl⟩) hK hw (by first | exact Int.le_refl 0 | omega) (by first | exact zlt hc40 | omega) sl_40_0 rfl rfl hl.1 rfl (Nat.le_of_ble_eq_true rfl) dX9_item_69 ⟨Nat.le_of_ble_eq_true rfl, Nat.le_of_ble_eq_true rfl⟩) hS (fun z24 u25 H locs p26 hw hS => ?_)
            obtain ⟨eu25, p26⟩ := p26
            subst eu25
            have e27 : X1 40 0 20 = X 40 0 20 := by rw [hX1, u3_j _ _ _ _ (by decide)]
            have e28 : X1 40 0 22 = X 40 0 22 := by rw [hX1, u3_j _ _ _ _ (by decide)]
            simp only [e27, e28] at p26
            rcases p26 with ⟨ez24, p26⟩ | ⟨ez24, p26⟩
            · subst ez24
              refine x_if_eqF (tgt := 78) hx hb (by omega) (by decide) dX9_item_72 (by decide) ?_
              refine lv_bipush (v := jI (-4)) hx hb dX9_item_75 (by decide) ?_
              rw [hQ9]
              refine ret_i (mc := 0) (ms := 0) hx hb hr hlocks hw hS (by first | exact Nat.le_of_ble_eq_true rfl | omega) (by first | exact Nat.le_of_ble_eq_true rfl | omega) dX9_item_77 ?_
              have q30 : Frm [4001] X X1 := by rw [hX1]; exact Frm.set Frm.rf (show 4001 ∈ [4001] by decide)
              have hMq29 : MInv X1 := minv_frm hMI q30 (by decide)
              have q31 : Frm [4001] X X1 := by rw [hX1]; exact Frm.set Frm.rf (show 4001 ∈ [4001] by decide)
              exact ⟨X1, rfl, hRX1, hFX1, hMq29, by omega, (by (try delta Hid at *); exact Or.inr (Or.inr (Or.inr (Or.inr (Or.inl ⟨(by omega), by omega, (fun q => by omega), (by omega), (by omega), by omega⟩))))), fun _ => q31, fun q => (by exfalso; omega)⟩
            · subst ez24
              refine x_if_eqT (tgt := 78) hx hb (by omega) (by decide) dX9_item_72 (by decide) ?_
              refine lv_aload_n hx hb dX9_item_78 rfl (lv_at hl 1 rfl) ?_
              refine x_geti (jz := 20) hx hb hf9 hw (by first | exact Int.le_refl 0 | omega) (by first | exact zlt hc40 | omega) sl_40_20 rfl lk165 dX9_item_79 ?_
              have e32 : X1 40 0 20 = X 40 0 20 := by rw [hX1, u3_j _ _ _ _ (by decide)]
              rw [e32]
              have f33 : 0 ≤ X 40 0 20 ∧ X 40 0 20 ≤ 4 := hR 40 0 20
              refine x_if_le (tgt := 137) hx hb (by omega) dX9_item_82 (by decide) (fun c34 => ?_) (fun c34 => ?_)
              · refine lv_aload_n hx hb dX9_item_137 rfl (lv_at hl 1 rfl) ?_
                refine x_geto hx hb hf9 hw (by first | exact Int.le_refl 0 | omega) (by first | exact zlt hc40 | omega) sl_40_18 lk57 dX9_item_138 ?_
                refine lv_bipush (v := jI 12) hx hb dX9_item_141 (by decide) ?_
                refine lv_iload hx hb dX9_item_143 (lv_at hl 0 rfl) ?_
                refine x_imul hx hb dX9_item_145 ?_
                refine lv_iload_n hx hb dX9_item_146 rfl (lv_at hl 4 rfl) ?_
                refine x_iadd hx hb dX9_item_147 ?_
                refine lv_aload_n hx hb dX9_item_148 rfl (lv_at hl 1 rfl) ?_
                refine x_geto hx hb hf9 hw (by first | exact Int.le_refl 0 | omega) (by first | exact zlt hc40 | omega) sl_40_16 lk51 dX9_item_149 ?_
                refine lv_iload hx hb dX9_item_152 (lv_at hl 0 rfl) ?_
                refine x_iald hx hb hK.1 hw (by first | exact Int.le_refl 0 | omega) (by first | exact zlt hc57 | omega) ar_57 (len_E ar_57 (by decide)) (by omega) (by omega) (by omega) dX9_item_154 ?_
                have e35 : ∀ p9 q9 : Int, X1 57 p9 q9 = X 57 p9 q9 := fun p9 q9 => by rw [hX1, u3_k _ _ _ _ (by decide)]
                rw [e35 0 (X 56 0 ((5 * x) + k))]
                have f36 : 0 ≤ X 57 0 (X 56 0 ((5 * x) + k)) ∧ X 57 0 (X 56 0 ((5 * x) + k)) ≤ 5 := hR 57 0 (X 56 0 ((5 * x) + k))
                refine lv_lload hx hb dX9_item_155 (lv_at hl 5 rfl) ?_
                refine gos_l (run_S (As := [.int (jI (X 57 0 (X 56 0 ((5 * x) + k)))), .long (jL v)]) (rest := [.int (jI ((12 * (X 56 0 ((5 * x) + k))) + i)), .ref (ad 59 0)]) hx hb hml hown hts (c_X9_cut l D tc base ad cnt X1 Y ln (X 57 0 (X 56 0 ((5 * x) + k))) v (by omega) (by omega)) (cwS 2 hts gX9_item_X9_cut rfl rfl rfl (by first | exact hd_X9_cut | decide +kernel) ⟨Nat.le_of_ble_eq_true rfl, Nat.le_of_ble_eq_true rfl⟩) hK hw rfl hl.1 rfl (Nat.le_of_ble_eq_true rfl) dX9_item_157 ⟨Nat.le_of_ble_eq_true rfl, Nat.le_of_ble_eq_true rfl⟩) hS (fun z37 u38 H locs p39 hw hS => ?_)
                obtain ⟨eu38, p39⟩ := p39
                subst eu38
                refine x_last hx hb hK.1 hw hS (by first | exact Int.le_refl 0 | omega) (by first | exact zlt hc59 | omega) ar_59 (len_E ar_59 (by decide)) (by omega) (by omega) (by omega) dX9_item_160 (fun H locs hw hS => ?_)
                obtain ⟨X40, hX40⟩ : ∃ Xq, Xq = u3 X1 59 0 ((12 * (X 56 0 ((5 * x) + k))) + i) z37 := ⟨_, rfl⟩
                rw [← hX40] at hw
                have hRX40 : Rng X40 := by rw [hX40]; exact rng_set hRX1 (show (-9223372036854775808) ≤ z37 ∧ z37 ≤ 9223372036854775807 by omega)
                have hVX40 : X40 59 0 ((12 * (X 56 0 ((5 * x) + k))) + i) = z37 := by rw [hX40]; exact u3_s _ _ _ _ _
                have hFX40 : Frm [4001, 6600, 6700, 6800, 4023, 5900] X X40 := by rw [hX40]; exact Frm.set hFX1 (show 5900 ∈ [4001, 6600, 6700, 6800, 4023, 5900] by decide)
                refine lv_iconst (v := jI 1) hx hb dX9_item_161 rfl ?_
                rw [hQ9]
                refine ret_i (mc := 0) (ms := 0) hx hb hr hlocks hw hS (by first | exact Nat.le_of_ble_eq_true rfl | omega) (by first | exact Nat.le_of_ble_eq_true rfl | omega) dX9_item_162 ?_
                have q42 : Frm [4001, 5900] X X1 := by rw [hX1]; exact Frm.set Frm.rf (show 4001 ∈ [4001, 5900] by decide)
                have q43 : Frm [4001, 5900] X X40 := by rw [hX40]; exact Frm.set q42 (show 5900 ∈ [4001, 5900] by decide)
                have hMq41 : MInv X40 := minv_frm hMI q43 (by decide)
                exact ⟨X40, rfl, hRX40, hFX40, hMq41, by omega, (by (try delta Hid at *); exact Or.inr (Or.inr (Or.inr (Or.inr (Or.inr (⟨(by omega), by omega, (fun q => by omega), (by omega), (by omega), by omega⟩)))))), fun q => (by exfalso; omega), fun _ => ⟨Or.inl ⟨by omega, (by rw [hX40, u3_k _ _ _ _ (by decide), hX1, u3_j _ _ _ _ (by decide)]), fun y => ⟨(by rw [hX40, u3_k _ _ _ _ (by decide), hX1, u3_k _ _ _ _ (by decide)]), (by rw [hX40, u3_k _ _ _ _ (by decide), hX1, u3_k _ _ _ _ (by decide)]), (by rw [hX40, u3_k _ _ _ _ (by decide), hX1, u3_k _ _ _ _ (by decide)]), (by rw [hX40, u3_k _ _ _ _ (by decide), hX1, u3_k _ _ _ _ (by decide)]), (by rw [hX40, u3_k _ _ _ _ (by decide), hX1, u3_k _ _ _ _ (by decide)])⟩⟩, (by rw [hVX40]; omega), fun p hp9 => (by rw [hX40, u3_j _ _ _ _ hp9, hX1, u3_k _ _ _ _ (by decide)])⟩⟩
              · refine lv_aload_n hx hb dX9_item_85 rfl (lv_at hl 1 rfl) ?_
                refine x_geto hx hb hf9 hw (by first | exact Int.le_refl 0 | omega) (by first | exact zlt hc40 | omega) sl_40_25 lk72 dX9_item_86 ?_
                refine lv_aload_n hx hb dX9_item_89 rfl (lv_at hl 1 rfl) ?_
                refine x_geti (jz := 22) hx hb hf9 hw (by first | exact Int.le_refl 0 | omega) (by first | exact zlt hc40 | omega) sl_40_22 rfl lk173 dX9_item_90 ?_
                have e44 : X1 40 0 22 = X 40 0 22 := by rw [hX1, u3_j _ _ _ _ (by decide)]
                rw [e44]
                have f45 : 0 ≤ X 40 0 22 ∧ X 40 0 22 ≤ 80 := hR 40 0 22
                refine lv_iload hx hb dX9_item_93 (lv_at hl 0 rfl) ?_
                refine x_iast hx hb hK.1 hw hS (by first | exact Int.le_refl 0 | omega) (by first | exact zlt hc66 | omega) ar_66 (len_E ar_66 (by decide)) (by omega) (by omega) (by omega) dX9_item_95 (fun H locs hw hS => ?_)
                obtain ⟨X46, hX46⟩ : ∃ Xq, Xq = u3 X1 66 0 (X 40 0 22) (X 56 0 ((5 * x) + k)) := ⟨_, rfl⟩
                rw [← hX46] at hw
                have hRX46 : Rng X46 := by rw [hX46]; exact rng_set hRX1 (show (-1) ≤ (X 56 0 ((5 * x) + k)) ∧ (X 56 0 ((5 * x) + k)) ≤ 399 by omega)
                have hVX46 : X46 66 0 (X 40 0 22) = (X 56 0 ((5 * x) + k)) := by rw [hX46]; exact u3_s _ _ _ _ _
                have hFX46 : Frm [4001, 6600, 6700, 6800, 4023, 5900] X X46 := by rw [hX46]; exact Frm.set hFX1 (show 6600 ∈ [4001, 6600, 6700, 6800, 4023, 5900] by decide)
                refine lv_aload_n hx hb dX9_item_96 rfl (lv_at hl 1 rfl) ?_
                refine x_geto hx hb hf9 hw (by first | exact Int.le_refl 0 | omega) (by first | exact zlt hc40 | omega) sl_40_26 lk75 dX9_item_97 ?_
                refine lv_aload_n hx hb dX9_item_100 rfl (lv_at hl 1 rfl) ?_
                refine x_geti (jz := 22) hx hb hf9 hw (by first | exact Int.le_refl 0 | omega) (by first | exact zlt hc40 | omega) sl_40_22 rfl lk173 dX9_item_101 ?_
                have e47 : X46 40 0 22 = X 40 0 22 := by rw [hX46, u3_k _ _ _ _ (by decide), hX1, u3_j _ _ _ _ (by decide)]
                rw [e47]
                have f48 : 0 ≤ X 40 0 22 ∧ X 40 0 22 ≤ 80 := hR 40 0 22
                refine lv_iload_n hx hb dX9_item_104 rfl (lv_at hl 4 rfl) ?_
                refine x_iast hx hb hK.1 hw hS (by first | exact Int.le_refl 0 | omega) (by first | exact zlt hc67 | omega) ar_67 (len_E ar_67 (by decide)) (by omega) (by omega) (by omega) dX9_item_105 (fun H locs hw hS => ?_)
                obtain ⟨X49, hX49⟩ : ∃ Xq, Xq = u3 X46 67 0 (X 40 0 22) i := ⟨_, rfl⟩
                rw [← hX49] at hw
                have hRX49 : Rng X49 := by rw [hX49]; exact rng_set hRX46 (show (-1) ≤ i ∧ i ≤ 11 by omega)
                have hVX49 : X49 67 0 (X 40 0 22) = i := by rw [hX49]; exact u3_s _ _ _ _ _
                have hFX49 : Frm [4001, 6600, 6700, 6800, 4023, 5900] X X49 := by rw [hX49]; exact Frm.set hFX46 (show 6700 ∈ [4001, 6600, 6700, 6800, 4023, 5900] by decide)
                refine lv_aload_n hx hb dX9_item_106 rfl (lv_at hl 1 rfl) ?_
                refine x_geto hx hb hf9 hw (by first | exact Int.le_refl 0 | omega) (by first | exact zlt hc40 | omega) sl_40_27 lk78 dX9_item_107 ?_
                refine lv_aload_n hx hb dX9_item_110 rfl (lv_at hl 1 rfl) ?_
                refine x_geti (jz := 22) hx hb hf9 hw (by first | exact Int.le_refl 0 | omega) (by first | exact zlt hc40 | omega) sl_40_22 rfl lk173 dX9_item_111 ?_
                have e50 : X49 40 0 22 = X 40 0 22 := by rw [hX49, u3_k _ _ _ _ (by decide), hX46, u3_k _ _ _ _ (by decide), hX1, u3_j _ _ _ _ (by decide)]
                rw [e50]
                have f51 : 0 ≤ X 40 0 22 ∧ X 40 0 22 ≤ 80 := hR 40 0 22
                refine lv_aload_n hx hb dX9_item_114 rfl (lv_at hl 1 rfl) ?_
                refine x_geto hx hb hf9 hw (by first | exact Int.le_refl 0 | omega) (by first | exact zlt hc40 | omega) sl_40_18 lk57 dX9_item_115 ?_
                refine lv_bipush (v := jI 12) hx hb dX9_item_118 (by decide) ?_
                refine lv_iload hx hb dX9_item_120 (lv_at hl 0 rfl) ?_
                refine x_imul hx hb dX9_item_122 ?_
                refine lv_iload_n hx hb dX9_item_123 rfl (lv_at hl 4 rfl) ?_
                refine x_iadd hx hb dX9_item_124 ?_
                refine x_lald hx hb hK.1 hw (by first | exact Int.le_refl 0 | omega) (by first | exact zlt hc59 | omega) ar_59 (len_E ar_59 (by decide)) (by omega) (by omega) (by omega) dX9_item_125 ?_
                have e52 : ∀ p9 q9 : Int, X49 59 p9 q9 = X 59 p9 q9 := fun p9 q9 => by rw [hX49, u3_k _ _ _ _ (by decide), hX46, u3_k _ _ _ _ (by decide), hX1, u3_k _ _ _ _ (by decide)]
                rw [e52 0 ((12 * (X 56 0 ((5 * x) + k))) + i)]
                have f53 : (-9223372036854775808) ≤ X 59 0 ((12 * (X 56 0 ((5 * x) + k))) + i) ∧ X 59 0 ((12 * (X 56 0 ((5 * x) + k))) + i) ≤ 9223372036854775807 := hR 59 0 ((12 * (X 56 0 ((5 * x) + k))) + i)
                refine x_last hx hb hK.1 hw hS (by first | exact Int.le_refl 0 | omega) (by first | exact zlt hc68 | omega) ar_68 (len_E ar_68 (by decide)) (by omega) (by omega) (by omega) dX9_item_126 (fun H locs hw hS => ?_)
                obtain ⟨X54, hX54⟩ : ∃ Xq, Xq = u3 X49 68 0 (X 40 0 22) (X 59 0 ((12 * (X 56 0 ((5 * x) + k))) + i)) := ⟨_, rfl⟩
                rw [← hX54] at hw
                have hRX54 : Rng X54 := by rw [hX54]; exact rng_set hRX49 (show (-9223372036854775808) ≤ (X 59 0 ((12 * (X 56 0 ((5 * x) + k))) + i)) ∧ (X 59 0 ((12 * (X 56 0 ((5 * x) + k))) + i)) ≤ 9223372036854775807 by omega)
                have hVX54 : X54 68 0 (X 40 0 22) = (X 59 0 ((12 * (X 56 0 ((5 * x) + k))) + i)) := by rw [hX54]; exact u3_s _ _ _ _ _
                have hFX54 : Frm [4001, 6600, 6700, 6800, 4023, 5900] X X54 := by rw [hX54]; exact Frm.set hFX49 (show 6800 ∈ [4001, 6600, 6700, 6800, 4023, 5900] by decide)
                refine lv_aload_n hx hb dX9_item_127 rfl (lv_at hl 1 rfl) ?_
                refine lv_dup hx hb dX9_item_128 rfl ?_
                refine x_geti (jz := 22) hx hb hf9 hw (by first | exact Int.le_refl 0 | omega) (by first | exact zlt hc40 | omega) sl_40_22 rfl lk173 dX9_item_129 ?_
                have e55 : X54 40 0 22 = X 40 0 22 := by rw [hX54, u3_k _ _ _ _ (by decide), hX49, u3_k _ _ _ _ (by decide), hX46, u3_k _ _ _ _ (by decide), hX1, u3_j _ _ _ _ (by decide)]
                rw [e55]
                have f56 : 0 ≤ X 40 0 22 ∧ X 40 0 22 ≤ 80 := hR 40 0 22
                refine lv_iconst (v := jI 1) hx hb dX9_item_132 rfl ?_
                refine x_iadd hx hb dX9_item_133 ?_
                refine x_puti (jz := 22) hx hb hf9 ⟨tyX9_ok, nmX9⟩ hw hS (by first | exact Int.le_refl 0 | omega) (by first | exact zlt hc40 | omega) sl_40_22 rfl lk173 rfl (tyX9_ok 22 (by decide)) rfl rfl dX9_item_134 (fun H locs hw hS => ?_)
                obtain ⟨X57, hX57⟩ : ∃ Xq, Xq = u3 X54 40 0 22 ((X 40 0 22) + 1) := ⟨_, rfl⟩
                rw [← hX57] at hw
                have hRX57 : Rng X57 := by rw [hX57]; exact rng_set hRX54 (show 0 ≤ ((X 40 0 22) + 1) ∧ ((X 40 0 22) + 1) ≤ 80 by omega)
                have hVX57 : X57 40 0 22 = ((X 40 0 22) + 1) := by rw [hX57]; exact u3_s _ _ _ _ _
                have hFX57 : Frm [4001, 6600, 6700, 6800, 4023, 5900] X X57 := by rw [hX57]; exact Frm.set hFX54 (show 4023 ∈ [4001, 6600, 6700, 6800, 4023, 5900] by decide)
                refine lv_aload_n hx hb dX9_item_137 rfl (lv_at hl 1 rfl) ?_
                refine x_geto hx hb hf9 hw (by first | exact Int.le_refl 0 | omega) (by first | exact zlt hc40 | omega) sl_40_18 lk57 dX9_item_138 ?_
                refine lv_bipush (v := jI 12) hx hb dX9_item_141 (by decide) ?_
                refine lv_iload hx hb dX9_item_143 (lv_at hl 0 rfl) ?_
                refine x_imul hx hb dX9_item_145 ?_
                refine lv_iload_n hx hb dX9_item_146 rfl (lv_at hl 4 rfl) ?_
                refine x_iadd hx hb dX9_item_147 ?_
                refine lv_aload_n hx hb dX9_item_148 rfl (lv_at hl 1 rfl) ?_
                refine x_geto hx hb hf9 hw (by first | exact Int.le_refl 0 | omega) (by first | exact zlt hc40 | omega) sl_40_16 lk51 dX9_item_149 ?_
                refine lv_iload hx hb dX9_item_152 (lv_at hl 0 rfl) ?_
                refine x_iald hx hb hK.1 hw (by first | exact Int.le_refl 0 | omega) (by first | exact zlt hc57 | omega) ar_57 (len_E ar_57 (by decide)) (by omega) (by omega) (by omega) dX9_item_154 ?_
                have e58 : ∀ p9 q9 : Int, X57 57 p9 q9 = X 57 p9 q9 := fun p9 q9 => by rw [hX57, u3_k _ _ _ _ (by decide), hX54, u3_k _ _ _ _ (by decide), hX49, u3_k _ _ _ _ (by decide), hX46, u3_k _ _ _ _ (by decide), hX1, u3_k _ _ _ _ (by decide)]
                rw [e58 0 (X 56 0 ((5 * x) + k))]
                have f59 : 0 ≤ X 57 0 (X 56 0 ((5 * x) + k)) ∧ X 57 0 (X 56 0 ((5 * x) + k)) ≤ 5 := hR 57 0 (X 56 0 ((5 * x) + k))
                refine lv_lload hx hb dX9_item_155 (lv_at hl 5 rfl) ?_
                refine gos_l (run_S (As := [.int (jI (X 57 0 (X 56 0 ((5 * x) + k)))), .long (jL v)]) (rest := [.int (jI ((12 * (X 56 0 ((5 * x) + k))) + i)), .ref (ad 59 0)]) hx hb hml hown hts (c_X9_cut l D tc base ad cnt X57 Y ln (X 57 0 (X 56 0 ((5 * x) + k))) v (by omega) (by omega)) (cwS 2 hts gX9_item_X9_cut rfl rfl rfl (by first | exact hd_X9_cut | decide +kernel) ⟨Nat.le_of_ble_eq_true rfl, Nat.le_of_ble_eq_true rfl⟩) hK hw rfl hl.1 rfl (Nat.le_of_ble_eq_true rfl) dX9_item_157 ⟨Nat.le_of_ble_eq_true rfl, Nat.le_of_ble_eq_true rfl⟩) hS (fun z60 u61 H locs p62 hw hS => ?_)
                obtain ⟨eu61, p62⟩ := p62
                subst eu61
                refine x_last hx hb hK.1 hw hS (by first | exact Int.le_refl 0 | omega) (by first | exact zlt hc59 | omega) ar_59 (len_E ar_59 (by decide)) (by omega) (by omega) (by omega) dX9_item_160 (fun H locs hw hS => ?_)
                obtain ⟨X63, hX63⟩ : ∃ Xq, Xq = u3 X57 59 0 ((12 * (X 56 0 ((5 * x) + k))) + i) z60 := ⟨_, rfl⟩
                rw [← hX63] at hw
                have hRX63 : Rng X63 := by rw [hX63]; exact rng_set hRX57 (show (-9223372036854775808) ≤ z60 ∧ z60 ≤ 9223372036854775807 by omega)
                have hVX63 : X63 59 0 ((12 * (X 56 0 ((5 * x) + k))) + i) = z60 := by rw [hX63]; exact u3_s _ _ _ _ _
                have hFX63 : Frm [4001, 6600, 6700, 6800, 4023, 5900] X X63 := by rw [hX63]; exact Frm.set hFX57 (show 5900 ∈ [4001, 6600, 6700, 6800, 4023, 5900] by decide)
                refine lv_iconst (v := jI 1) hx hb dX9_item_161 rfl ?_
                rw [hQ9]
                refine ret_i (mc := 0) (ms := 0) hx hb hr hlocks hw hS (by first | exact Nat.le_of_ble_eq_true rfl | omega) (by first | exact Nat.le_of_ble_eq_true rfl | omega) dX9_item_162 ?_
                have q64 : Frm [4001, 6400, 6500, 6600, 6700, 6800, 4023, 5900] X X1 := by rw [hX1]; exact Frm.set Frm.rf (show 4001 ∈ [4001, 6400, 6500, 6600, 6700, 6800, 4023, 5900] by decide)
                have q65 : Frm [4001, 6400, 6500, 6600, 6700, 6800, 4023, 5900] X X46 := by rw [hX46]; exact Frm.set q64 (show 6600 ∈ [4001, 6400, 6500, 6600, 6700, 6800, 4023, 5900] by decide)
                have q66 : Frm [4001, 6400, 6500, 6600, 6700, 6800, 4023, 5900] X X49 := by rw [hX49]; exact Frm.set q65 (show 6700 ∈ [4001, 6400, 6500, 6600, 6700, 6800, 4023, 5900] by decide)
                have q67 : Frm [4001, 6400, 6500, 6600, 6700, 6800, 4023, 5900] X X54 := by rw [hX54]; exact Frm.set q66 (show 6800 ∈ [4001, 6400, 6500, 6600, 6700, 6800, 4023, 5900] by decide)
                have q68 : Frm [4001, 6400, 6500, 6600, 6700, 6800, 4023, 5900] X X57 := by rw [hX57]; exact Frm.set q67 (show 4023 ∈ [4001, 6400, 6500, 6600, 6700, 6800, 4023, 5900] by decide)
                have q69 : Frm [4001, 6400, 6500, 6600, 6700, 6800, 4023, 5900] X X63 := by rw [hX63]; exact Frm.set q68 (show 5900 ∈ [4001, 6400, 6500, 6600, 6700, 6800, 4023, 5900] by decide)
                exact ⟨X63, rfl, hRX63, hFX63, minv_note (th := 0) (fd := 0) (rw := ((X 56 0 ((5 * x) + k)))) (it := i) (ws := 0) hMI (by omega) q69 (by rw [hX63, u3_k _ _ _ _ (by decide)]; exact hVX57) (fun j hj => ⟨(by rw [hX63, u3_k _ _ _ _ (by decide), hX57, u3_k _ _ _ _ (by decide), hX54, u3_k _ _ _ _ (by decide), hX49, u3_k _ _ _ _ (by decide), hX46, u3_k _ _ _ _ (by decide), hX1, u3_k _ _ _ _ (by decide)]), (by rw [hX63, u3_k _ _ _ _ (by decide), hX57, u3_k _ _ _ _ (by decide), hX54, u3_k _ _ _ _ (by decide), hX49, u3_k _ _ _ _ (by decide), hX46, u3_k _ _ _ _ (by decide), hX1, u3_k _ _ _ _ (by decide)]), (by rw [hX63, u3_k _ _ _ _ (by decide), hX57, u3_k _ _ _ _ (by decide), hX54, u3_k _ _ _ _ (by decide), hX49, u3_k _ _ _ _ (by decide), hX46, u3_j _ _ _ _ (by omega), hX1, u3_k _ _ _ _ (by decide)]), (by rw [hX63, u3_k _ _ _ _ (by decide), hX57, u3_k _ _ _ _ (by decide), hX54, u3_k _ _ _ _ (by decide), hX49, u3_j _ _ _ _ (by omega), hX46, u3_k _ _ _ _ (by decide), hX1, u3_k _ _ _ _ (by decide)]), (by rw [hX63, u3_k _ _ _ _ (by decide), hX57, u3_k _ _ _ _ (by decide), hX54, u3_j _ _ _ _ (by omega), hX49, u3_k _ _ _ _ (by decide), hX46, u3_k _ _ _ _ (by decide), hX1, u3_k _ _ _ _ (by decide)])⟩) (by rw [hX63, u3_k _ _ _ _ (by decide), hX57, u3_k _ _ _ _ (by decide), hX54, u3_k _ _ _ _ (by decide)]; exact hVX49) ⟨fun q => by omega, fun _ => ⟨(by rw [hX63, u3_k _ _ _ _ (by decide), hX57, u3_k _ _ _ _ (by decide), hX54, u3_k _ _ _ _ (by decide), hX49, u3_k _ _ _ _ (by decide)]; exact hVX46), by omega⟩⟩, by omega, (by (try delta Hid at *); exact Or.inr (Or.inr (Or.inr (Or.inr (Or.inr (⟨(by omega), by omega, (fun q => by omega), (by omega), (by omega), by omega⟩)))))), fun q => (by exfalso; omega), fun _ => ⟨Or.inr ⟨by omega, (by rw [hX63, u3_k _ _ _ _ (by decide)]; exact hVX57), ⟨(by rw [hX63, u3_k _ _ _ _ (by decide), hX57, u3_k _ _ _ _ (by decide), hX54, u3_k _ _ _ _ (by decide), hX49, u3_k _ _ _ _ (by decide), hX46, u3_k _ _ _ _ (by decide), hX1, u3_k _ _ _ _ (by decide)]), (by rw [hX63, u3_k _ _ _ _ (by decide), hX57, u3_k _ _ _ _ (by decide), hX54, u3_k _ _ _ _ (by decide), hX49, u3_k _ _ _ _ (by decide), hX46, u3_k _ _ _ _ (by decide), hX1, u3_k _ _ _ _ (by decide)]), (by rw [hX63, u3_k _ _ _ _ (by decide), hX57, u3_k _ _ _ _ (by decide), hX54, u3_k _ _ _ _ (by decide), hX49, u3_k _ _ _ _ (by decide)]; exact hVX46), (by rw [hX63, u3_k _ _ _ _ (by decide), hX57, u3_k _ _ _ _ (by decide), hX54, u3_k _ _ _ _ (by decide)]; exact hVX49), (by rw [hX63, u3_k _ _ _ _ (by decide), hX57, u3_k _ _ _ _ (by decide)]; exact hVX54)⟩, fun y hy => ⟨(by rw [hX63, u3_k _ _ _ _ (by decide), hX57, u3_k _ _ _ _ (by decide), hX54, u3_k _ _ _ _ (by decide), hX49, u3_k _ _ _ _ (by decide), hX46, u3_k _ _ _ _ (by decide), hX1, u3_k _ _ _ _ (by decide)]), (by rw [hX63, u3_k _ _ _ _ (by decide), hX57, u3_k _ _ _ _ (by decide), hX54, u3_k _ _ _ _ (by decide), hX49, u3_k _ _ _ _ (by decide), hX46, u3_k _ _ _ _ (by decide), hX1, u3_k _ _ _ _ (by decide)]), (by rw [hX63, u3_k _ _ _ _ (by decide), hX57, u3_k _ _ _ _ (by decide), hX54, u3_k _ _ _ _ (by decide), hX49, u3_k _ _ _ _ (by decide), hX46, u3_j _ _ _ _ hy, hX1, u3_k _ _ _ _ (by decide)]), (by rw [hX63, u3_k _ _ _ _ (by decide), hX57, u3_k _ _ _ _ (by decide), hX54, u3_k _ _ _ _ (by decide), hX49, u3_j _ _ _ _ hy, hX46, u3_k _ _ _ _ (by decide), hX1, u3_k _ _ _ _ (by decide)]), (by rw [hX63, u3_k _ _ _ _ (by decide), hX57, u3_k _ _ _ _ (by decide), hX54, u3_j _ _ _ _ hy, hX49, u3_k _ _ _ _ (by decide), hX46, u3_k _ _ _ _ (by decide), hX1, u3_k _ _ _ _ (by decide)])⟩⟩, (by rw [hVX63]; omega), fun p hp9 => (by rw [hX63, u3_j _ _ _ _ hp9, hX57, u3_k _ _ _ _ (by decide), hX54, u3_k _ _ _ _ (by decide), hX49, u3_k _ _ _ _ (by decide), hX46, u3_k _ _ _ _ (by decide), hX1, u3_k _ _ _ _ (by decide)])⟩⟩
          · refine lv_bipush (v := jI (-12)) hx hb dX9_item_65 (by decide) ?_
            rw [hQ9]
            refine ret_i (mc := 0) (ms := 0) hx hb hr hlocks hw hS (by first | exact Nat.le_of_ble_eq_true rfl | omega) (by first | exact Nat.le_of_ble_eq_true rfl | omega) dX9_item_67 ?_
            have q71 : Frm [4001] X X1 := by rw [hX1]; exact Frm.set Frm.rf (show 4001 ∈ [4001] by decide)
            have hMq70 : MInv X1 := minv_frm hMI q71 (by decide)
            have q72 : Frm [4001] X X1 := by rw [hX1]; exact Frm.set Frm.rf (show 4001 ∈ [4001] by decide)
            exact ⟨X1, rfl, hRX1, hFX1, hMq70, by omega, (by (try delta Hid at *); exact Or.inr (Or.inr (Or.inr (Or.inl ⟨(by omega), by omega, (fun q => by omega), (fun q => by omega), by omega⟩)))), fun _ => q72, fun q => (by exfalso; omega)⟩
      · refine lv_bipush (v := jI (-11)) hx hb dX9_item_47 (by decide) ?_
        rw [hQ9]
        refine ret_i (mc := 0) (ms := 0) hx hb hr hlocks hw hS (by first | exact Nat.le_of_ble_eq_true rfl | omega) (by first | exact Nat.le_of_ble_eq_true rfl | omega) dX9_item_49 ?_
        have q74 : Frm [4001] X X1 := by rw [hX1]; exact Frm.set Frm.rf (show 4001 ∈ [4001] by decide)
        have hMq73 : MInv X1 := minv_frm hMI q74 (by decide)
        have q75 : Frm [4001] X X1 := by rw [hX1]; exact Frm.set Frm.rf (show 4001 ∈ [4001] by decide)
        exact ⟨X1, rfl, hRX1, hFX1, hMq73, by omega, (by (try delta Hid at *); exact Or.inr (Or.inr (Or.inl ⟨(by omega), by omega, (by omega), by omega⟩))), fun _ => q75, fun q => (by exfalso; omega)⟩
    · refine lv_bipush (v := jI (-14)) hx hb dX9_item_26 (by decide) ?_
      rw [hQ9]
      refine ret_i (mc := 0) (ms := 0) hx hb hr hlocks hw hS (by first | exact Nat.le_of_ble_eq_true rfl | omega) (by first | exact Nat.le_of_ble_eq_true rfl | omega) dX9_item_28 ?_
      have q77 : Frm [4001] X X1 := by rw [hX1]; exact Frm.set Frm.rf (show 4001 ∈ [4001] by decide)
      have hMq76 : MInv X1 := minv_frm hMI q77 (by decide)
      have q78 : Frm [4001] X X1 := by rw [hX1]; exact Frm.set Frm.rf (show 4001 ∈ [4001] by decide)
      exact ⟨X1, rfl, hRX1, hFX1, hMq76, by omega, (by (try delta Hid at *); exact Or.inr (Or.inl ⟨(by omega), by omega, by omega⟩)), fun _ => q78, fun q => (by exfalso; omega)⟩
  · subst ez2
    refine x_if_neF (tgt := 16) hx hb (by omega) (by decide) dX9_item_11 (by decide) ?_
    refine lv_iconst (v := jI (-1)) hx hb dX9_item_14 rfl ?_
    rw [hQ9]
    refine ret_i (mc := 0) (ms := 0) hx hb hr hlocks hw hS (by first | exact Nat.le_of_ble_eq_true rfl | omega) (by first | exact Nat.le_of_ble_eq_true rfl | omega) dX9_item_15 ?_
    have q80 : Frm [4001] X X1 := by rw [hX1]; exact Frm.set Frm.rf (show 4001 ∈ [4001] by decide)
    have hMq79 : MInv X1 := minv_frm hMI q80 (by decide)
    have q81 : Frm [4001] X X1 := by rw [hX1]; exact Frm.set Frm.rf (show 4001 ∈ [4001] by decide)
    exact ⟨X1, rfl, hRX1, hFX1, hMq79, by omega, (by (try delta Hid at *); exact Or.inl ⟨(fun q => by omega), by omega⟩), fun _ => q81, fun q => (by exfalso; omega)⟩
