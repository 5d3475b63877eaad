set_option maxHeartbeats 4000000 in
set_option maxRecDepth 100000 in
theorem c_X9_share (l : Launch) (D : va_G) (tc : Nat → ClassId) (base : Nat) (ad : Nat → Int → Nat) (cnt : Nat → Int) (X : Nat → Int → Int → Int) (Y : Nat → Int → Int → Option Int) (ln : Int → Int) (hR : Rng X) (hFx : Fx cnt) (hMI : MInv X) (x k y j : Int) (hx : -2147483648 ≤ x ∧ x ≤ 2147483647) (hk : -2147483648 ≤ k ∧ k ≤ 2147483647) (hy : -2147483648 ≤ y ∧ y ≤ 2147483647) (hj : -2147483648 ≤ j ∧ j ≤ 2147483647) : KI l D tc base yX9_share wsX9_share ({ frames := 2, cells := 0, slots := 0, locals := 46 } : Room) [.ref (ad 40 0), .int (jI x), .int (jI k), .int (jI y), .int (jI j)] (ad, cnt, X, Y, ln) 0 0 (fun z u => ∃ X1 : Nat → Int → Int → Int, u = (ad, cnt, X1, Y, ln) ∧ Rng X1 ∧ Frm [4001, 6400, 6500, 6700, 6800, 6600, 4023, 5600] X X1 ∧ MInv X1 ∧ (-2147483648 ≤ z ∧ z ≤ 2147483647) ∧ ((¬ ((0 ≤ x ∧ x < X 40 0 13 ∧ 0 ≤ k ∧ k < X 44 0 (X 55 0 x)) ∧ (0 ≤ y ∧ y < X 40 0 13 ∧ 0 ≤ j ∧ j < X 44 0 (X 55 0 y))) ∧ z = -1) ∨ (((0 ≤ x ∧ x < X 40 0 13 ∧ 0 ≤ k ∧ k < X 44 0 (X 55 0 x)) ∧ (0 ≤ y ∧ y < X 40 0 13 ∧ 0 ≤ j ∧ j < X 44 0 (X 55 0 y))) ∧ (X 46 0 (5 * X 55 0 x + k) < 3 ∨ X 46 0 (5 * X 55 0 x + k) ≠ X 46 0 (5 * X 55 0 y + j)) ∧ z = -14) ∨ (((0 ≤ x ∧ x < X 40 0 13 ∧ 0 ≤ k ∧ k < X 44 0 (X 55 0 x)) ∧ (0 ≤ y ∧ y < X 40 0 13 ∧ 0 ≤ j ∧ j < X 44 0 (X 55 0 y))) ∧ 3 ≤ X 46 0 (5 * X 55 0 x + k) ∧ X 46 0 (5 * X 55 0 x + k) = X 46 0 (5 * X 55 0 y + j) ∧ (0 < X 40 0 20 ∧ X 40 0 22 = 80) ∧ z = -4) ∨ (((0 ≤ x ∧ x < X 40 0 13 ∧ 0 ≤ k ∧ k < X 44 0 (X 55 0 x)) ∧ (0 ≤ y ∧ y < X 40 0 13 ∧ 0 ≤ j ∧ j < X 44 0 (X 55 0 y))) ∧ 3 ≤ X 46 0 (5 * X 55 0 x + k) ∧ X 46 0 (5 * X 55 0 x + k) = X 46 0 (5 * X 55 0 y + j) ∧ (X 40 0 20 = 0 ∨ X 40 0 22 ≤ 79) ∧ z = 1)) ∧ (z < 0 → Frm [4001] X X1) ∧ (z = 1 → eNoteM X X1 x k (if 3 ≤ X 46 0 (5 * X 55 0 x + k) then X 56 0 (5 * x + k) else -1) (-1) (X 56 0 (5 * x + k)) ∧ X1 56 0 (5 * x + k) = X 56 0 (5 * y + j) ∧ ∀ p, p ≠ 5 * x + k → X1 56 0 p = X 56 0 p)) := by
  refine K_of (cc := cX9_share) (maxL := 5) (ret := (some .int)) (by decide) rfl (Nat.le_of_ble_eq_true rfl) ?_
  intro p e s m below meth c ls hx hb hr hml hown hts hlocks hl hK hw hS
  have hown : s.vm.findClass RX9 = some m.cls := hown
  obtain ⟨av9, hav9⟩ : ∃ a9 : Array Value, a9 = ([.ref (ad 40 0), .int (jI x), .int (jI k), .int (jI y), .int (jI j)] : List Value).toArray := ⟨_, rfl⟩
  rw [← hav9] at hts ⊢
  obtain ⟨Q9, hQ9⟩ : ∃ q9Q : State → Prop, q9Q = MQ below (QI D tc base (fun z u => ∃ X1 : Nat → Int → Int → Int, u = (ad, cnt, X1, Y, ln) ∧ Rng X1 ∧ Frm [4001, 6400, 6500, 6700, 6800, 6600, 4023, 5600] X X1 ∧ MInv X1 ∧ (-2147483648 ≤ z ∧ z ≤ 2147483647) ∧ ((¬ ((0 ≤ x ∧ x < X 40 0 13 ∧ 0 ≤ k ∧ k < X 44 0 (X 55 0 x)) ∧ (0 ≤ y ∧ y < X 40 0 13 ∧ 0 ≤ j ∧ j < X 44 0 (X 55 0 y))) ∧ z = -1) ∨ (((0 ≤ x ∧ x < X 40 0 13 ∧ 0 ≤ k ∧ k < X 44 0 (X 55 0 x)) ∧ (0 ≤ y ∧ y < X 40 0 13 ∧ 0 ≤ j ∧ j < X 44 0 (X 55 0 y))) ∧ (X 46 0 (5 * X 55 0 x + k) < 3 ∨ X 46 0 (5 * X 55 0 x + k) ≠ X 46 0 (5 * X 55 0 y + j)) ∧ z = -14) ∨ (((0 ≤ x ∧ x < X 40 0 13 ∧ 0 ≤ k ∧ k < X 44 0 (X 55 0 x)) ∧ (0 ≤ y ∧ y < X 40 0 13 ∧ 0 ≤ j ∧ j < X 44 0 (X 55 0 y))) ∧ 3 ≤ X 46 0 (5 * X 55 0 x + k) ∧ X 46 0 (5 * X 55 0 x + k) = X 46 0 (5 * X 55 0 y + j) ∧ (0 < X 40 0 20 ∧ X 40 0 22 = 80) ∧ z = -4) ∨ (((0 ≤ x ∧ x < X 40 0 13 ∧ 0 ≤ k ∧ k < X 44 0 (X 55 0 x)) ∧ (0 ≤ y ∧ y < X 40 0 13 ∧ 0 ≤ j ∧ j < X 44 0 (X 55 0 y))) ∧ 3 ≤ X 46 0 (5 * X 55 0 x + k) ∧ X 46 0 (5 * X 55 0 x + k) = X 46 0 (5 * X 55 0 y + j) ∧ (X 40 0 20 = 0 ∨ X 40 0 22 ≤ 79) ∧ z = 1)) ∧ (z < 0 → Frm [4001] X X1) ∧ (z = 1 → eNoteM X X1 x k (if 3 ≤ X 46 0 (5 * X 55 0 x + k) then X 56 0 (5 * x + k) else -1) (-1) (X 56 0 (5 * x + k)) ∧ X1 56 0 (5 * x + k) = X 56 0 (5 * y + j) ∧ ∀ p, p ≠ 5 * x + k → X1 56 0 p = X 56 0 p))) av9 s 0 0 (frA base) := ⟨_, rfl⟩
  rw [← hQ9]
  have hi9 : ∀ w ∈ wsX90, w ∈ wsX9_share := fun w h => List.mem_cons_of_mem _ (List.mem_append_right _ h)
  have hf9 : fctx s m _ RX9 wsX9_share D tc RX9 TX9 51 9 := ⟨hts, hi9, hown, hK.1, rfl⟩
  have lk48 := hts (.fieldLink RX9 48 (TX9 15).1 (TX9 15).2.1 (TX9 15).2.2.1) (gj_X9_share_0 _ (gp_1 gp_h))
  have lk145 := hts (.fieldLink RX9 145 (TX9 0).1 (TX9 0).2.1 (TX9 0).2.2.1) (gj_X9_share_0 _ (gp_h))
  have hc40 : cnt 40 = 1 := hFx.at 40 1 (by decide)
  have hc56 : cnt 56 = 1 := hFx.at 56 1 (by decide)
  have hl : lv_has ls 5 [(0, .ref (ad 40 0)), (1, .int (jI x)), (2, .int (jI k)), (3, .int (jI y)), (4, .int (jI j))] := hl
  have fstypes : 0 ≤ X 40 0 2 ∧ X 40 0 2 ≤ 8 := hR 40 0 2
  have fsthings : 0 ≤ X 40 0 13 ∧ X 40 0 13 ≤ 30 := hR 40 0 13
  have fsmarks : 0 ≤ X 40 0 20 ∧ X 40 0 20 ≤ 4 := hR 40 0 20
  have fsnotes : 0 ≤ X 40 0 22 ∧ X 40 0 22 ≤ 80 := hR 40 0 22
  refine lv_aload_n hx hb dX9_share_0 rfl (lv_at hl 0 rfl) ?_
  refine lv_iconst (v := jI 0) hx hb dX9_share_1 rfl ?_
  refine x_puti (jz := 0) hx hb hf9 ⟨tyX9_ok, nmX9⟩ hw hS (by first | exact Int.le_refl 0 | omega) (by first | exact zlt hc40 | omega) sl_40_0 rfl lk145 rfl (tyX9_ok 0 (by decide)) rfl rfl dX9_share_2 (fun H locs hw hS => ?_)
  obtain ⟨X1, hX1⟩ : ∃ Xq, Xq = u3 X 40 0 0 0 := ⟨_, rfl⟩
  rw [← hX1] at hw
  have hRX1 : Rng X1 := by rw [hX1]; exact rng_set hR (show (-2147483648) ≤ 0 ∧ 0 ≤ 2147483647 by omega)
  have hVX1 : X1 40 0 0 = 0 := by rw [hX1]; exact u3_s _ _ _ _ _
  have hFX1 : Frm [4001, 6400, 6500, 6700, 6800, 6600, 4023, 5600] X X1 := by rw [hX1]; exact Frm.set Frm.rf (show 4001 ∈ [4001, 6400, 6500, 6700, 6800, 6600, 4023, 5600] by decide)
  refine lv_aload_n hx hb dX9_share_5 rfl (lv_at hl 0 rfl) ?_
  refine lv_iload_n hx hb dX9_share_6 rfl (lv_at hl 1 rfl) ?_
  refine lv_iload_n hx hb dX9_share_7 rfl (lv_at hl 2 rfl) ?_
  refine gos_i (run_V (As := [.int (jI x), .int (jI k)]) (rest := []) hx hb hml hown hts (c_X9_isField l D tc base ad cnt X1 Y ln hRX1 hFx x k (by omega) (by omega)) (cwV 2 hts gX9_share_X9_isField rfl rfl rfl (by first | exact hd_X9_isField | decide +kernel) ⟨Nat.le_of_ble_eq_true rfl, Nat.le_of_ble_eq_true rfl⟩) hK hw (by first | exact Int.le_refl 0 | omega) (by first | exact zlt hc40 | omega) sl_40_0 rfl rfl hl.1 rfl (Nat.le_of_ble_eq_true rfl) dX9_share_8 ⟨Nat.le_of_ble_eq_true rfl, Nat.le_of_ble_eq_true rfl⟩) hS (fun z2 u3 H locs p4 hw hS => ?_)
  obtain ⟨eu3, p4⟩ := p4
  subst eu3
  have e5 : X1 40 0 13 = X 40 0 13 := by rw [hX1, u3_j _ _ _ _ (by decide)]
  have e6 : ∀ j : Int, X1 55 0 j = X 55 0 j := fun j => by rw [hX1, u3_k _ _ _ _ (by decide)]
  have e7 : ∀ j : Int, X1 44 0 j = X 44 0 j := fun j => by rw [hX1, u3_k _ _ _ _ (by decide)]
  simp only [e5, e6, e7] at p4
  rcases p4 with ⟨ez2, p4⟩ | ⟨ez2, p4⟩
  · subst ez2
    refine x_if_eqF (tgt := 24) hx hb (by omega) (by decide) dX9_share_11 (by decide) ?_
    refine lv_aload_n hx hb dX9_share_14 rfl (lv_at hl 0 rfl) ?_
    refine lv_iload_n hx hb dX9_share_15 rfl (lv_at hl 3 rfl) ?_
    refine lv_iload hx hb dX9_share_16 (lv_at hl 4 rfl) ?_
    refine gos_i (run_V (As := [.int (jI y), .int (jI j)]) (rest := []) hx hb hml hown hts (c_X9_isField l D tc base ad cnt X1 Y ln hRX1 hFx y j (by omega) (by omega)) (cwV 2 hts gX9_share_X9_isField rfl rfl rfl (by first | exact hd_X9_isField | decide +kernel) ⟨Nat.le_of_ble_eq_true rfl, Nat.le_of_ble_eq_true rfl⟩) hK hw (by first | exact Int.le_refl 0 | omega) (by first | exact zlt hc40 | omega) sl_40_0 rfl rfl hl.1 rfl (Nat.le_of_ble_eq_true rfl) dX9_share_18 ⟨Nat.le_of_ble_eq_true rfl, Nat.le_of_ble_eq_true rfl⟩) hS (fun z8 u9 H locs p10 hw hS => ?_)
    obtain ⟨eu9, p10⟩ := p10
    subst eu9
    have e11 : X1 40 0 13 = X 40 0 13 := by rw [hX1, u3_j _ _ _ _ (by decide)]
    have e12 : ∀ j : Int, X1 55 0 j = X 55 0 j := fun j => by rw [hX1, u3_k _ _ _ _ (by decide)]
    have e13 : ∀ j : Int, X1 44 0 j = X 44 0 j := fun j => by rw [hX1, u3_k _ _ _ _ (by decide)]
    simp only [e11, e12, e13] at p10
    rcases p10 with ⟨ez8, p10⟩ | ⟨ez8, p10⟩
    · subst ez8
      refine x_if_neT (tgt := 26) hx hb (by omega) (by decide) dX9_share_21 (by decide) ?_
      refine lv_aload_n hx hb dX9_share_26 rfl (lv_at hl 0 rfl) ?_
      refine lv_iload_n hx hb dX9_share_27 rfl (lv_at hl 1 rfl) ?_
      refine lv_iload_n hx hb dX9_share_28 rfl (lv_at hl 2 rfl) ?_
      refine gos_i (run_V (As := [.int (jI x), .int (jI k)]) (rest := []) hx hb hml hown hts (c_X9_lane l D tc base ad cnt X1 Y ln hRX1 hFx x k (by omega) (by omega)) (cwV 2 hts gX9_share_X9_lane rfl rfl rfl (by first | exact hd_X9_lane | decide +kernel) ⟨Nat.le_of_ble_eq_true rfl, Nat.le_of_ble_eq_true rfl⟩) hK hw (by first | exact Int.le_refl 0 | omega) (by first | exact zlt hc40 | omega) sl_40_0 rfl rfl hl.1 rfl (Nat.le_of_ble_eq_true rfl) dX9_share_29 ⟨Nat.le_of_ble_eq_true rfl, Nat.le_of_ble_eq_true rfl⟩) hS (fun z14 u15 H locs p16 hw hS => ?_)
      obtain ⟨eu15, p16⟩ := p16
      subst eu15
      have e17 : ∀ j : Int, X1 55 0 j = X 55 0 j := fun j => by rw [hX1, u3_k _ _ _ _ (by decide)]
      have e18 : ∀ j : Int, X1 46 0 j = X 46 0 j := fun j => by rw [hX1, u3_k _ _ _ _ (by decide)]
      simp only [e17, e18] at p16
      refine lv_iconst (v := jI 3) hx hb dX9_share_32 rfl ?_
      refine x_icmp_lt (tgt := 52) hx hb (by omega) (by omega) dX9_share_33 (by decide) (fun c19 => ?_) (fun c19 => ?_)
      · refine lv_bipush (v := jI (-14)) hx hb dX9_share_52 (by decide) ?_
        rw [hQ9]
        refine ret_i (mc := 0) (ms := 0) hx hb hr hlocks hw hS (by first | exact Nat.le_of_ble_eq_true rfl | omega) (by first | exact Nat.le_of_ble_eq_true rfl | omega) dX9_share_54 ?_
        have q21 : Frm [4001] X X1 := by rw [hX1]; exact Frm.set Frm.rf (show 4001 ∈ [4001] by decide)
        have hMq20 : MInv X1 := minv_frm hMI q21 (by decide)
        have q22 : Frm [4001] X X1 := by rw [hX1]; exact Frm.set Frm.rf (show 4001 ∈ [4001] by decide)
        exact ⟨X1, rfl, hRX1, hFX1, hMq20, by omega, (by (try delta Hid at *); exact Or.inr (Or.inl ⟨(by omega), (by omega), by omega⟩)), fun _ => q22, fun q => (by exfalso; omega)⟩
      · refine lv_aload_n hx hb dX9_share_36 rfl (lv_at hl 0 rfl) ?_
        refine lv_iload_n hx hb dX9_share_37 rfl (lv_at hl 1 rfl) ?_
        refine lv_iload_n hx hb dX9_share_38 rfl (lv_at hl 2 rfl) ?_
        refine gos_i (run_V (As := [.int (jI x), .int (jI k)]) (rest := []) hx hb hml hown hts (c_X9_lane l D tc base ad cnt X1 Y ln hRX1 hFx x k (by omega) (by omega)) (cwV 2 hts gX9_share_X9_lane rfl rfl rfl (by first | exact hd_X9_lane | decide +kernel) ⟨Nat.le_of_ble_eq_true rfl, Nat.le_of_ble_eq_true rfl⟩) hK hw (by first | exact Int.le_refl 0 | omega) (by first | exact zlt hc40 | omega) sl_40_0 rfl rfl hl.1 rfl (Nat.le_of_ble_eq_true rfl) dX9_share_39 ⟨Nat.le_of_ble_eq_true rfl, Nat.le_of_ble_eq_true rfl⟩) hS (fun z23 u24 H locs p25 hw hS => ?_)
        obtain ⟨eu24, p25⟩ := p25
        subst eu24
        have e26 : ∀ j : Int, X1 55 0 j = X 55 0 j := fun j => by rw [hX1, u3_k _ _ _ _ (by decide)]
        have e27 : ∀ j : Int, X1 46 0 j = X 46 0 j := fun j => by rw [hX1, u3_k _ _ _ _ (by decide)]
        simp only [e26, e27] at p25
        refine lv_aload_n hx hb dX9_share_42 rfl (lv_at hl 0 rfl) ?_
        refine lv_iload_n hx hb dX9_share_43 rfl (lv_at hl 3 rfl) ?_
        refine lv_iload hx hb dX9_share_44 (lv_at hl 4 rfl) ?_
        refine gos_i (run_V (As := [.int (jI y), .int (jI j)]) (rest := [.int (jI z23)]) hx hb hml hown hts (c_X9_lane l D tc base ad cnt X1 Y ln hRX1 hFx y j (by omega) (by omega)) (cwV 2 hts gX9_share_X9_lane rfl rfl rfl (by first | exact hd_X9_lane | decide +kernel) ⟨Nat.le_of_ble_eq_true rfl, Nat.le_of_ble_eq_true rfl⟩) hK hw (by first | exact Int.le_refl 0 | omega) (by first | exact zlt hc40 | omega) sl_40_0 rfl rfl hl.1 rfl (Nat.le_of_ble_eq_true rfl) dX9_share_46 ⟨Nat.le_of_ble_eq_true rfl, Nat.le_of_ble_eq_true rfl⟩) hS (fun z28 u29 H locs p30 hw hS => ?_)
        obtain ⟨eu29, p30⟩ := p30
        subst eu29
        have e31 : ∀ j : Int, X1 55 0 j = X 55 0 j := fun j => by rw [hX1, u3_k _ _ _ _ (by decide)]
        have e32 : ∀ j : Int, X1 46 0 j = X 46 0 j := fun j => by rw [hX1, u3_k _ _ _ _ (by decide)]
        simp only [e31, e32] at p30
        refine x_icmp_eq (tgt := 55) hx hb (by omega) (by omega) dX9_share_49 (by decide) (fun c33 => ?_) (fun c33 => ?_)
        · refine lv_aload_n hx hb dX9_share_55 rfl (lv_at hl 0 rfl) ?_
          refine gos_i (run_V (As := []) (rest := []) hx hb hml hown hts (c_X9_isFull l D tc base ad cnt X1 Y ln hRX1 hFx) (cwV 0 hts gX9_share_X9_isFull rfl rfl rfl (by first | exact hd_X9_isFull | decide +kernel) ⟨Nat.le_of_ble_eq_true rfl, Nat.le_of_ble_eq_true rfl⟩) hK hw (by first | exact Int.le_refl 0 | omega) (by first | exact zlt hc40 | omega) sl_40_0 rfl rfl hl.1 rfl (Nat.le_of_ble_eq_true rfl) dX9_share_56 ⟨Nat.le_of_ble_eq_true rfl, Nat.le_of_ble_eq_true rfl⟩) hS (fun z34 u35 H locs p36 hw hS => ?_)
          obtain ⟨eu35, p36⟩ := p36
          subst eu35
          have e37 : X1 40 0 20 = X 40 0 20 := by rw [hX1, u3_j _ _ _ _ (by decide)]
          have e38 : X1 40 0 22 = X 40 0 22 := by rw [hX1, u3_j _ _ _ _ (by decide)]
          simp only [e37, e38] at p36
          rcases p36 with ⟨ez34, p36⟩ | ⟨ez34, p36⟩
          · subst ez34
            refine x_if_eqF (tgt := 65) hx hb (by omega) (by decide) dX9_share_59 (by decide) ?_
            refine lv_bipush (v := jI (-4)) hx hb dX9_share_62 (by decide) ?_
            rw [hQ9]
            refine ret_i (mc := 0) (ms := 0) hx hb hr hlocks hw hS (by first | exact Nat.le_of_ble_eq_true rfl | omega) (by first | exact Nat.le_of_ble_eq_true rfl | omega) dX9_share_64 ?_
            have q40 : Frm [4001] X X1 := by rw [hX1]; exact Frm.set Frm.rf (show 4001 ∈ [4001] by decide)
            have hMq39 : MInv X1 := minv_frm hMI q40 (by decide)
            have q41 : Frm [4001] X X1 := by rw [hX1]; exact Frm.set Frm.rf (show 4001 ∈ [4001] by decide)
            exact ⟨X1, rfl, hRX1, hFX1, hMq39, by omega, (by (try delta Hid at *); exact Or.inr (Or.inr (Or.inl ⟨(by omega), by omega, by omega, (by omega), by omega⟩))), fun _ => q41, fun q => (by exfalso; omega)⟩
          · subst ez34
            refine x_if_eqT (tgt := 65) hx hb (by omega) (by decide) dX9_share_59 (by decide) ?_
            refine lv_aload_n hx hb dX9_share_65 rfl (lv_at hl 0 rfl) ?_
            refine lv_iload_n hx hb dX9_share_66 rfl (lv_at hl 1 rfl) ?_
            refine lv_iload_n hx hb dX9_share_67 rfl (lv_at hl 2 rfl) ?_
            refine lv_aload_n hx hb dX9_share_68 rfl (lv_at hl 0 rfl) ?_
            refine x_geto hx hb hf9 hw (by first | exact Int.le_refl 0 | omega) (by first | exact zlt hc40 | omega) sl_40_15 lk48 dX9_share_69 ?_
            refine lv_iconst (v := jI 5) hx hb dX9_share_72 rfl ?_
            refine lv_iload_n hx hb dX9_share_73 rfl (lv_at hl 3 rfl) ?_
            refine x_imul hx hb dX9_share_74 ?_
            refine lv_iload hx hb dX9_share_75 (lv_at hl 4 rfl) ?_
            refine x_iadd hx hb dX9_share_77 ?_
            obtain ⟨hy1, hy2, hy3⟩ := hMI.1 y j (by omega) (by omega) (by omega) (by omega)
            refine x_lald hx hb hK.1 hw (by first | exact Int.le_refl 0 | omega) (by first | exact zlt hc56 | omega) ar_56 (len_E ar_56 (by decide)) (by omega) (by omega) (by omega) dX9_share_78 ?_
            have e42 : ∀ p9 q9 : Int, X1 56 p9 q9 = X 56 p9 q9 := fun p9 q9 => by rw [hX1, u3_k _ _ _ _ (by decide)]
            rw [e42 0 ((5 * y) + j)]
            have f43 : (-9223372036854775808) ≤ X 56 0 ((5 * y) + j) ∧ X 56 0 ((5 * y) + j) ≤ 9223372036854775807 := hR 56 0 ((5 * y) + j)
            have q45 : Frm [4001] X X1 := by rw [hX1]; exact Frm.set Frm.rf (show 4001 ∈ [4001] by decide)
            have hMq44 : MInv X1 := minv_frm hMI q45 (by decide)
            have e46 : ∀ j : Int, X1 55 0 j = X 55 0 j := fun j => by rw [hX1, u3_k _ _ _ _ (by decide)]
            have e47 : ∀ j : Int, X1 44 0 j = X 44 0 j := fun j => by rw [hX1, u3_k _ _ _ _ (by decide)]
            have e48 : ∀ j : Int, X1 46 0 j = X 46 0 j := fun j => by rw [hX1, u3_k _ _ _ _ (by decide)]
            have e49 : X1 40 0 13 = X 40 0 13 := by rw [hX1, u3_j _ _ _ _ (by decide)]
            have e50 : X1 40 0 20 = X 40 0 20 := by rw [hX1, u3_j _ _ _ _ (by decide)]
            have e51 : X1 40 0 22 = X 40 0 22 := by rw [hX1, u3_j _ _ _ _ (by decide)]
            refine gos_v (run_V (As := [.int (jI x), .int (jI k), .long (jL (X 56 0 ((5 * y) + j)))]) (rest := []) hx hb hml hown hts (c_X9_becomes l D tc base ad cnt X1 Y ln hRX1 hFx hMq44 x k (X 56 0 ((5 * y) + j)) (by omega) (by omega) (by omega) (by simp only [e46, e47, e48, e49, e50, e51]; omega) (by simp only [e46, e47, e48, e49, e50, e51]; omega) (by unfold tyv; simp only [e46, e47, e48, e49, e50, e51]; exact ⟨fun _ => by omega, fun _ => by omega, fun _ => by omega⟩) (by simp only [e46, e47, e48, e49, e50, e51]; (try simp only [Hid] at *); omega)) (cwV 3 hts gX9_share_X9_becomes rfl rfl rfl (by first | exact hd_X9_becomes | decide +kernel) ⟨Nat.le_of_ble_eq_true rfl, Nat.le_of_ble_eq_true rfl⟩) hK hw (by first | exact Int.le_refl 0 | omega) (by first | exact zlt hc40 | omega) sl_40_0 rfl rfl hl.1 rfl (Nat.le_of_ble_eq_true rfl) dX9_share_79 ⟨Nat.le_of_ble_eq_true rfl, Nat.le_of_ble_eq_true rfl⟩) hS (fun u53 H locs p54 hw hS => ?_)
            obtain ⟨X55, eu53, hRX55, hG56, hMIX55, p54, hbnX55, hbvX55, hboX55⟩ := p54
            subst eu53
            have hFX55 : Frm [4001, 6400, 6500, 6700, 6800, 6600, 4023, 5600] X X55 := Frm.tr hFX1 (Frm.mono hG56 (by decide))
            refine lv_iconst (v := jI 1) hx hb dX9_share_82 rfl ?_
            rw [hQ9]
            refine ret_i (mc := 0) (ms := 0) hx hb hr hlocks hw hS (by first | exact Nat.le_of_ble_eq_true rfl | omega) (by first | exact Nat.le_of_ble_eq_true rfl | omega) dX9_share_83 ?_
            have q57 : Frm [4001] X X1 := by rw [hX1]; exact Frm.set Frm.rf (show 4001 ∈ [4001] by decide)
            have e58 : ∀ j : Int, X1 46 0 j = X 46 0 j := fun j => by rw [hX1, u3_k _ _ _ _ (by decide)]
            have e59 : ∀ j : Int, X1 55 0 j = X 55 0 j := fun j => by rw [hX1, u3_k _ _ _ _ (by decide)]
            have e60 : ∀ j : Int, X1 56 0 j = X 56 0 j := fun j => by rw [hX1, u3_k _ _ _ _ (by decide)]
            exact ⟨X55, rfl, hRX55, hFX55, hMIX55, by omega, (by (try delta Hid at *); exact Or.inr (Or.inr (Or.inr (⟨(by omega), by omega, by omega, (by omega), by omega⟩)))), fun q => (by exfalso; omega), fun _ => (by simp only [e58, e59, e60] at hbnX55 hboX55; exact ⟨eNoteM.from (M := [4001]) hbnX55 q57 (by decide), hbvX55, hboX55⟩)⟩
        · refine lv_bipush (v := jI (-14)) hx hb dX9_share_52 (by decide) ?_
          rw [hQ9]
          refine ret_i (mc := 0) (ms := 0) hx hb hr hlocks hw hS (by first | exact Nat.le_of_ble_eq_true rfl | omega) (by first | exact Nat.le_of_ble_eq_true rfl | omega) dX9_share_54 ?_
          have q62 : Frm [4001] X X1 := by rw [hX1]; exact Frm.set Frm.rf (show 4001 ∈ [4001] by decide)
          have hMq61 : MInv X1 := minv_frm hMI q62 (by decide)
          have q63 : Frm [4001] X X1 := by rw [hX1]; exact Frm.set Frm.rf (show 4001 ∈ [4001] by decide)
          exact ⟨X1, rfl, hRX1, hFX1, hMq61, by omega, (by (try delta Hid at *); exact Or.inr (Or.inl ⟨(by omega), (by omega), by omega⟩)), fun _ => q63, fun q => (by exfalso; omega)⟩
    · subst ez8
      refine x_if_neF (tgt := 26) hx hb (by omega) (by decide) dX9_share_21 (by decide) ?_
      refine lv_iconst (v := jI (-1)) hx hb dX9_share_24 rfl ?_
      rw [hQ9]
      refine ret_i (mc := 0) (ms := 0) hx hb hr hlocks hw hS (by first | exact Nat.le_of_ble_eq_true rfl | omega) (by first | exact Nat.le_of_ble_eq_true rfl | omega) dX9_share_25 ?_
      have q65 : Frm [4001] X X1 := by rw [hX1]; exact Frm.set Frm.rf (show 4001 ∈ [4001] by decide)
      have hMq64 : MInv X1 := minv_frm hMI q65 (by decide)
      have q66 : Frm [4001] X X1 := by rw [hX1]; exact Frm.set Frm.rf (show 4001 ∈ [4001] by decide)
      exact ⟨X1, rfl, hRX1, hFX1, hMq64, by omega, (by (try delta Hid at *); exact Or.inl ⟨(fun q => by omega), by omega⟩), fun _ => q66, fun q => (by exfalso; omega)⟩
  · subst ez2
    refine x_if_eqT (tgt := 24) hx hb (by omega) (by decide) dX9_share_11 (by decide) ?_
    refine lv_iconst (v := jI (-1)) hx hb dX9_share_24 rfl ?_
    rw [hQ9]
    refine ret_i (mc := 0) (ms := 0) hx hb hr hlocks hw hS (by first | exact Nat.le_of_ble_eq_true rfl | omega) (by first | exact Nat.le_of_ble_eq_true rfl | omega) dX9_share_25 ?_
    have q68 : Frm [4001] X X1 := by rw [hX1]; exact Frm.set Frm.rf (show 4001 ∈ [4001] by decide)
    have hMq67 : MInv X1 := minv_frm hMI q68 (by decide)
    have q69 : Frm [4001] X X1 := by rw [hX1]; exact Frm.set Frm.rf (show 4001 ∈ [4001] by decide)
    exact ⟨X1, rfl, hRX1, hFX1, hMq67, by omega, (by (try delta Hid at *); exact Or.inl ⟨(fun q => by omega), by omega⟩), fun _ => q69, fun q => (by exfalso; omega)⟩
