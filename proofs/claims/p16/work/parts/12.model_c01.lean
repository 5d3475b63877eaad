set_option maxHeartbeats 4000000 in
set_option maxRecDepth 100000 in
theorem c_X9_refer (l : Launch) (D : va_G) (tc : Nat → ClassId) (base : Nat) (ad : Nat → Int → Nat) (cnt : Nat → Int) (X : Nat → Int → Int → Int) (Y : Nat → Int → Int → Option Int) (ln : Int → Int) (hR : Rng X) (hFx : Fx cnt) (hMI : MInv X) (x k y : Int) (hx : -2147483648 ≤ x ∧ x ≤ 2147483647) (hk : -2147483648 ≤ k ∧ k ≤ 2147483647) (hy : -2147483648 ≤ y ∧ y ≤ 2147483647) : KI l D tc base yX9_refer wsX9_refer ({ frames := 2, cells := 0, slots := 0, locals := 46 } : Room) [.ref (ad 40 0), .int (jI x), .int (jI k), .int (jI y)] (ad, cnt, X, Y, ln) 0 0 (fun z u => ∃ X1 : Nat → Int → Int → Int, u = (ad, cnt, X1, Y, ln) ∧ Rng X1 ∧ Frm [4001, 6400, 6500, 6700, 6800, 6600, 4023, 5600] X X1 ∧ MInv X1 ∧ (-2147483648 ≤ z ∧ z ≤ 2147483647) ∧ ((¬ ((0 ≤ x ∧ x < X 40 0 13 ∧ 0 ≤ k ∧ k < X 44 0 (X 55 0 x)) ∧ (y = -1 ∨ (0 ≤ y ∧ y < X 40 0 13))) ∧ z = -1) ∨ ((0 ≤ x ∧ x < X 40 0 13 ∧ 0 ≤ k ∧ k < X 44 0 (X 55 0 x)) ∧ (y = -1 ∨ (0 ≤ y ∧ y < X 40 0 13)) ∧ X 46 0 (5 * X 55 0 x + k) ≠ 2 ∧ z = -14) ∨ ((0 ≤ x ∧ x < X 40 0 13 ∧ 0 ≤ k ∧ k < X 44 0 (X 55 0 x)) ∧ (y = -1 ∨ (0 ≤ y ∧ y < X 40 0 13)) ∧ X 46 0 (5 * X 55 0 x + k) = 2 ∧ (0 < X 40 0 20 ∧ X 40 0 22 = 80) ∧ z = -4) ∨ ((0 ≤ x ∧ x < X 40 0 13 ∧ 0 ≤ k ∧ k < X 44 0 (X 55 0 x)) ∧ (y = -1 ∨ (0 ≤ y ∧ y < X 40 0 13)) ∧ X 46 0 (5 * X 55 0 x + k) = 2 ∧ (X 40 0 20 = 0 ∨ X 40 0 22 ≤ 79) ∧ z = 1)) ∧ (z < 0 → Frm [4001] X X1) ∧ (z = 1 → eNoteM X X1 x k (if 3 ≤ X 46 0 (5 * X 55 0 x + k) then X 56 0 (5 * x + k) else -1) (-1) (X 56 0 (5 * x + k)) ∧ X1 56 0 (5 * x + k) = y ∧ ∀ p, p ≠ 5 * x + k → X1 56 0 p = X 56 0 p)) := by
  refine K_of (cc := cX9_refer) (maxL := 4) (ret := (some .int)) (by decide) rfl (Nat.le_of_ble_eq_true rfl) ?_
  intro p e s m below meth c ls hx hb hr hml hown hts hlocks hl hK hw hS
  have hown : s.vm.findClass RX9 = some m.cls := hown
  obtain ⟨av9, hav9⟩ : ∃ a9 : Array Value, a9 = ([.ref (ad 40 0), .int (jI x), .int (jI k), .int (jI y)] : List Value).toArray := ⟨_, rfl⟩
  rw [← hav9] at hts ⊢
  obtain ⟨Q9, hQ9⟩ : ∃ q9Q : State → Prop, q9Q = MQ below (QI D tc base (fun z u => ∃ X1 : Nat → Int → Int → Int, u = (ad, cnt, X1, Y, ln) ∧ Rng X1 ∧ Frm [4001, 6400, 6500, 6700, 6800, 6600, 4023, 5600] X X1 ∧ MInv X1 ∧ (-2147483648 ≤ z ∧ z ≤ 2147483647) ∧ ((¬ ((0 ≤ x ∧ x < X 40 0 13 ∧ 0 ≤ k ∧ k < X 44 0 (X 55 0 x)) ∧ (y = -1 ∨ (0 ≤ y ∧ y < X 40 0 13))) ∧ z = -1) ∨ ((0 ≤ x ∧ x < X 40 0 13 ∧ 0 ≤ k ∧ k < X 44 0 (X 55 0 x)) ∧ (y = -1 ∨ (0 ≤ y ∧ y < X 40 0 13)) ∧ X 46 0 (5 * X 55 0 x + k) ≠ 2 ∧ z = -14) ∨ ((0 ≤ x ∧ x < X 40 0 13 ∧ 0 ≤ k ∧ k < X 44 0 (X 55 0 x)) ∧ (y = -1 ∨ (0 ≤ y ∧ y < X 40 0 13)) ∧ X 46 0 (5 * X 55 0 x + k) = 2 ∧ (0 < X 40 0 20 ∧ X 40 0 22 = 80) ∧ z = -4) ∨ ((0 ≤ x ∧ x < X 40 0 13 ∧ 0 ≤ k ∧ k < X 44 0 (X 55 0 x)) ∧ (y = -1 ∨ (0 ≤ y ∧ y < X 40 0 13)) ∧ X 46 0 (5 * X 55 0 x + k) = 2 ∧ (X 40 0 20 = 0 ∨ X 40 0 22 ≤ 79) ∧ z = 1)) ∧ (z < 0 → Frm [4001] X X1) ∧ (z = 1 → eNoteM X X1 x k (if 3 ≤ X 46 0 (5 * X 55 0 x + k) then X 56 0 (5 * x + k) else -1) (-1) (X 56 0 (5 * x + k)) ∧ X1 56 0 (5 * x + k) = y ∧ ∀ p, p ≠ 5 * x + k → X1 56 0 p = X 56 0 p))) av9 s 0 0 (frA base) := ⟨_, rfl⟩
  rw [← hQ9]
  have hi9 : ∀ w ∈ wsX90, w ∈ wsX9_refer := fun w h => List.mem_cons_of_mem _ (List.mem_append_right _ h)
  have hf9 : fctx s m _ RX9 wsX9_refer D tc RX9 TX9 51 9 := ⟨hts, hi9, hown, hK.1, rfl⟩
  have lk145 := hts (.fieldLink RX9 145 (TX9 0).1 (TX9 0).2.1 (TX9 0).2.2.1) (gj_X9_refer_0 _ (gp_h))
  have hc40 : cnt 40 = 1 := hFx.at 40 1 (by decide)
  have hl : lv_has ls 4 [(0, .ref (ad 40 0)), (1, .int (jI x)), (2, .int (jI k)), (3, .int (jI y))] := hl
  have fstypes : 0 ≤ X 40 0 2 ∧ X 40 0 2 ≤ 8 := hR 40 0 2
  have fsthings : 0 ≤ X 40 0 13 ∧ X 40 0 13 ≤ 30 := hR 40 0 13
  have fsmarks : 0 ≤ X 40 0 20 ∧ X 40 0 20 ≤ 4 := hR 40 0 20
  have fsnotes : 0 ≤ X 40 0 22 ∧ X 40 0 22 ≤ 80 := hR 40 0 22
  refine lv_aload_n hx hb dX9_refer_0 rfl (lv_at hl 0 rfl) ?_
  refine lv_iconst (v := jI 0) hx hb dX9_refer_1 rfl ?_
  refine x_puti (jz := 0) hx hb hf9 ⟨tyX9_ok, nmX9⟩ hw hS (by first | exact Int.le_refl 0 | omega) (by first | exact zlt hc40 | omega) sl_40_0 rfl lk145 rfl (tyX9_ok 0 (by decide)) rfl rfl dX9_refer_2 (fun H locs hw hS => ?_)
  obtain ⟨X1, hX1⟩ : ∃ Xq, Xq = u3 X 40 0 0 0 := ⟨_, rfl⟩
  rw [← hX1] at hw
  have hRX1 : Rng X1 := by rw [hX1]; exact rng_set hR (show (-2147483648) ≤ 0 ∧ 0 ≤ 2147483647 by omega)
  have hVX1 : X1 40 0 0 = 0 := by rw [hX1]; exact u3_s _ _ _ _ _
  have hFX1 : Frm [4001, 6400, 6500, 6700, 6800, 6600, 4023, 5600] X X1 := by rw [hX1]; exact Frm.set Frm.rf (show 4001 ∈ [4001, 6400, 6500, 6700, 6800, 6600, 4023, 5600] by decide)
  refine lv_aload_n hx hb dX9_refer_5 rfl (lv_at hl 0 rfl) ?_
  refine lv_iload_n hx hb dX9_refer_6 rfl (lv_at hl 1 rfl) ?_
  refine lv_iload_n hx hb dX9_refer_7 rfl (lv_at hl 2 rfl) ?_
  refine gos_i (run_V (As := [.int (jI x), .int (jI k)]) (rest := []) hx hb hml hown hts (c_X9_isField l D tc base ad cnt X1 Y ln hRX1 hFx x k (by omega) (by omega)) (cwV 2 hts gX9_refer_X9_isField rfl rfl rfl (by first | exact hd_X9_isField | decide +kernel) ⟨Nat.le_of_ble_eq_true rfl, Nat.le_of_ble_eq_true rfl⟩) hK hw (by first | exact Int.le_refl 0 | omega) (by first | exact zlt hc40 | omega) sl_40_0 rfl rfl hl.1 rfl (Nat.le_of_ble_eq_true rfl) dX9_refer_8 ⟨Nat.le_of_ble_eq_true rfl, Nat.le_of_ble_eq_true rfl⟩) hS (fun z2 u3 H locs p4 hw hS => ?_)
  obtain ⟨eu3, p4⟩ := p4
  subst eu3
  have e5 : X1 40 0 13 = X 40 0 13 := by rw [hX1, u3_j _ _ _ _ (by decide)]
  have e6 : ∀ j : Int, X1 55 0 j = X 55 0 j := fun j => by rw [hX1, u3_k _ _ _ _ (by decide)]
  have e7 : ∀ j : Int, X1 44 0 j = X 44 0 j := fun j => by rw [hX1, u3_k _ _ _ _ (by decide)]
  simp only [e5, e6, e7] at p4
  rcases p4 with ⟨ez2, p4⟩ | ⟨ez2, p4⟩
  · subst ez2
    refine x_if_eqF (tgt := 27) hx hb (by omega) (by decide) dX9_refer_11 (by decide) ?_
    refine lv_iload_n hx hb dX9_refer_14 rfl (lv_at hl 3 rfl) ?_
    refine lv_iconst (v := jI (-1)) hx hb dX9_refer_15 rfl ?_
    refine x_icmp_eq (tgt := 29) hx hb (by omega) (by omega) dX9_refer_16 (by decide) (fun c8 => ?_) (fun c8 => ?_)
    · refine lv_aload_n hx hb dX9_refer_29 rfl (lv_at hl 0 rfl) ?_
      refine lv_iload_n hx hb dX9_refer_30 rfl (lv_at hl 1 rfl) ?_
      refine lv_iload_n hx hb dX9_refer_31 rfl (lv_at hl 2 rfl) ?_
      refine gos_i (run_V (As := [.int (jI x), .int (jI k)]) (rest := []) hx hb hml hown hts (c_X9_lane l D tc base ad cnt X1 Y ln hRX1 hFx x k (by omega) (by omega)) (cwV 2 hts gX9_refer_X9_lane rfl rfl rfl (by first | exact hd_X9_lane | decide +kernel) ⟨Nat.le_of_ble_eq_true rfl, Nat.le_of_ble_eq_true rfl⟩) hK hw (by first | exact Int.le_refl 0 | omega) (by first | exact zlt hc40 | omega) sl_40_0 rfl rfl hl.1 rfl (Nat.le_of_ble_eq_true rfl) dX9_refer_32 ⟨Nat.le_of_ble_eq_true rfl, Nat.le_of_ble_eq_true rfl⟩) hS (fun z9 u10 H locs p11 hw hS => ?_)
      obtain ⟨eu10, p11⟩ := p11
      subst eu10
      have e12 : ∀ j : Int, X1 55 0 j = X 55 0 j := fun j => by rw [hX1, u3_k _ _ _ _ (by decide)]
      have e13 : ∀ j : Int, X1 46 0 j = X 46 0 j := fun j => by rw [hX1, u3_k _ _ _ _ (by decide)]
      simp only [e12, e13] at p11
      refine lv_iconst (v := jI 2) hx hb dX9_refer_35 rfl ?_
      refine x_icmp_eq (tgt := 42) hx hb (by omega) (by omega) dX9_refer_36 (by decide) (fun c14 => ?_) (fun c14 => ?_)
      · refine lv_aload_n hx hb dX9_refer_42 rfl (lv_at hl 0 rfl) ?_
        refine gos_i (run_V (As := []) (rest := []) hx hb hml hown hts (c_X9_isFull l D tc base ad cnt X1 Y ln hRX1 hFx) (cwV 0 hts gX9_refer_X9_isFull rfl rfl rfl (by first | exact hd_X9_isFull | decide +kernel) ⟨Nat.le_of_ble_eq_true rfl, Nat.le_of_ble_eq_true rfl⟩) hK hw (by first | exact Int.le_refl 0 | omega) (by first | exact zlt hc40 | omega) sl_40_0 rfl rfl hl.1 rfl (Nat.le_of_ble_eq_true rfl) dX9_refer_43 ⟨Nat.le_of_ble_eq_true rfl, Nat.le_of_ble_eq_true rfl⟩) hS (fun z15 u16 H locs p17 hw hS => ?_)
        obtain ⟨eu16, p17⟩ := p17
        subst eu16
        have e18 : X1 40 0 20 = X 40 0 20 := by rw [hX1, u3_j _ _ _ _ (by decide)]
        have e19 : X1 40 0 22 = X 40 0 22 := by rw [hX1, u3_j _ _ _ _ (by decide)]
        simp only [e18, e19] at p17
        rcases p17 with ⟨ez15, p17⟩ | ⟨ez15, p17⟩
        · subst ez15
          refine x_if_eqF (tgt := 52) hx hb (by omega) (by decide) dX9_refer_46 (by decide) ?_
          refine lv_bipush (v := jI (-4)) hx hb dX9_refer_49 (by decide) ?_
          rw [hQ9]
          refine ret_i (mc := 0) (ms := 0) hx hb hr hlocks hw hS (by first | exact Nat.le_of_ble_eq_true rfl | omega) (by first | exact Nat.le_of_ble_eq_true rfl | omega) dX9_refer_51 ?_
          have q21 : Frm [4001] X X1 := by rw [hX1]; exact Frm.set Frm.rf (show 4001 ∈ [4001] by decide)
          have hMq20 : MInv X1 := minv_frm hMI q21 (by decide)
          have q22 : Frm [4001] X X1 := by rw [hX1]; exact Frm.set Frm.rf (show 4001 ∈ [4001] by decide)
          exact ⟨X1, rfl, hRX1, hFX1, hMq20, by omega, (by (try delta Hid at *); exact Or.inr (Or.inr (Or.inl ⟨(by omega), (by omega), by omega, by omega, by omega⟩))), fun _ => q22, fun q => (by exfalso; omega)⟩
        · subst ez15
          refine x_if_eqT (tgt := 52) hx hb (by omega) (by decide) dX9_refer_46 (by decide) ?_
          refine lv_aload_n hx hb dX9_refer_52 rfl (lv_at hl 0 rfl) ?_
          refine lv_iload_n hx hb dX9_refer_53 rfl (lv_at hl 1 rfl) ?_
          refine lv_iload_n hx hb dX9_refer_54 rfl (lv_at hl 2 rfl) ?_
          refine lv_iload_n hx hb dX9_refer_55 rfl (lv_at hl 3 rfl) ?_
          refine x_i2l hx hb (by omega) dX9_refer_56 ?_
          have q24 : Frm [4001] X X1 := by rw [hX1]; exact Frm.set Frm.rf (show 4001 ∈ [4001] by decide)
          have hMq23 : MInv X1 := minv_frm hMI q24 (by decide)
          have e25 : ∀ j : Int, X1 55 0 j = X 55 0 j := fun j => by rw [hX1, u3_k _ _ _ _ (by decide)]
          have e26 : ∀ j : Int, X1 44 0 j = X 44 0 j := fun j => by rw [hX1, u3_k _ _ _ _ (by decide)]
          have e27 : ∀ j : Int, X1 46 0 j = X 46 0 j := fun j => by rw [hX1, u3_k _ _ _ _ (by decide)]
          have e28 : X1 40 0 13 = X 40 0 13 := by rw [hX1, u3_j _ _ _ _ (by decide)]
          have e29 : X1 40 0 20 = X 40 0 20 := by rw [hX1, u3_j _ _ _ _ (by decide)]
          have e30 : X1 40 0 22 = X 40 0 22 := by rw [hX1, u3_j _ _ _ _ (by decide)]
          refine gos_v (run_V (As := [.int (jI x), .int (jI k), .long (jL y)]) (rest := []) hx hb hml hown hts (c_X9_becomes l D tc base ad cnt X1 Y ln hRX1 hFx hMq23 x k y (by omega) (by omega) (by omega) (by simp only [e25, e26, e27, e28, e29, e30]; omega) (by simp only [e25, e26, e27, e28, e29, e30]; omega) (by unfold tyv; simp only [e25, e26, e27, e28, e29, e30]; exact ⟨fun _ => by omega, fun _ => by omega, fun _ => by omega⟩) (by simp only [e25, e26, e27, e28, e29, e30]; (try simp only [Hid] at *); omega)) (cwV 3 hts gX9_refer_X9_becomes rfl rfl rfl (by first | exact hd_X9_becomes | decide +kernel) ⟨Nat.le_of_ble_eq_true rfl, Nat.le_of_ble_eq_true rfl⟩) hK hw (by first | exact Int.le_refl 0 | omega) (by first | exact zlt hc40 | omega) sl_40_0 rfl rfl hl.1 rfl (Nat.le_of_ble_eq_true rfl) dX9_refer_57 ⟨Nat.le_of_ble_eq_true rfl, Nat.le_of_ble_eq_true rfl⟩) hS (fun u32 H locs p33 hw hS => ?_)
          obtain ⟨X34, eu32, hRX34, hG35, hMIX34, p33, hbnX34, hbvX34, hboX34⟩ := p33
          subst eu32
          have hFX34 : Frm [4001, 6400, 6500, 6700, 6800, 6600, 4023, 5600] X X34 := Frm.tr hFX1 (Frm.mono hG35 (by decide))
          refine lv_iconst (v := jI 1) hx hb dX9_refer_60 rfl ?_
          rw [hQ9]
          refine ret_i (mc := 0) (ms := 0) hx hb hr hlocks hw hS (by first | exact Nat.le_of_ble_eq_true rfl | omega) (by first | exact Nat.le_of_ble_eq_true rfl | omega) dX9_refer_61 ?_
          have q36 : Frm [4001] X X1 := by rw [hX1]; exact Frm.set Frm.rf (show 4001 ∈ [4001] by decide)
          have e37 : ∀ j : Int, X1 46 0 j = X 46 0 j := fun j => by rw [hX1, u3_k _ _ _ _ (by decide)]
          have e38 : ∀ j : Int, X1 55 0 j = X 55 0 j := fun j => by rw [hX1, u3_k _ _ _ _ (by decide)]
          have e39 : ∀ j : Int, X1 56 0 j = X 56 0 j := fun j => by rw [hX1, u3_k _ _ _ _ (by decide)]
          exact ⟨X34, rfl, hRX34, hFX34, hMIX34, by omega, (by (try delta Hid at *); exact Or.inr (Or.inr (Or.inr (⟨(by omega), (by omega), by omega, by omega, by omega⟩)))), fun q => (by exfalso; omega), fun _ => (by simp only [e37, e38, e39] at hbnX34 hboX34; exact ⟨eNoteM.from (M := [4001]) hbnX34 q36 (by decide), hbvX34, hboX34⟩)⟩
      · refine lv_bipush (v := jI (-14)) hx hb dX9_refer_39 (by decide) ?_
        rw [hQ9]
        refine ret_i (mc := 0) (ms := 0) hx hb hr hlocks hw hS (by first | exact Nat.le_of_ble_eq_true rfl | omega) (by first | exact Nat.le_of_ble_eq_true rfl | omega) dX9_refer_41 ?_
        have q41 : Frm [4001] X X1 := by rw [hX1]; exact Frm.set Frm.rf (show 4001 ∈ [4001] by decide)
        have hMq40 : MInv X1 := minv_frm hMI q41 (by decide)
        have q42 : Frm [4001] X X1 := by rw [hX1]; exact Frm.set Frm.rf (show 4001 ∈ [4001] by decide)
        exact ⟨X1, rfl, hRX1, hFX1, hMq40, by omega, (by (try delta Hid at *); exact Or.inr (Or.inl ⟨(by omega), (by omega), by omega, by omega⟩)), fun _ => q42, fun q => (by exfalso; omega)⟩
    · refine lv_aload_n hx hb dX9_refer_19 rfl (lv_at hl 0 rfl) ?_
      refine lv_iload_n hx hb dX9_refer_20 rfl (lv_at hl 3 rfl) ?_
      refine gos_i (run_V (As := [.int (jI y)]) (rest := []) hx hb hml hown hts (c_X9_isThing l D tc base ad cnt X1 Y ln hRX1 hFx y (by omega)) (cwV 1 hts gX9_refer_X9_isThing rfl rfl rfl (by first | exact hd_X9_isThing | decide +kernel) ⟨Nat.le_of_ble_eq_true rfl, Nat.le_of_ble_eq_true rfl⟩) hK hw (by first | exact Int.le_refl 0 | omega) (by first | exact zlt hc40 | omega) sl_40_0 rfl rfl hl.1 rfl (Nat.le_of_ble_eq_true rfl) dX9_refer_21 ⟨Nat.le_of_ble_eq_true rfl, Nat.le_of_ble_eq_true rfl⟩) hS (fun z43 u44 H locs p45 hw hS => ?_)
      obtain ⟨eu44, p45⟩ := p45
      subst eu44
      have e46 : X1 40 0 13 = X 40 0 13 := by rw [hX1, u3_j _ _ _ _ (by decide)]
      simp only [e46] at p45
      rcases p45 with ⟨ez43, p45⟩ | ⟨ez43, p45⟩
      · subst ez43
        refine x_if_neT (tgt := 29) hx hb (by omega) (by decide) dX9_refer_24 (by decide) ?_
        refine lv_aload_n hx hb dX9_refer_29 rfl (lv_at hl 0 rfl) ?_
        refine lv_iload_n hx hb dX9_refer_30 rfl (lv_at hl 1 rfl) ?_
        refine lv_iload_n hx hb dX9_refer_31 rfl (lv_at hl 2 rfl) ?_
        refine gos_i (run_V (As := [.int (jI x), .int (jI k)]) (rest := []) hx hb hml hown hts (c_X9_lane l D tc base ad cnt X1 Y ln hRX1 hFx x k (by omega) (by omega)) (cwV 2 hts gX9_refer_X9_lane rfl rfl rfl (by first | exact hd_X9_lane | decide +kernel) ⟨Nat.le_of_ble_eq_true rfl, Nat.le_of_ble_eq_true rfl⟩) hK hw (by first | exact Int.le_refl 0 | omega) (by first | exact zlt hc40 | omega) sl_40_0 rfl rfl hl.1 rfl (Nat.le_of_ble_eq_true rfl) dX9_refer_32 ⟨Nat.le_of_ble_eq_true rfl, Nat.le_of_ble_eq_true rfl⟩) hS (fun z47 u48 H locs p49 hw hS => ?_)
        obtain ⟨eu48, p49⟩ := p49
        subst eu48
        have e50 : ∀ j : Int, X1 55 0 j = X 55 0 j := fun j => by rw [hX1, u3_k _ _ _ _ (by decide)]
        have e51 : ∀ j : Int, X1 46 0 j = X 46 0 j := fun j => by rw [hX1, u3_k _ _ _ _ (by decide)]
        simp only [e50, e51] at p49
        refine lv_iconst (v := jI 2) hx hb dX9_refer_35 rfl ?_
        refine x_icmp_eq (tgt := 42) hx hb (by omega) (by omega) dX9_refer_36 (by decide) (fun c52 => ?_) (fun c52 => ?_)
        · refine lv_aload_n hx hb dX9_refer_42 rfl (lv_at hl 0 rfl) ?_
          refine gos_i (run_V (As := []) (rest := []) hx hb hml hown hts (c_X9_isFull l D tc base ad cnt X1 Y ln hRX1 hFx) (cwV 0 hts gX9_refer_X9_isFull rfl rfl rfl (by first | exact hd_X9_isFull | decide +kernel) ⟨Nat.le_of_ble_eq_true rfl, Nat.le_of_ble_eq_true rfl⟩) hK hw (by first | exact Int.le_refl 0 | omega) (by first | exact zlt hc40 | omega) sl_40_0 rfl rfl hl.1 rfl (Nat.le_of_ble_eq_true rfl) dX9_refer_43 ⟨Nat.le_of_ble_eq_true rfl, Nat.le_of_ble_eq_true rfl⟩) hS (fun z53 u54 H locs p55 hw hS => ?_)
          obtain ⟨eu54, p55⟩ := p55
          subst eu54
          have e56 : X1 40 0 20 = X 40 0 20 := by rw [hX1, u3_j _ _ _ _ (by decide)]
          have e57 : X1 40 0 22 = X 40 0 22 := by rw [hX1, u3_j _ _ _ _ (by decide)]
          simp only [e56, e57] at p55
          rcases p55 with ⟨ez53, p55⟩ | ⟨ez53, p55⟩
          · subst ez53
            refine x_if_eqF (tgt := 52) hx hb (by omega) (by decide) dX9_refer_46 (by decide) ?_
            refine lv_bipush (v := jI (-4)) hx hb dX9_refer_49 (by decide) ?_
            rw [hQ9]
            refine ret_i (mc := 0) (ms := 0) hx hb hr hlocks hw hS (by first | exact Nat.le_of_ble_eq_true rfl | omega) (by first | exact Nat.le_of_ble_eq_true rfl | omega) dX9_refer_51 ?_
            have q59 : Frm [4001] X X1 := by rw [hX1]; exact Frm.set Frm.rf (show 4001 ∈ [4001] by decide)
            have hMq58 : MInv X1 := minv_frm hMI q59 (by decide)
            have q60 : Frm [4001] X X1 := by rw [hX1]; exact Frm.set Frm.rf (show 4001 ∈ [4001] by decide)
            exact ⟨X1, rfl, hRX1, hFX1, hMq58, by omega, (by (try delta Hid at *); exact Or.inr (Or.inr (Or.inl ⟨(by omega), (by omega), by omega, by omega, by omega⟩))), fun _ => q60, fun q => (by exfalso; omega)⟩
          · subst ez53
            refine x_if_eqT (tgt := 52) hx hb (by omega) (by decide) dX9_refer_46 (by decide) ?_
            refine lv_aload_n hx hb dX9_refer_52 rfl (lv_at hl 0 rfl) ?_
            refine lv_iload_n hx hb dX9_refer_53 rfl (lv_at hl 1 rfl) ?_
            refine lv_iload_n hx hb dX9_refer_54 rfl (lv_at hl 2 rfl) ?_
            refine lv_iload_n hx hb dX9_refer_55 rfl (lv_at hl 3 rfl) ?_
            refine x_i2l hx hb (by omega) dX9_refer_56 ?_
            have q62 : Frm [4001] X X1 := by rw [hX1]; exact Frm.set Frm.rf (show 4001 ∈ [4001] by decide)
            have hMq61 : MInv X1 := minv_frm hMI q62 (by decide)
            have e63 : ∀ j : Int, X1 55 0 j = X 55 0 j := fun j => by rw [hX1, u3_k _ _ _ _ (by decide)]
            have e64 : ∀ j : Int, X1 44 0 j = X 44 0 j := fun j => by rw [hX1, u3_k _ _ _ _ (by decide)]
            have e65 : ∀ j : Int, X1 46 0 j = X 46 0 j := fun j => by rw [hX1, u3_k _ _ _ _ (by decide)]
            have e66 : X1 40 0 13 = X 40 0 13 := by rw [hX1, u3_j _ _ _ _ (by decide)]
            have e67 : X1 40 0 20 = X 40 0 20 := by rw [hX1, u3_j _ _ _ _ (by decide)]
            have e68 : X1 40 0 22 = X 40 0 22 := by rw [hX1, u3_j _ _ _ _ (by decide)]
            refine gos_v (run_V (As := [.int (jI x), .int (jI k), .long (jL y)]) (rest := []) hx hb hml hown hts (c_X9_becomes l D tc base ad cnt X1 Y ln hRX1 hFx hMq61 x k y (by omega) (by omega) (by omega) (by simp only [e63, e64, e65, e66, e67, e68]; omega) (by simp only [e63, e64, e65, e66, e67, e68]; omega) (by unfold tyv; simp only [e63, e64, e65, e66, e67, e68]; exact ⟨fun _ => by omega, fun _ => by omega, fun _ => by omega⟩) (by simp only [e63, e64, e65, e66, e67, e68]; (try simp only [Hid] at *); omega)) (cwV 3 hts gX9_refer_X9_becomes rfl rfl rfl (by first | exact hd_X9_becomes | decide +kernel) ⟨Nat.le_of_ble_eq_true rfl, Nat.le_of_ble_eq_true rfl⟩) hK hw (by first | exact Int.le_refl 0 | omega) (by first | exact zlt hc40 | omega) sl_40_0 rfl rfl hl.1 rfl (Nat.le_of_ble_eq_true rfl) dX9_refer_57 ⟨Nat.le_of_ble_eq_true rfl, Nat.le_of_ble_eq_true rfl⟩) hS (fun u70 H locs p71 hw hS => ?_)
            obtain ⟨X72, eu70, hRX72, hG73, hMIX72, p71, hbnX72, hbvX72, hboX72⟩ := p71
            subst eu70
            have hFX72 : Frm [4001, 6400, 6500, 6700, 6800, 6600, 4023, 5600] X X72 := Frm.tr hFX1 (Frm.mono hG73 (by decide))
            refine lv_iconst (v := jI 1) hx hb dX9_refer_60 rfl ?_
            rw [hQ9]
            refine ret_i (mc := 0) (ms := 0) hx hb hr hlocks hw hS (by first | exact Nat.le_of_ble_eq_true rfl | omega) (by first | exact Nat.le_of_ble_eq_true rfl | omega) dX9_refer_61 ?_
            have q74 : Frm [4001] X X1 := by rw [hX1]; exact Frm.set Frm.rf (show 4001 ∈ [4001] by decide)
            have e75 : ∀ j : Int, X1 46 0 j = X 46 0 j := fun j => by rw [hX1, u3_k _ _ _ _ (by decide)]
            have e76 : ∀ j : Int, X1 55 0 j = X 55 0 j := fun j => by rw [hX1, u3_k _ _ _ _ (by decide)]
            have e77 : ∀ j : Int, X1 56 0 j = X 56 0 j := fun j => by rw [hX1, u3_k _ _ _ _ (by decide)]
            exact ⟨X72, rfl, hRX72, hFX72, hMIX72, by omega, (by (try delta Hid at *); exact Or.inr (Or.inr (Or.inr (⟨(by omega), (by omega), by omega, by omega, by omega⟩)))), fun q => (by exfalso; omega), fun _ => (by simp only [e75, e76, e77] at hbnX72 hboX72; exact ⟨eNoteM.from (M := [4001]) hbnX72 q74 (by decide), hbvX72, hboX72⟩)⟩
        · refine lv_bipush (v := jI (-14)) hx hb dX9_refer_39 (by decide) ?_
          rw [hQ9]
          refine ret_i (mc := 0) (ms := 0) hx hb hr hlocks hw hS (by first | exact Nat.le_of_ble_eq_true rfl | omega) (by first | exact Nat.le_of_ble_eq_true rfl | omega) dX9_refer_41 ?_
          have q79 : Frm [4001] X X1 := by rw [hX1]; exact Frm.set Frm.rf (show 4001 ∈ [4001] by decide)
          have hMq78 : MInv X1 := minv_frm hMI q79 (by decide)
          have q80 : Frm [4001] X X1 := by rw [hX1]; exact Frm.set Frm.rf (show 4001 ∈ [4001] by decide)
          exact ⟨X1, rfl, hRX1, hFX1, hMq78, by omega, (by (try delta Hid at *); exact Or.inr (Or.inl ⟨(by omega), (by omega), by omega, by omega⟩)), fun _ => q80, fun q => (by exfalso; omega)⟩
      · subst ez43
        refine x_if_neF (tgt := 29) hx hb (by omega) (by decide) dX9_refer_24 (by decide) ?_
        refine lv_iconst (v := jI (-1)) hx hb dX9_refer_27 rfl ?_
        rw [hQ9]
        refine ret_i (mc := 0) (ms := 0) hx hb hr hlocks hw hS (by first | exact Nat.le_of_ble_eq_true rfl | omega) (by first | exact Nat.le_of_ble_eq_true rfl | omega) dX9_refer_28 ?_
        have q82 : Frm [4001] X X1 := by rw [hX1]; exact Frm.set Frm.rf (show 4001 ∈ [4001] by decide)
        have hMq81 : MInv X1 := minv_frm hMI q82 (by decide)
        have q83 : Frm [4001] X X1 := by rw [hX1]; exact Frm.set Frm.rf (show 4001 ∈ [4001] by decide)
        exact ⟨X1, rfl, hRX1, hFX1, hMq81, by omega, (by (try delta Hid at *); exact Or.inl ⟨(fun q => by omega), by omega⟩), fun _ => q83, fun q => (by exfalso; omega)⟩
  · subst ez2
    refine x_if_eqT (tgt := 27) hx hb (by omega) (by decide) dX9_refer_11 (by decide) ?_
    refine lv_iconst (v := jI (-1)) hx hb dX9_refer_27 rfl ?_
    rw [hQ9]
    refine ret_i (mc := 0) (ms := 0) hx hb hr hlocks hw hS (by first | exact Nat.le_of_ble_eq_true rfl | omega) (by first | exact Nat.le_of_ble_eq_true rfl | omega) dX9_refer_28 ?_
    have q85 : Frm [4001] X X1 := by rw [hX1]; exact Frm.set Frm.rf (show 4001 ∈ [4001] by decide)
    have hMq84 : MInv X1 := minv_frm hMI q85 (by decide)
    have q86 : Frm [4001] X X1 := by rw [hX1]; exact Frm.set Frm.rf (show 4001 ∈ [4001] by decide)
    exact ⟨X1, rfl, hRX1, hFX1, hMq84, by omega, (by (try delta Hid at *); exact Or.inl ⟨(fun q => by omega), by omega⟩), fun _ => q86, fun q => (by exfalso; omega)⟩
