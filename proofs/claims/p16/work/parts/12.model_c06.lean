set_option maxHeartbeats 4000000 in
set_option maxRecDepth 100000 in
theorem c_X9_at (l : Launch) (D : va_G) (tc : Nat → ClassId) (base : Nat) (ad : Nat → Int → Nat) (cnt : Nat → Int) (X : Nat → Int → Int → Int) (Y : Nat → Int → Int → Option Int) (ln : Int → Int) (hR : Rng X) (hFx : Fx cnt) (hMI : MInv X) (x k : Int) (hx : -2147483648 ≤ x ∧ x ≤ 2147483647) (hk : -2147483648 ≤ k ∧ k ≤ 2147483647) : KL l D tc base yX9_at wsX9_at ({ frames := 2, cells := 0, slots := 0, locals := 43 } : Room) [.ref (ad 40 0), .int (jI x), .int (jI k)] (ad, cnt, X, Y, ln) 0 0 (fun z u => ∃ X1 : Nat → Int → Int → Int, u = (ad, cnt, X1, Y, ln) ∧ Rng X1 ∧ Frm [4001] X X1 ∧ MInv X1 ∧ (-9223372036854775808 ≤ z ∧ z ≤ 9223372036854775807) ∧ ((¬ (0 ≤ x ∧ x < X 40 0 13) ∧ z = 0 ∧ X1 40 0 0 = 1) ∨ ((0 ≤ x ∧ x < X 40 0 13) ∧ ¬ (0 ≤ x ∧ x < X 40 0 13 ∧ 0 ≤ k ∧ k < X 44 0 (X 55 0 x)) ∧ z = 0 ∧ X1 40 0 0 = 2) ∨ ((0 ≤ x ∧ x < X 40 0 13 ∧ 0 ≤ k ∧ k < X 44 0 (X 55 0 x)) ∧ (X 46 0 (5 * X 55 0 x + k) < 3 ∨ X 56 0 (5 * x + k) < 0) ∧ z = X 56 0 (5 * x + k) ∧ X1 40 0 0 = 0) ∨ ((0 ≤ x ∧ x < X 40 0 13 ∧ 0 ≤ k ∧ k < X 44 0 (X 55 0 x)) ∧ 3 ≤ X 46 0 (5 * X 55 0 x + k) ∧ 0 ≤ X 56 0 (5 * x + k) ∧ z = X 58 0 (X 56 0 (5 * x + k)) ∧ X1 40 0 0 = 0))) := by
  refine K_of (cc := cX9_at) (maxL := 5) (ret := (some .long)) (by decide) rfl (Nat.le_of_ble_eq_true rfl) ?_
  intro p e s m below meth c ls hx hb hr hml hown hts hlocks hl hK hw hS
  have hown : s.vm.findClass RX9 = some m.cls := hown
  obtain ⟨av9, hav9⟩ : ∃ a9 : Array Value, a9 = ([.ref (ad 40 0), .int (jI x), .int (jI k)] : List Value).toArray := ⟨_, rfl⟩
  rw [← hav9] at hts ⊢
  obtain ⟨Q9, hQ9⟩ : ∃ q9Q : State → Prop, q9Q = MQ below (QL D tc base (fun z u => ∃ X1 : Nat → Int → Int → Int, u = (ad, cnt, X1, Y, ln) ∧ Rng X1 ∧ Frm [4001] X X1 ∧ MInv X1 ∧ (-9223372036854775808 ≤ z ∧ z ≤ 9223372036854775807) ∧ ((¬ (0 ≤ x ∧ x < X 40 0 13) ∧ z = 0 ∧ X1 40 0 0 = 1) ∨ ((0 ≤ x ∧ x < X 40 0 13) ∧ ¬ (0 ≤ x ∧ x < X 40 0 13 ∧ 0 ≤ k ∧ k < X 44 0 (X 55 0 x)) ∧ z = 0 ∧ X1 40 0 0 = 2) ∨ ((0 ≤ x ∧ x < X 40 0 13 ∧ 0 ≤ k ∧ k < X 44 0 (X 55 0 x)) ∧ (X 46 0 (5 * X 55 0 x + k) < 3 ∨ X 56 0 (5 * x + k) < 0) ∧ z = X 56 0 (5 * x + k) ∧ X1 40 0 0 = 0) ∨ ((0 ≤ x ∧ x < X 40 0 13 ∧ 0 ≤ k ∧ k < X 44 0 (X 55 0 x)) ∧ 3 ≤ X 46 0 (5 * X 55 0 x + k) ∧ 0 ≤ X 56 0 (5 * x + k) ∧ z = X 58 0 (X 56 0 (5 * x + k)) ∧ X1 40 0 0 = 0)))) av9 s 0 0 (frA base) := ⟨_, rfl⟩
  rw [← hQ9]
  have hi9 : ∀ w ∈ wsX90, w ∈ wsX9_at := fun w h => List.mem_cons_of_mem _ (List.mem_append_right _ h)
  have hf9 : fctx s m _ RX9 wsX9_at D tc RX9 TX9 51 9 := ⟨hts, hi9, hown, hK.1, rfl⟩
  have lk48 := hts (.fieldLink RX9 48 (TX9 15).1 (TX9 15).2.1 (TX9 15).2.2.1) (gj_X9_at_0 _ (gp_1 gp_h))
  have lk54 := hts (.fieldLink RX9 54 (TX9 17).1 (TX9 17).2.1 (TX9 17).2.2.1) (gj_X9_at_0 _ (gp_1 (gp_1 gp_h)))
  have lk145 := hts (.fieldLink RX9 145 (TX9 0).1 (TX9 0).2.1 (TX9 0).2.2.1) (gj_X9_at_0 _ (gp_h))
  have hc40 : cnt 40 = 1 := hFx.at 40 1 (by decide)
  have hc56 : cnt 56 = 1 := hFx.at 56 1 (by decide)
  have hc58 : cnt 58 = 1 := hFx.at 58 1 (by decide)
  have hl : lv_has ls 5 [(0, .ref (ad 40 0)), (1, .int (jI x)), (2, .int (jI k))] := hl
  have fstypes : 0 ≤ X 40 0 2 ∧ X 40 0 2 ≤ 8 := hR 40 0 2
  have fsthings : 0 ≤ X 40 0 13 ∧ X 40 0 13 ≤ 30 := hR 40 0 13
  have fsmarks : 0 ≤ X 40 0 20 ∧ X 40 0 20 ≤ 4 := hR 40 0 20
  have fsnotes : 0 ≤ X 40 0 22 ∧ X 40 0 22 ≤ 80 := hR 40 0 22
  refine lv_aload_n hx hb dX9_at_0 rfl (lv_at hl 0 rfl) ?_
  refine lv_iconst (v := jI 0) hx hb dX9_at_1 rfl ?_
  refine x_puti (jz := 0) hx hb hf9 ⟨tyX9_ok, nmX9⟩ hw hS (by first | exact Int.le_refl 0 | omega) (by first | exact zlt hc40 | omega) sl_40_0 rfl lk145 rfl (tyX9_ok 0 (by decide)) rfl rfl dX9_at_2 (fun H locs hw hS => ?_)
  obtain ⟨X1, hX1⟩ : ∃ Xq, Xq = u3 X 40 0 0 0 := ⟨_, rfl⟩
  rw [← hX1] at hw
  have hRX1 : Rng X1 := by rw [hX1]; exact rng_set hR (show (-2147483648) ≤ 0 ∧ 0 ≤ 2147483647 by omega)
  have hVX1 : X1 40 0 0 = 0 := by rw [hX1]; exact u3_s _ _ _ _ _
  have hFX1 : Frm [4001] X X1 := by rw [hX1]; exact Frm.set Frm.rf (show 4001 ∈ [4001] by decide)
  refine lv_aload_n hx hb dX9_at_5 rfl (lv_at hl 0 rfl) ?_
  refine lv_iload_n hx hb dX9_at_6 rfl (lv_at hl 1 rfl) ?_
  refine gos_i (run_V (As := [.int (jI x)]) (rest := []) hx hb hml hown hts (c_X9_isThing l D tc base ad cnt X1 Y ln hRX1 hFx x (by omega)) (cwV 1 hts gX9_at_X9_isThing rfl rfl rfl (by first | exact hd_X9_isThing | decide +kernel) ⟨Nat.le_of_ble_eq_true rfl, Nat.le_of_ble_eq_true rfl⟩) hK hw (by first | exact Int.le_refl 0 | omega) (by first | exact zlt hc40 | omega) sl_40_0 rfl rfl hl.1 rfl (Nat.le_of_ble_eq_true rfl) dX9_at_7 ⟨Nat.le_of_ble_eq_true rfl, Nat.le_of_ble_eq_true rfl⟩) hS (fun z2 u3 H locs p4 hw hS => ?_)
  obtain ⟨eu3, p4⟩ := p4
  subst eu3
  have e5 : X1 40 0 13 = X 40 0 13 := by rw [hX1, u3_j _ _ _ _ (by decide)]
  simp only [e5] at p4
  rcases p4 with ⟨ez2, p4⟩ | ⟨ez2, p4⟩
  · subst ez2
    refine x_if_neT (tgt := 20) hx hb (by omega) (by decide) dX9_at_10 (by decide) ?_
    refine lv_aload_n hx hb dX9_at_20 rfl (lv_at hl 0 rfl) ?_
    refine lv_iload_n hx hb dX9_at_21 rfl (lv_at hl 1 rfl) ?_
    refine lv_iload_n hx hb dX9_at_22 rfl (lv_at hl 2 rfl) ?_
    refine gos_i (run_V (As := [.int (jI x), .int (jI k)]) (rest := []) hx hb hml hown hts (c_X9_isField l D tc base ad cnt X1 Y ln hRX1 hFx x k (by omega) (by omega)) (cwV 2 hts gX9_at_X9_isField rfl rfl rfl (by first | exact hd_X9_isField | decide +kernel) ⟨Nat.le_of_ble_eq_true rfl, Nat.le_of_ble_eq_true rfl⟩) hK hw (by first | exact Int.le_refl 0 | omega) (by first | exact zlt hc40 | omega) sl_40_0 rfl rfl hl.1 rfl (Nat.le_of_ble_eq_true rfl) dX9_at_23 ⟨Nat.le_of_ble_eq_true rfl, Nat.le_of_ble_eq_true rfl⟩) hS (fun z6 u7 H locs p8 hw hS => ?_)
    obtain ⟨eu7, p8⟩ := p8
    subst eu7
    have e9 : X1 40 0 13 = X 40 0 13 := by rw [hX1, u3_j _ _ _ _ (by decide)]
    have e10 : ∀ j : Int, X1 55 0 j = X 55 0 j := fun j => by rw [hX1, u3_k _ _ _ _ (by decide)]
    have e11 : ∀ j : Int, X1 44 0 j = X 44 0 j := fun j => by rw [hX1, u3_k _ _ _ _ (by decide)]
    simp only [e9, e10, e11] at p8
    rcases p8 with ⟨ez6, p8⟩ | ⟨ez6, p8⟩
    · subst ez6
      refine x_if_neT (tgt := 36) hx hb (by omega) (by decide) dX9_at_26 (by decide) ?_
      refine lv_aload_n hx hb dX9_at_36 rfl (lv_at hl 0 rfl) ?_
      refine x_geto hx hb hf9 hw (by first | exact Int.le_refl 0 | omega) (by first | exact zlt hc40 | omega) sl_40_15 lk48 dX9_at_37 ?_
      refine lv_iconst (v := jI 5) hx hb dX9_at_40 rfl ?_
      refine lv_iload_n hx hb dX9_at_41 rfl (lv_at hl 1 rfl) ?_
      refine x_imul hx hb dX9_at_42 ?_
      refine lv_iload_n hx hb dX9_at_43 rfl (lv_at hl 2 rfl) ?_
      refine x_iadd hx hb dX9_at_44 ?_
      obtain ⟨hy1, hy2, hy3⟩ := hMI.1 x k (by omega) (by omega) (by omega) (by omega)
      refine x_lald hx hb hK.1 hw (by first | exact Int.le_refl 0 | omega) (by first | exact zlt hc56 | omega) ar_56 (len_E ar_56 (by decide)) (by omega) (by omega) (by omega) dX9_at_45 ?_
      have e12 : ∀ p9 q9 : Int, X1 56 p9 q9 = X 56 p9 q9 := fun p9 q9 => by rw [hX1, u3_k _ _ _ _ (by decide)]
      rw [e12 0 ((5 * x) + k)]
      have f13 : (-9223372036854775808) ≤ X 56 0 ((5 * x) + k) ∧ X 56 0 ((5 * x) + k) ≤ 9223372036854775807 := hR 56 0 ((5 * x) + k)
      refine lv_lstore_n (lv' := [(3, .long (jL (X 56 0 ((5 * x) + k)))), (0, .ref (ad 40 0)), (1, .int (jI x)), (2, .int (jI k))]) hx hb dX9_at_46 rfl hl (by decide) rfl (fun ls hl => ?_)
      refine lv_aload_n hx hb dX9_at_47 rfl (lv_at hl 1 rfl) ?_
      refine lv_iload_n hx hb dX9_at_48 rfl (lv_at hl 2 rfl) ?_
      refine lv_iload_n hx hb dX9_at_49 rfl (lv_at hl 3 rfl) ?_
      refine gos_i (run_V (As := [.int (jI x), .int (jI k)]) (rest := []) hx hb hml hown hts (c_X9_lane l D tc base ad cnt X1 Y ln hRX1 hFx x k (by omega) (by omega)) (cwV 2 hts gX9_at_X9_lane rfl rfl rfl (by first | exact hd_X9_lane | decide +kernel) ⟨Nat.le_of_ble_eq_true rfl, Nat.le_of_ble_eq_true rfl⟩) hK hw (by first | exact Int.le_refl 0 | omega) (by first | exact zlt hc40 | omega) sl_40_0 rfl rfl hl.1 rfl (Nat.le_of_ble_eq_true rfl) dX9_at_50 ⟨Nat.le_of_ble_eq_true rfl, Nat.le_of_ble_eq_true rfl⟩) hS (fun z14 u15 H locs p16 hw hS => ?_)
      obtain ⟨eu15, p16⟩ := p16
      subst eu15
      have e17 : ∀ j : Int, X1 55 0 j = X 55 0 j := fun j => by rw [hX1, u3_k _ _ _ _ (by decide)]
      have e18 : ∀ j : Int, X1 46 0 j = X 46 0 j := fun j => by rw [hX1, u3_k _ _ _ _ (by decide)]
      simp only [e17, e18] at p16
      refine lv_iconst (v := jI 3) hx hb dX9_at_53 rfl ?_
      refine x_icmp_lt (tgt := 63) hx hb (by omega) (by omega) dX9_at_54 (by decide) (fun c19 => ?_) (fun c19 => ?_)
      · refine lv_lload_n hx hb dX9_at_63 rfl (lv_at hl 0 rfl) ?_
        refine lv_goto (tgt := 75) hx hb dX9_at_64 (by decide) ?_
        rw [hQ9]
        refine ret_l (mc := 0) (ms := 0) hx hb hr hlocks hw hS (by first | exact Nat.le_of_ble_eq_true rfl | omega) (by first | exact Nat.le_of_ble_eq_true rfl | omega) dX9_at_75 ?_
        have q21 : Frm [4001] X X1 := by rw [hX1]; exact Frm.set Frm.rf (show 4001 ∈ [4001] by decide)
        have hMq20 : MInv X1 := minv_frm hMI q21 (by decide)
        have e22 : X1 40 0 0 = 0 := (by exact hVX1)
        exact ⟨X1, rfl, hRX1, hFX1, hMq20, by omega, (by (try delta Hid at *); first | exact Or.inr (Or.inr (Or.inl ⟨(by omega), (by omega), by omega, by omega⟩)) | exact Or.inr (Or.inr (Or.inr (⟨(by omega), by omega, by omega, by omega, by omega⟩))) | exact Or.inl ⟨(fun q => by omega), by omega, by omega⟩ | exact Or.inr (Or.inl ⟨(by omega), (fun q => by omega), by omega, by omega⟩))⟩
      · refine lv_lload_n hx hb dX9_at_57 rfl (lv_at hl 0 rfl) ?_
        refine lv_lconst (v := jL 0) hx hb dX9_at_58 (by decide) ?_
        refine x_lcmp hx hb (by omega) (by omega) dX9_at_59 ?_
        obtain ⟨z23, ez23⟩ : ∃ y : Int, y = cmpZ (X 56 0 ((5 * x) + k)) 0 := ⟨_, rfl⟩
        rw [← ez23]
        have gz23 : (z23 < 0 ↔ ((X 56 0 ((5 * x) + k)) : Int) < 0) ∧ (z23 = 0 ↔ ((X 56 0 ((5 * x) + k)) : Int) = 0) ∧ -1 ≤ z23 ∧ z23 ≤ 1 := by rw [ez23]; exact ⟨cmpZ_lt, cmpZ_eq, (cmpZ_r _ _).1, (cmpZ_r _ _).2⟩
        clear ez23
        refine x_if_ge (tgt := 67) hx hb (by omega) dX9_at_60 (by decide) (fun c24 => ?_) (fun c24 => ?_)
        · refine lv_aload_n hx hb dX9_at_67 rfl (lv_at hl 1 rfl) ?_
          refine x_geto hx hb hf9 hw (by first | exact Int.le_refl 0 | omega) (by first | exact zlt hc40 | omega) sl_40_17 lk54 dX9_at_68 ?_
          refine lv_lload_n hx hb dX9_at_71 rfl (lv_at hl 0 rfl) ?_
          refine x_l2i hx hb dX9_at_72 ?_
          refine x_iald hx hb hK.1 hw (by first | exact Int.le_refl 0 | omega) (by first | exact zlt hc58 | omega) ar_58 (len_E ar_58 (by decide)) (by omega) (by omega) (by omega) dX9_at_73 ?_
          have e25 : ∀ p9 q9 : Int, X1 58 p9 q9 = X 58 p9 q9 := fun p9 q9 => by rw [hX1, u3_k _ _ _ _ (by decide)]
          rw [e25 0 (X 56 0 ((5 * x) + k))]
          have f26 : 0 ≤ X 58 0 (X 56 0 ((5 * x) + k)) ∧ X 58 0 (X 56 0 ((5 * x) + k)) ≤ 12 := hR 58 0 (X 56 0 ((5 * x) + k))
          refine x_i2l hx hb (by omega) dX9_at_74 ?_
          rw [hQ9]
          refine ret_l (mc := 0) (ms := 0) hx hb hr hlocks hw hS (by first | exact Nat.le_of_ble_eq_true rfl | omega) (by first | exact Nat.le_of_ble_eq_true rfl | omega) dX9_at_75 ?_
          have q28 : Frm [4001] X X1 := by rw [hX1]; exact Frm.set Frm.rf (show 4001 ∈ [4001] by decide)
          have hMq27 : MInv X1 := minv_frm hMI q28 (by decide)
          have e29 : X1 40 0 0 = 0 := (by exact hVX1)
          exact ⟨X1, rfl, hRX1, hFX1, hMq27, by omega, (by (try delta Hid at *); first | exact Or.inr (Or.inr (Or.inr (⟨(by omega), by omega, by omega, by omega, by omega⟩))) | exact Or.inr (Or.inr (Or.inl ⟨(by omega), (by omega), by omega, by omega⟩)) | exact Or.inl ⟨(fun q => by omega), by omega, by omega⟩ | exact Or.inr (Or.inl ⟨(by omega), (fun q => by omega), by omega, by omega⟩))⟩
        · refine lv_lload_n hx hb dX9_at_63 rfl (lv_at hl 0 rfl) ?_
          refine lv_goto (tgt := 75) hx hb dX9_at_64 (by decide) ?_
          rw [hQ9]
          refine ret_l (mc := 0) (ms := 0) hx hb hr hlocks hw hS (by first | exact Nat.le_of_ble_eq_true rfl | omega) (by first | exact Nat.le_of_ble_eq_true rfl | omega) dX9_at_75 ?_
          have q31 : Frm [4001] X X1 := by rw [hX1]; exact Frm.set Frm.rf (show 4001 ∈ [4001] by decide)
          have hMq30 : MInv X1 := minv_frm hMI q31 (by decide)
          have e32 : X1 40 0 0 = 0 := (by exact hVX1)
          exact ⟨X1, rfl, hRX1, hFX1, hMq30, by omega, (by (try delta Hid at *); first | exact Or.inr (Or.inr (Or.inl ⟨(by omega), (by omega), by omega, by omega⟩)) | exact Or.inr (Or.inr (Or.inr (⟨(by omega), by omega, by omega, by omega, by omega⟩))) | exact Or.inl ⟨(fun q => by omega), by omega, by omega⟩ | exact Or.inr (Or.inl ⟨(by omega), (fun q => by omega), by omega, by omega⟩))⟩
    · subst ez6
      refine x_if_neF (tgt := 36) hx hb (by omega) (by decide) dX9_at_26 (by decide) ?_
      refine lv_aload_n hx hb dX9_at_29 rfl (lv_at hl 0 rfl) ?_
      refine lv_iconst (v := jI 2) hx hb dX9_at_30 rfl ?_
      refine x_puti (jz := 0) hx hb hf9 ⟨tyX9_ok, nmX9⟩ hw hS (by first | exact Int.le_refl 0 | omega) (by first | exact zlt hc40 | omega) sl_40_0 rfl lk145 rfl (tyX9_ok 0 (by decide)) rfl rfl dX9_at_31 (fun H locs hw hS => ?_)
      obtain ⟨X33, hX33⟩ : ∃ Xq, Xq = u3 X1 40 0 0 2 := ⟨_, rfl⟩
      rw [← hX33] at hw
      have hRX33 : Rng X33 := by rw [hX33]; exact rng_set hRX1 (show (-2147483648) ≤ 2 ∧ 2 ≤ 2147483647 by omega)
      have hVX33 : X33 40 0 0 = 2 := by rw [hX33]; exact u3_s _ _ _ _ _
      have hFX33 : Frm [4001] X X33 := by rw [hX33]; exact Frm.set hFX1 (show 4001 ∈ [4001] by decide)
      refine lv_lconst (v := jL 0) hx hb dX9_at_34 (by decide) ?_
      rw [hQ9]
      refine ret_l (mc := 0) (ms := 0) hx hb hr hlocks hw hS (by first | exact Nat.le_of_ble_eq_true rfl | omega) (by first | exact Nat.le_of_ble_eq_true rfl | omega) dX9_at_35 ?_
      have q35 : Frm [4001] X X1 := by rw [hX1]; exact Frm.set Frm.rf (show 4001 ∈ [4001] by decide)
      have q36 : Frm [4001] X X33 := by rw [hX33]; exact Frm.set q35 (show 4001 ∈ [4001] by decide)
      have hMq34 : MInv X33 := minv_frm hMI q36 (by decide)
      have e37 : X33 40 0 0 = 2 := (by exact hVX33)
      exact ⟨X33, rfl, hRX33, hFX33, hMq34, by omega, (by (try delta Hid at *); first | exact Or.inl ⟨(fun q => by omega), by omega, by omega⟩ | exact Or.inr (Or.inl ⟨(by omega), (fun q => by omega), by omega, by omega⟩) | exact Or.inr (Or.inr (Or.inl ⟨(by omega), (by omega), by omega, by omega⟩)) | exact Or.inr (Or.inr (Or.inr (⟨(by omega), by omega, by omega, by omega, by omega⟩))))⟩
  · subst ez2
    refine x_if_neF (tgt := 20) hx hb (by omega) (by decide) dX9_at_10 (by decide) ?_
    refine lv_aload_n hx hb dX9_at_13 rfl (lv_at hl 0 rfl) ?_
    refine lv_iconst (v := jI 1) hx hb dX9_at_14 rfl ?_
    refine x_puti (jz := 0) hx hb hf9 ⟨tyX9_ok, nmX9⟩ hw hS (by first | exact Int.le_refl 0 | omega) (by first | exact zlt hc40 | omega) sl_40_0 rfl lk145 rfl (tyX9_ok 0 (by decide)) rfl rfl dX9_at_15 (fun H locs hw hS => ?_)
    obtain ⟨X38, hX38⟩ : ∃ Xq, Xq = u3 X1 40 0 0 1 := ⟨_, rfl⟩
    rw [← hX38] at hw
    have hRX38 : Rng X38 := by rw [hX38]; exact rng_set hRX1 (show (-2147483648) ≤ 1 ∧ 1 ≤ 2147483647 by omega)
    have hVX38 : X38 40 0 0 = 1 := by rw [hX38]; exact u3_s _ _ _ _ _
    have hFX38 : Frm [4001] X X38 := by rw [hX38]; exact Frm.set hFX1 (show 4001 ∈ [4001] by decide)
    refine lv_lconst (v := jL 0) hx hb dX9_at_18 (by decide) ?_
    rw [hQ9]
    refine ret_l (mc := 0) (ms := 0) hx hb hr hlocks hw hS (by first | exact Nat.le_of_ble_eq_true rfl | omega) (by first | exact Nat.le_of_ble_eq_true rfl | omega) dX9_at_19 ?_
    have q40 : Frm [4001] X X1 := by rw [hX1]; exact Frm.set Frm.rf (show 4001 ∈ [4001] by decide)
    have q41 : Frm [4001] X X38 := by rw [hX38]; exact Frm.set q40 (show 4001 ∈ [4001] by decide)
    have hMq39 : MInv X38 := minv_frm hMI q41 (by decide)
    have e42 : X38 40 0 0 = 1 := (by exact hVX38)
    exact ⟨X38, rfl, hRX38, hFX38, hMq39, by omega, (by (try delta Hid at *); first | exact Or.inl ⟨(fun q => by omega), by omega, by omega⟩ | exact Or.inr (Or.inl ⟨(by omega), (fun q => by omega), by omega, by omega⟩) | exact Or.inr (Or.inr (Or.inl ⟨(by omega), (by omega), by omega, by omega⟩)) | exact Or.inr (Or.inr (Or.inr (⟨(by omega), by omega, by omega, by omega, by omega⟩))))⟩
