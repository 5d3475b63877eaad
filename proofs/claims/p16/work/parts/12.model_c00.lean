set_option maxHeartbeats 4000000 in
set_option maxRecDepth 100000 in
theorem c_X9_put (l : Launch) (D : va_G) (tc : Nat → ClassId) (base : Nat) (ad : Nat → Int → Nat) (cnt : Nat → Int) (X : Nat → Int → Int → Int) (Y : Nat → Int → Int → Option Int) (ln : Int → Int) (hR : Rng X) (hFx : Fx cnt) (hMI : MInv X) (x k v : Int) (hx : -2147483648 ≤ x ∧ x ≤ 2147483647) (hk : -2147483648 ≤ k ∧ k ≤ 2147483647) (hv : -9223372036854775808 ≤ v ∧ v ≤ 9223372036854775807) : KI l D tc base yX9_put wsX9_put ({ frames := 2, cells := 0, slots := 0, locals := 46 } : Room) [.ref (ad 40 0), .int (jI x), .int (jI k), .long (jL v)] (ad, cnt, X, Y, ln) 0 0 (fun z u => ∃ X1 : Nat → Int → Int → Int, u = (ad, cnt, X1, Y, ln) ∧ Rng X1 ∧ Frm [4001, 6400, 6500, 6700, 6800, 6600, 4023, 5600] X X1 ∧ MInv X1 ∧ (-2147483648 ≤ z ∧ z ≤ 2147483647) ∧ ((¬ (0 ≤ x ∧ x < X 40 0 13 ∧ 0 ≤ k ∧ k < X 44 0 (X 55 0 x)) ∧ z = -1) ∨ ((0 ≤ x ∧ x < X 40 0 13 ∧ 0 ≤ k ∧ k < X 44 0 (X 55 0 x)) ∧ 1 < X 46 0 (5 * X 55 0 x + k) ∧ z = -14) ∨ ((0 ≤ x ∧ x < X 40 0 13 ∧ 0 ≤ k ∧ k < X 44 0 (X 55 0 x)) ∧ X 46 0 (5 * X 55 0 x + k) = 1 ∧ v ≠ -1 ∧ ¬ (0 ≤ v ∧ v < 16 ∧ X 42 0 v = 0) ∧ z = -17) ∨ ((0 ≤ x ∧ x < X 40 0 13 ∧ 0 ≤ k ∧ k < X 44 0 (X 55 0 x)) ∧ X 46 0 (5 * X 55 0 x + k) ≤ 1 ∧ (X 46 0 (5 * X 55 0 x + k) = 1 → v = -1 ∨ (0 ≤ v ∧ v < 16 ∧ X 42 0 v = 0)) ∧ (0 < X 40 0 20 ∧ X 40 0 22 = 80) ∧ z = -4) ∨ ((0 ≤ x ∧ x < X 40 0 13 ∧ 0 ≤ k ∧ k < X 44 0 (X 55 0 x)) ∧ X 46 0 (5 * X 55 0 x + k) ≤ 1 ∧ (X 46 0 (5 * X 55 0 x + k) = 1 → v = -1 ∨ (0 ≤ v ∧ v < 16 ∧ X 42 0 v = 0)) ∧ (X 40 0 20 = 0 ∨ X 40 0 22 ≤ 79) ∧ z = 1)) ∧ (z < 0 → Frm [4001] X X1) ∧ (z = 1 → eNoteM X X1 x k (if 3 ≤ X 46 0 (5 * X 55 0 x + k) then X 56 0 (5 * x + k) else -1) (-1) (X 56 0 (5 * x + k)) ∧ X1 56 0 (5 * x + k) = v ∧ ∀ p, p ≠ 5 * x + k → X1 56 0 p = X 56 0 p)) := by
  refine K_of (cc := cX9_put) (maxL := 5) (ret := (some .int)) (by decide) rfl (Nat.le_of_ble_eq_true rfl) ?_
  intro p e s m below meth c ls hx hb hr hml hown hts hlocks hl hK hw hS
  have hown : s.vm.findClass RX9 = some m.cls := hown
  obtain ⟨av9, hav9⟩ : ∃ a9 : Array Value, a9 = ([.ref (ad 40 0), .int (jI x), .int (jI k), .long (jL v)] : List Value).toArray := ⟨_, rfl⟩
  rw [← hav9] at hts ⊢
  obtain ⟨Q9, hQ9⟩ : ∃ q9Q : State → Prop, q9Q = MQ below (QI D tc base (fun z u => ∃ X1 : Nat → Int → Int → Int, u = (ad, cnt, X1, Y, ln) ∧ Rng X1 ∧ Frm [4001, 6400, 6500, 6700, 6800, 6600, 4023, 5600] X X1 ∧ MInv X1 ∧ (-2147483648 ≤ z ∧ z ≤ 2147483647) ∧ ((¬ (0 ≤ x ∧ x < X 40 0 13 ∧ 0 ≤ k ∧ k < X 44 0 (X 55 0 x)) ∧ z = -1) ∨ ((0 ≤ x ∧ x < X 40 0 13 ∧ 0 ≤ k ∧ k < X 44 0 (X 55 0 x)) ∧ 1 < X 46 0 (5 * X 55 0 x + k) ∧ z = -14) ∨ ((0 ≤ x ∧ x < X 40 0 13 ∧ 0 ≤ k ∧ k < X 44 0 (X 55 0 x)) ∧ X 46 0 (5 * X 55 0 x + k) = 1 ∧ v ≠ -1 ∧ ¬ (0 ≤ v ∧ v < 16 ∧ X 42 0 v = 0) ∧ z = -17) ∨ ((0 ≤ x ∧ x < X 40 0 13 ∧ 0 ≤ k ∧ k < X 44 0 (X 55 0 x)) ∧ X 46 0 (5 * X 55 0 x + k) ≤ 1 ∧ (X 46 0 (5 * X 55 0 x + k) = 1 → v = -1 ∨ (0 ≤ v ∧ v < 16 ∧ X 42 0 v = 0)) ∧ (0 < X 40 0 20 ∧ X 40 0 22 = 80) ∧ z = -4) ∨ ((0 ≤ x ∧ x < X 40 0 13 ∧ 0 ≤ k ∧ k < X 44 0 (X 55 0 x)) ∧ X 46 0 (5 * X 55 0 x + k) ≤ 1 ∧ (X 46 0 (5 * X 55 0 x + k) = 1 → v = -1 ∨ (0 ≤ v ∧ v < 16 ∧ X 42 0 v = 0)) ∧ (X 40 0 20 = 0 ∨ X 40 0 22 ≤ 79) ∧ z = 1)) ∧ (z < 0 → Frm [4001] X X1) ∧ (z = 1 → eNoteM X X1 x k (if 3 ≤ X 46 0 (5 * X 55 0 x + k) then X 56 0 (5 * x + k) else -1) (-1) (X 56 0 (5 * x + k)) ∧ X1 56 0 (5 * x + k) = v ∧ ∀ p, p ≠ 5 * x + k → X1 56 0 p = X 56 0 p))) av9 s 0 0 (frA base) := ⟨_, rfl⟩
  rw [← hQ9]
  have hi9 : ∀ w ∈ wsX90, w ∈ wsX9_put := fun w h => List.mem_cons_of_mem _ (List.mem_append_right _ h)
  have hf9 : fctx s m _ RX9 wsX9_put D tc RX9 TX9 51 9 := ⟨hts, hi9, hown, hK.1, rfl⟩
  have lk7 := hts (.fieldLink RX9 7 (TX9 1).1 (TX9 1).2.1 (TX9 1).2.2.1) (gj_X9_put_0 _ (gp_1 (gp_1 (gp_1 gp_h))))
  have lk145 := hts (.fieldLink RX9 145 (TX9 0).1 (TX9 0).2.1 (TX9 0).2.2.1) (gj_X9_put_0 _ (gp_h))
  have hc40 : cnt 40 = 1 := hFx.at 40 1 (by decide)
  have hc42 : cnt 42 = 1 := hFx.at 42 1 (by decide)
  have hl : lv_has ls 5 [(0, .ref (ad 40 0)), (1, .int (jI x)), (2, .int (jI k)), (3, .long (jL v))] := hl
  have fstypes : 0 ≤ X 40 0 2 ∧ X 40 0 2 ≤ 8 := hR 40 0 2
  have fsthings : 0 ≤ X 40 0 13 ∧ X 40 0 13 ≤ 30 := hR 40 0 13
  have fsmarks : 0 ≤ X 40 0 20 ∧ X 40 0 20 ≤ 4 := hR 40 0 20
  have fsnotes : 0 ≤ X 40 0 22 ∧ X 40 0 22 ≤ 80 := hR 40 0 22
  refine lv_aload_n hx hb dX9_put_0 rfl (lv_at hl 0 rfl) ?_
  refine lv_iconst (v := jI 0) hx hb dX9_put_1 rfl ?_
  refine x_puti (jz := 0) hx hb hf9 ⟨tyX9_ok, nmX9⟩ hw hS (by first | exact Int.le_refl 0 | omega) (by first | exact zlt hc40 | omega) sl_40_0 rfl lk145 rfl (tyX9_ok 0 (by decide)) rfl rfl dX9_put_2 (fun H locs hw hS => ?_)
  obtain ⟨X1, hX1⟩ : ∃ Xq, Xq = u3 X 40 0 0 0 := ⟨_, rfl⟩
  rw [← hX1] at hw
  have hRX1 : Rng X1 := by rw [hX1]; exact rng_set hR (show (-2147483648) ≤ 0 ∧ 0 ≤ 2147483647 by omega)
  have hVX1 : X1 40 0 0 = 0 := by rw [hX1]; exact u3_s _ _ _ _ _
  have hFX1 : Frm [4001, 6400, 6500, 6700, 6800, 6600, 4023, 5600] X X1 := by rw [hX1]; exact Frm.set Frm.rf (show 4001 ∈ [4001, 6400, 6500, 6700, 6800, 6600, 4023, 5600] by decide)
  refine lv_aload_n hx hb dX9_put_5 rfl (lv_at hl 0 rfl) ?_
  refine lv_iload_n hx hb dX9_put_6 rfl (lv_at hl 1 rfl) ?_
  refine lv_iload_n hx hb dX9_put_7 rfl (lv_at hl 2 rfl) ?_
  refine gos_i (run_V (As := [.int (jI x), .int (jI k)]) (rest := []) hx hb hml hown hts (c_X9_isField l D tc base ad cnt X1 Y ln hRX1 hFx x k (by omega) (by omega)) (cwV 2 hts gX9_put_X9_isField rfl rfl rfl (by first | exact hd_X9_isField | decide +kernel) ⟨Nat.le_of_ble_eq_true rfl, Nat.le_of_ble_eq_true rfl⟩) hK hw (by first | exact Int.le_refl 0 | omega) (by first | exact zlt hc40 | omega) sl_40_0 rfl rfl hl.1 rfl (Nat.le_of_ble_eq_true rfl) dX9_put_8 ⟨Nat.le_of_ble_eq_true rfl, Nat.le_of_ble_eq_true rfl⟩) hS (fun z2 u3 H locs p4 hw hS => ?_)
  obtain ⟨eu3, p4⟩ := p4
  subst eu3
  have e5 : X1 40 0 13 = X 40 0 13 := by rw [hX1, u3_j _ _ _ _ (by decide)]
  have e6 : ∀ j : Int, X1 55 0 j = X 55 0 j := fun j => by rw [hX1, u3_k _ _ _ _ (by decide)]
  have e7 : ∀ j : Int, X1 44 0 j = X 44 0 j := fun j => by rw [hX1, u3_k _ _ _ _ (by decide)]
  simp only [e5, e6, e7] at p4
  rcases p4 with ⟨ez2, p4⟩ | ⟨ez2, p4⟩
  · subst ez2
    refine x_if_neT (tgt := 16) hx hb (by omega) (by decide) dX9_put_11 (by decide) ?_
    refine lv_aload_n hx hb dX9_put_16 rfl (lv_at hl 0 rfl) ?_
    refine lv_iload_n hx hb dX9_put_17 rfl (lv_at hl 1 rfl) ?_
    refine lv_iload_n hx hb dX9_put_18 rfl (lv_at hl 2 rfl) ?_
    refine gos_i (run_V (As := [.int (jI x), .int (jI k)]) (rest := []) hx hb hml hown hts (c_X9_lane l D tc base ad cnt X1 Y ln hRX1 hFx x k (by omega) (by omega)) (cwV 2 hts gX9_put_X9_lane rfl rfl rfl (by first | exact hd_X9_lane | decide +kernel) ⟨Nat.le_of_ble_eq_true rfl, Nat.le_of_ble_eq_true rfl⟩) hK hw (by first | exact Int.le_refl 0 | omega) (by first | exact zlt hc40 | omega) sl_40_0 rfl rfl hl.1 rfl (Nat.le_of_ble_eq_true rfl) dX9_put_19 ⟨Nat.le_of_ble_eq_true rfl, Nat.le_of_ble_eq_true rfl⟩) hS (fun z8 u9 H locs p10 hw hS => ?_)
    obtain ⟨eu9, p10⟩ := p10
    subst eu9
    have e11 : ∀ j : Int, X1 55 0 j = X 55 0 j := fun j => by rw [hX1, u3_k _ _ _ _ (by decide)]
    have e12 : ∀ j : Int, X1 46 0 j = X 46 0 j := fun j => by rw [hX1, u3_k _ _ _ _ (by decide)]
    simp only [e11, e12] at p10
    refine lv_iconst (v := jI 1) hx hb dX9_put_22 rfl ?_
    refine x_icmp_le (tgt := 29) hx hb (by omega) (by omega) dX9_put_23 (by decide) (fun c13 => ?_) (fun c13 => ?_)
    · refine lv_aload_n hx hb dX9_put_29 rfl (lv_at hl 0 rfl) ?_
      refine lv_iload_n hx hb dX9_put_30 rfl (lv_at hl 1 rfl) ?_
      refine lv_iload_n hx hb dX9_put_31 rfl (lv_at hl 2 rfl) ?_
      refine gos_i (run_V (As := [.int (jI x), .int (jI k)]) (rest := []) hx hb hml hown hts (c_X9_lane l D tc base ad cnt X1 Y ln hRX1 hFx x k (by omega) (by omega)) (cwV 2 hts gX9_put_X9_lane rfl rfl rfl (by first | exact hd_X9_lane | decide +kernel) ⟨Nat.le_of_ble_eq_true rfl, Nat.le_of_ble_eq_true rfl⟩) hK hw (by first | exact Int.le_refl 0 | omega) (by first | exact zlt hc40 | omega) sl_40_0 rfl rfl hl.1 rfl (Nat.le_of_ble_eq_true rfl) dX9_put_32 ⟨Nat.le_of_ble_eq_true rfl, Nat.le_of_ble_eq_true rfl⟩) hS (fun z14 u15 H locs p16 hw hS => ?_)
      obtain ⟨eu15, p16⟩ := p16
      subst eu15
      have e17 : ∀ j : Int, X1 55 0 j = X 55 0 j := fun j => by rw [hX1, u3_k _ _ _ _ (by decide)]
      have e18 : ∀ j : Int, X1 46 0 j = X 46 0 j := fun j => by rw [hX1, u3_k _ _ _ _ (by decide)]
      simp only [e17, e18] at p16
      refine lv_iconst (v := jI 1) hx hb dX9_put_35 rfl ?_
      refine x_icmp_ne (tgt := 74) hx hb (by omega) (by omega) dX9_put_36 (by decide) (fun c19 => ?_) (fun c19 => ?_)
      · refine lv_aload_n hx hb dX9_put_74 rfl (lv_at hl 0 rfl) ?_
        refine gos_i (run_V (As := []) (rest := []) hx hb hml hown hts (c_X9_isFull l D tc base ad cnt X1 Y ln hRX1 hFx) (cwV 0 hts gX9_put_X9_isFull rfl rfl rfl (by first | exact hd_X9_isFull | decide +kernel) ⟨Nat.le_of_ble_eq_true rfl, Nat.le_of_ble_eq_true rfl⟩) hK hw (by first | exact Int.le_refl 0 | omega) (by first | exact zlt hc40 | omega) sl_40_0 rfl rfl hl.1 rfl (Nat.le_of_ble_eq_true rfl) dX9_put_75 ⟨Nat.le_of_ble_eq_true rfl, Nat.le_of_ble_eq_true rfl⟩) hS (fun z20 u21 H locs p22 hw hS => ?_)
        obtain ⟨eu21, p22⟩ := p22
        subst eu21
        have e23 : X1 40 0 20 = X 40 0 20 := by rw [hX1, u3_j _ _ _ _ (by decide)]
        have e24 : X1 40 0 22 = X 40 0 22 := by rw [hX1, u3_j _ _ _ _ (by decide)]
        simp only [e23, e24] at p22
        rcases p22 with ⟨ez20, p22⟩ | ⟨ez20, p22⟩
        · subst ez20
          refine x_if_eqF (tgt := 84) hx hb (by omega) (by decide) dX9_put_78 (by decide) ?_
          refine lv_bipush (v := jI (-4)) hx hb dX9_put_81 (by decide) ?_
          rw [hQ9]
          refine ret_i (mc := 0) (ms := 0) hx hb hr hlocks hw hS (by first | exact Nat.le_of_ble_eq_true rfl | omega) (by first | exact Nat.le_of_ble_eq_true rfl | omega) dX9_put_83 ?_
          have q26 : Frm [4001] X X1 := by rw [hX1]; exact Frm.set Frm.rf (show 4001 ∈ [4001] by decide)
          have hMq25 : MInv X1 := minv_frm hMI q26 (by decide)
          have q27 : Frm [4001] X X1 := by rw [hX1]; exact Frm.set Frm.rf (show 4001 ∈ [4001] by decide)
          exact ⟨X1, rfl, hRX1, hFX1, hMq25, by omega, (by (try delta Hid at *); exact Or.inr (Or.inr (Or.inr (Or.inl ⟨(by omega), by omega, (by omega), by omega, by omega⟩)))), fun _ => q27, fun q => (by exfalso; omega)⟩
        · subst ez20
          refine x_if_eqT (tgt := 84) hx hb (by omega) (by decide) dX9_put_78 (by decide) ?_
          refine lv_aload_n hx hb dX9_put_84 rfl (lv_at hl 0 rfl) ?_
          refine lv_iload_n hx hb dX9_put_85 rfl (lv_at hl 1 rfl) ?_
          refine lv_iload_n hx hb dX9_put_86 rfl (lv_at hl 2 rfl) ?_
          refine lv_lload_n hx hb dX9_put_87 rfl (lv_at hl 3 rfl) ?_
          have q29 : Frm [4001] X X1 := by rw [hX1]; exact Frm.set Frm.rf (show 4001 ∈ [4001] by decide)
          have hMq28 : MInv X1 := minv_frm hMI q29 (by decide)
          have e30 : ∀ j : Int, X1 55 0 j = X 55 0 j := fun j => by rw [hX1, u3_k _ _ _ _ (by decide)]
          have e31 : ∀ j : Int, X1 44 0 j = X 44 0 j := fun j => by rw [hX1, u3_k _ _ _ _ (by decide)]
          have e32 : ∀ j : Int, X1 46 0 j = X 46 0 j := fun j => by rw [hX1, u3_k _ _ _ _ (by decide)]
          have e33 : X1 40 0 13 = X 40 0 13 := by rw [hX1, u3_j _ _ _ _ (by decide)]
          have e34 : X1 40 0 20 = X 40 0 20 := by rw [hX1, u3_j _ _ _ _ (by decide)]
          have e35 : X1 40 0 22 = X 40 0 22 := by rw [hX1, u3_j _ _ _ _ (by decide)]
          refine gos_v (run_V (As := [.int (jI x), .int (jI k), .long (jL v)]) (rest := []) hx hb hml hown hts (c_X9_becomes l D tc base ad cnt X1 Y ln hRX1 hFx hMq28 x k v (by omega) (by omega) (by omega) (by simp only [e30, e31, e32, e33, e34, e35]; omega) (by simp only [e30, e31, e32, e33, e34, e35]; omega) (by unfold tyv; simp only [e30, e31, e32, e33, e34, e35]; exact ⟨fun _ => by omega, fun _ => by omega, fun _ => by omega⟩) (by simp only [e30, e31, e32, e33, e34, e35]; (try simp only [Hid] at *); omega)) (cwV 3 hts gX9_put_X9_becomes rfl rfl rfl (by first | exact hd_X9_becomes | decide +kernel) ⟨Nat.le_of_ble_eq_true rfl, Nat.le_of_ble_eq_true rfl⟩) hK hw (by first | exact Int.le_refl 0 | omega) (by first | exact zlt hc40 | omega) sl_40_0 rfl rfl hl.1 rfl (Nat.le_of_ble_eq_true rfl) dX9_put_88 ⟨Nat.le_of_ble_eq_true rfl, Nat.le_of_ble_eq_true rfl⟩) hS (fun u37 H locs p38 hw hS => ?_)
          obtain ⟨X39, eu37, hRX39, hG40, hMIX39, p38, hbnX39, hbvX39, hboX39⟩ := p38
          subst eu37
          have hFX39 : Frm [4001, 6400, 6500, 6700, 6800, 6600, 4023, 5600] X X39 := Frm.tr hFX1 (Frm.mono hG40 (by decide))
          refine lv_iconst (v := jI 1) hx hb dX9_put_91 rfl ?_
          rw [hQ9]
          refine ret_i (mc := 0) (ms := 0) hx hb hr hlocks hw hS (by first | exact Nat.le_of_ble_eq_true rfl | omega) (by first | exact Nat.le_of_ble_eq_true rfl | omega) dX9_put_92 ?_
          have q41 : Frm [4001] X X1 := by rw [hX1]; exact Frm.set Frm.rf (show 4001 ∈ [4001] by decide)
          have e42 : ∀ j : Int, X1 46 0 j = X 46 0 j := fun j => by rw [hX1, u3_k _ _ _ _ (by decide)]
          have e43 : ∀ j : Int, X1 55 0 j = X 55 0 j := fun j => by rw [hX1, u3_k _ _ _ _ (by decide)]
          have e44 : ∀ j : Int, X1 56 0 j = X 56 0 j := fun j => by rw [hX1, u3_k _ _ _ _ (by decide)]
          exact ⟨X39, rfl, hRX39, hFX39, hMIX39, by omega, (by (try delta Hid at *); exact Or.inr (Or.inr (Or.inr (Or.inr (⟨(by omega), by omega, (by omega), by omega, by omega⟩))))), fun q => (by exfalso; omega), fun _ => (by simp only [e42, e43, e44] at hbnX39 hboX39; exact ⟨eNoteM.from (M := [4001]) hbnX39 q41 (by decide), hbvX39, hboX39⟩)⟩
      · refine lv_lload_n hx hb dX9_put_39 rfl (lv_at hl 3 rfl) ?_
        refine lv_ldc2 (v := jL (-1)) hx hb hown (hts (.constantLong RX9 168 (-1)) (by first | exact gj_X9_put_0 _ (gp_1 gp_h) | decide +kernel)) dX9_put_40 ?_
        refine x_lcmp hx hb (by omega) (by omega) dX9_put_43 ?_
        obtain ⟨z45, ez45⟩ : ∃ y : Int, y = cmpZ v (-1) := ⟨_, rfl⟩
        rw [← ez45]
        have gz45 : (z45 < 0 ↔ (v : Int) < (-1)) ∧ (z45 = 0 ↔ (v : Int) = (-1)) ∧ -1 ≤ z45 ∧ z45 ≤ 1 := by rw [ez45]; exact ⟨cmpZ_lt, cmpZ_eq, (cmpZ_r _ _).1, (cmpZ_r _ _).2⟩
        clear ez45
        refine x_if_eq (tgt := 74) hx hb (by omega) dX9_put_44 (by decide) (fun c46 => ?_) (fun c46 => ?_)
        · refine lv_aload_n hx hb dX9_put_74 rfl (lv_at hl 0 rfl) ?_
          refine gos_i (run_V (As := []) (rest := []) hx hb hml hown hts (c_X9_isFull l D tc base ad cnt X1 Y ln hRX1 hFx) (cwV 0 hts gX9_put_X9_isFull rfl rfl rfl (by first | exact hd_X9_isFull | decide +kernel) ⟨Nat.le_of_ble_eq_true rfl, Nat.le_of_ble_eq_true rfl⟩) hK hw (by first | exact Int.le_refl 0 | omega) (by first | exact zlt hc40 | omega) sl_40_0 rfl rfl hl.1 rfl (Nat.le_of_ble_eq_true rfl) dX9_put_75 ⟨Nat.le_of_ble_eq_true rfl, Nat.le_of_ble_eq_true rfl⟩) hS (fun z47 u48 H locs p49 hw hS => ?_)
          obtain ⟨eu48, p49⟩ := p49
          subst eu48
          have e50 : X1 40 0 20 = X 40 0 20 := by rw [hX1, u3_j _ _ _ _ (by decide)]
          have e51 : X1 40 0 22 = X 40 0 22 := by rw [hX1, u3_j _ _ _ _ (by decide)]
          simp only [e50, e51] at p49
          rcases p49 with ⟨ez47, p49⟩ | ⟨ez47, p49⟩
          · subst ez47
            refine x_if_eqF (tgt := 84) hx hb (by omega) (by decide) dX9_put_78 (by decide) ?_
            refine lv_bipush (v := jI (-4)) hx hb dX9_put_81 (by decide) ?_
            rw [hQ9]
            refine ret_i (mc := 0) (ms := 0) hx hb hr hlocks hw hS (by first | exact Nat.le_of_ble_eq_true rfl | omega) (by first | exact Nat.le_of_ble_eq_true rfl | omega) dX9_put_83 ?_
            have q53 : Frm [4001] X X1 := by rw [hX1]; exact Frm.set Frm.rf (show 4001 ∈ [4001] by decide)
            have hMq52 : MInv X1 := minv_frm hMI q53 (by decide)
            have q54 : Frm [4001] X X1 := by rw [hX1]; exact Frm.set Frm.rf (show 4001 ∈ [4001] by decide)
            exact ⟨X1, rfl, hRX1, hFX1, hMq52, by omega, (by (try delta Hid at *); exact Or.inr (Or.inr (Or.inr (Or.inl ⟨(by omega), by omega, (by omega), by omega, by omega⟩)))), fun _ => q54, fun q => (by exfalso; omega)⟩
          · subst ez47
            refine x_if_eqT (tgt := 84) hx hb (by omega) (by decide) dX9_put_78 (by decide) ?_
            refine lv_aload_n hx hb dX9_put_84 rfl (lv_at hl 0 rfl) ?_
            refine lv_iload_n hx hb dX9_put_85 rfl (lv_at hl 1 rfl) ?_
            refine lv_iload_n hx hb dX9_put_86 rfl (lv_at hl 2 rfl) ?_
            refine lv_lload_n hx hb dX9_put_87 rfl (lv_at hl 3 rfl) ?_
            have q56 : Frm [4001] X X1 := by rw [hX1]; exact Frm.set Frm.rf (show 4001 ∈ [4001] by decide)
            have hMq55 : MInv X1 := minv_frm hMI q56 (by decide)
            have e57 : ∀ j : Int, X1 55 0 j = X 55 0 j := fun j => by rw [hX1, u3_k _ _ _ _ (by decide)]
            have e58 : ∀ j : Int, X1 44 0 j = X 44 0 j := fun j => by rw [hX1, u3_k _ _ _ _ (by decide)]
            have e59 : ∀ j : Int, X1 46 0 j = X 46 0 j := fun j => by rw [hX1, u3_k _ _ _ _ (by decide)]
            have e60 : X1 40 0 13 = X 40 0 13 := by rw [hX1, u3_j _ _ _ _ (by decide)]
            have e61 : X1 40 0 20 = X 40 0 20 := by rw [hX1, u3_j _ _ _ _ (by decide)]
            have e62 : X1 40 0 22 = X 40 0 22 := by rw [hX1, u3_j _ _ _ _ (by decide)]
            refine gos_v (run_V (As := [.int (jI x), .int (jI k), .long (jL v)]) (rest := []) hx hb hml hown hts (c_X9_becomes l D tc base ad cnt X1 Y ln hRX1 hFx hMq55 x k v (by omega) (by omega) (by omega) (by simp only [e57, e58, e59, e60, e61, e62]; omega) (by simp only [e57, e58, e59, e60, e61, e62]; omega) (by unfold tyv; simp only [e57, e58, e59, e60, e61, e62]; exact ⟨fun _ => by omega, fun _ => by omega, fun _ => by omega⟩) (by simp only [e57, e58, e59, e60, e61, e62]; (try simp only [Hid] at *); omega)) (cwV 3 hts gX9_put_X9_becomes rfl rfl rfl (by first | exact hd_X9_becomes | decide +kernel) ⟨Nat.le_of_ble_eq_true rfl, Nat.le_of_ble_eq_true rfl⟩) hK hw (by first | exact Int.le_refl 0 | omega) (by first | exact zlt hc40 | omega) sl_40_0 rfl rfl hl.1 rfl (Nat.le_of_ble_eq_true rfl) dX9_put_88 ⟨Nat.le_of_ble_eq_true rfl, Nat.le_of_ble_eq_true rfl⟩) hS (fun u64 H locs p65 hw hS => ?_)
            obtain ⟨X66, eu64, hRX66, hG67, hMIX66, p65, hbnX66, hbvX66, hboX66⟩ := p65
            subst eu64
            have hFX66 : Frm [4001, 6400, 6500, 6700, 6800, 6600, 4023, 5600] X X66 := Frm.tr hFX1 (Frm.mono hG67 (by decide))
            refine lv_iconst (v := jI 1) hx hb dX9_put_91 rfl ?_
            rw [hQ9]
            refine ret_i (mc := 0) (ms := 0) hx hb hr hlocks hw hS (by first | exact Nat.le_of_ble_eq_true rfl | omega) (by first | exact Nat.le_of_ble_eq_true rfl | omega) dX9_put_92 ?_
            have q68 : Frm [4001] X X1 := by rw [hX1]; exact Frm.set Frm.rf (show 4001 ∈ [4001] by decide)
            have e69 : ∀ j : Int, X1 46 0 j = X 46 0 j := fun j => by rw [hX1, u3_k _ _ _ _ (by decide)]
            have e70 : ∀ j : Int, X1 55 0 j = X 55 0 j := fun j => by rw [hX1, u3_k _ _ _ _ (by decide)]
            have e71 : ∀ j : Int, X1 56 0 j = X 56 0 j := fun j => by rw [hX1, u3_k _ _ _ _ (by decide)]
            exact ⟨X66, rfl, hRX66, hFX66, hMIX66, by omega, (by (try delta Hid at *); exact Or.inr (Or.inr (Or.inr (Or.inr (⟨(by omega), by omega, (by omega), by omega, by omega⟩))))), fun q => (by exfalso; omega), fun _ => (by simp only [e69, e70, e71] at hbnX66 hboX66; exact ⟨eNoteM.from (M := [4001]) hbnX66 q68 (by decide), hbvX66, hboX66⟩)⟩
        · refine lv_lload_n hx hb dX9_put_47 rfl (lv_at hl 3 rfl) ?_
          refine lv_lconst (v := jL 0) hx hb dX9_put_48 (by decide) ?_
          refine x_lcmp hx hb (by omega) (by omega) dX9_put_49 ?_
          obtain ⟨z72, ez72⟩ : ∃ y : Int, y = cmpZ v 0 := ⟨_, rfl⟩
          rw [← ez72]
          have gz72 : (z72 < 0 ↔ (v : Int) < 0) ∧ (z72 = 0 ↔ (v : Int) = 0) ∧ -1 ≤ z72 ∧ z72 ≤ 1 := by rw [ez72]; exact ⟨cmpZ_lt, cmpZ_eq, (cmpZ_r _ _).1, (cmpZ_r _ _).2⟩
          clear ez72
          refine x_if_lt (tgt := 71) hx hb (by omega) dX9_put_50 (by decide) (fun c73 => ?_) (fun c73 => ?_)
          · refine lv_bipush (v := jI (-17)) hx hb dX9_put_71 (by decide) ?_
            rw [hQ9]
            refine ret_i (mc := 0) (ms := 0) hx hb hr hlocks hw hS (by first | exact Nat.le_of_ble_eq_true rfl | omega) (by first | exact Nat.le_of_ble_eq_true rfl | omega) dX9_put_73 ?_
            have q75 : Frm [4001] X X1 := by rw [hX1]; exact Frm.set Frm.rf (show 4001 ∈ [4001] by decide)
            have hMq74 : MInv X1 := minv_frm hMI q75 (by decide)
            have q76 : Frm [4001] X X1 := by rw [hX1]; exact Frm.set Frm.rf (show 4001 ∈ [4001] by decide)
            exact ⟨X1, rfl, hRX1, hFX1, hMq74, by omega, (by (try delta Hid at *); exact Or.inr (Or.inr (Or.inl ⟨(by omega), by omega, by omega, (fun q => by omega), by omega⟩))), fun _ => q76, fun q => (by exfalso; omega)⟩
          · refine lv_lload_n hx hb dX9_put_53 rfl (lv_at hl 3 rfl) ?_
            refine lv_ldc2 (v := jL 15) hx hb hown (hts (.constantLong RX9 180 (15)) (by first | exact gj_X9_put_0 _ (gp_1 (gp_1 gp_h)) | decide +kernel)) dX9_put_54 ?_
            refine x_lcmp hx hb (by omega) (by omega) dX9_put_57 ?_
            obtain ⟨z77, ez77⟩ : ∃ y : Int, y = cmpZ v 15 := ⟨_, rfl⟩
            rw [← ez77]
            have gz77 : (z77 < 0 ↔ (v : Int) < 15) ∧ (z77 = 0 ↔ (v : Int) = 15) ∧ -1 ≤ z77 ∧ z77 ≤ 1 := by rw [ez77]; exact ⟨cmpZ_lt, cmpZ_eq, (cmpZ_r _ _).1, (cmpZ_r _ _).2⟩
            clear ez77
            refine x_if_gt (tgt := 71) hx hb (by omega) dX9_put_58 (by decide) (fun c78 => ?_) (fun c78 => ?_)
            · refine lv_bipush (v := jI (-17)) hx hb dX9_put_71 (by decide) ?_
              rw [hQ9]
              refine ret_i (mc := 0) (ms := 0) hx hb hr hlocks hw hS (by first | exact Nat.le_of_ble_eq_true rfl | omega) (by first | exact Nat.le_of_ble_eq_true rfl | omega) dX9_put_73 ?_
              have q80 : Frm [4001] X X1 := by rw [hX1]; exact Frm.set Frm.rf (show 4001 ∈ [4001] by decide)
              have hMq79 : MInv X1 := minv_frm hMI q80 (by decide)
              have q81 : Frm [4001] X X1 := by rw [hX1]; exact Frm.set Frm.rf (show 4001 ∈ [4001] by decide)
              exact ⟨X1, rfl, hRX1, hFX1, hMq79, by omega, (by (try delta Hid at *); exact Or.inr (Or.inr (Or.inl ⟨(by omega), by omega, by omega, (fun q => by omega), by omega⟩))), fun _ => q81, fun q => (by exfalso; omega)⟩
            · refine lv_aload_n hx hb dX9_put_61 rfl (lv_at hl 0 rfl) ?_
              refine x_geto hx hb hf9 hw (by first | exact Int.le_refl 0 | omega) (by first | exact zlt hc40 | omega) sl_40_1 lk7 dX9_put_62 ?_
              refine lv_lload_n hx hb dX9_put_65 rfl (lv_at hl 3 rfl) ?_
              refine x_l2i hx hb dX9_put_66 ?_
              refine x_zald hx hb hK.1 hw (by first | exact Int.le_refl 0 | omega) (by first | exact zlt hc42 | omega) ar_42 (len_E ar_42 (by decide)) (by omega) (by omega) (by omega) dX9_put_67 ?_
              have e82 : ∀ p9 q9 : Int, X1 42 p9 q9 = X 42 p9 q9 := fun p9 q9 => by rw [hX1, u3_k _ _ _ _ (by decide)]
              rw [e82 0 v]
              have f83 : 0 ≤ X 42 0 v ∧ X 42 0 v ≤ 1 := hR 42 0 v
              refine x_if_eq (tgt := 74) hx hb (by omega) dX9_put_68 (by decide) (fun c84 => ?_) (fun c84 => ?_)
              · refine lv_aload_n hx hb dX9_put_74 rfl (lv_at hl 0 rfl) ?_
                refine gos_i (run_V (As := []) (rest := []) hx hb hml hown hts (c_X9_isFull l D tc base ad cnt X1 Y ln hRX1 hFx) (cwV 0 hts gX9_put_X9_isFull rfl rfl rfl (by first | exact hd_X9_isFull | decide +kernel) ⟨Nat.le_of_ble_eq_true rfl, Nat.le_of_ble_eq_true rfl⟩) hK hw (by first | exact Int.le_refl 0 | omega) (by first | exact zlt hc40 | omega) sl_40_0 rfl rfl hl.1 rfl (Nat.le_of_ble_eq_true rfl) dX9_put_75 ⟨Nat.le_of_ble_eq_true rfl, Nat.le_of_ble_eq_true rfl⟩) hS (fun z85 u86 H locs p87 hw hS => ?_)
                obtain ⟨eu86, p87⟩ := p87
                subst eu86
                have e88 : X1 40 0 20 = X 40 0 20 := by rw [hX1, u3_j _ _ _ _ (by decide)]
                have e89 : X1 40 0 22 = X 40 0 22 := by rw [hX1, u3_j _ _ _ _ (by decide)]
                simp only [e88, e89] at p87
                rcases p87 with ⟨ez85, p87⟩ | ⟨ez85, p87⟩
                · subst ez85
                  refine x_if_eqF (tgt := 84) hx hb (by omega) (by decide) dX9_put_78 (by decide) ?_
                  refine lv_bipush (v := jI (-4)) hx hb dX9_put_81 (by decide) ?_
                  rw [hQ9]
                  refine ret_i (mc := 0) (ms := 0) hx hb hr hlocks hw hS (by first | exact Nat.le_of_ble_eq_true rfl | omega) (by first | exact Nat.le_of_ble_eq_true rfl | omega) dX9_put_83 ?_
                  have q91 : Frm [4001] X X1 := by rw [hX1]; exact Frm.set Frm.rf (show 4001 ∈ [4001] by decide)
                  have hMq90 : MInv X1 := minv_frm hMI q91 (by decide)
                  have q92 : Frm [4001] X X1 := by rw [hX1]; exact Frm.set Frm.rf (show 4001 ∈ [4001] by decide)
                  exact ⟨X1, rfl, hRX1, hFX1, hMq90, by omega, (by (try delta Hid at *); exact Or.inr (Or.inr (Or.inr (Or.inl ⟨(by omega), by omega, (by omega), by omega, by omega⟩)))), fun _ => q92, fun q => (by exfalso; omega)⟩
                · subst ez85
                  refine x_if_eqT (tgt := 84) hx hb (by omega) (by decide) dX9_put_78 (by decide) ?_
                  refine lv_aload_n hx hb dX9_put_84 rfl (lv_at hl 0 rfl) ?_
                  refine lv_iload_n hx hb dX9_put_85 rfl (lv_at hl 1 rfl) ?_
                  refine lv_iload_n hx hb dX9_put_86 rfl (lv_at hl 2 rfl) ?_
                  refine lv_lload_n hx hb dX9_put_87 rfl (lv_at hl 3 rfl) ?_
                  have q94 : Frm [4001] X X1 := by rw [hX1]; exact Frm.set Frm.rf (show 4001 ∈ [4001] by decide)
                  have hMq93 : MInv X1 := minv_frm hMI q94 (by decide)
                  have e95 : ∀ j : Int, X1 55 0 j = X 55 0 j := fun j => by rw [hX1, u3_k _ _ _ _ (by decide)]
                  have e96 : ∀ j : Int, X1 44 0 j = X 44 0 j := fun j => by rw [hX1, u3_k _ _ _ _ (by decide)]
                  have e97 : ∀ j : Int, X1 46 0 j = X 46 0 j := fun j => by rw [hX1, u3_k _ _ _ _ (by decide)]
                  have e98 : X1 40 0 13 = X 40 0 13 := by rw [hX1, u3_j _ _ _ _ (by decide)]
                  have e99 : X1 40 0 20 = X 40 0 20 := by rw [hX1, u3_j _ _ _ _ (by decide)]
                  have e100 : X1 40 0 22 = X 40 0 22 := by rw [hX1, u3_j _ _ _ _ (by decide)]
                  refine gos_v (run_V (As := [.int (jI x), .int (jI k), .long (jL v)]) (rest := []) hx hb hml hown hts (c_X9_becomes l D tc base ad cnt X1 Y ln hRX1 hFx hMq93 x k v (by omega) (by omega) (by omega) (by simp only [e95, e96, e97, e98, e99, e100]; omega) (by simp only [e95, e96, e97, e98, e99, e100]; omega) (by unfold tyv; simp only [e95, e96, e97, e98, e99, e100]; exact ⟨fun _ => by omega, fun _ => by omega, fun _ => by omega⟩) (by simp only [e95, e96, e97, e98, e99, e100]; (try simp only [Hid] at *); omega)) (cwV 3 hts gX9_put_X9_becomes rfl rfl rfl (by first | exact hd_X9_becomes | decide +kernel) ⟨Nat.le_of_ble_eq_true rfl, Nat.le_of_ble_eq_true rfl⟩) hK hw (by first | exact Int.le_refl 0 | omega) (by first | exact zlt hc40 | omega) sl_40_0 rfl rfl hl.1 rfl (Nat.le_of_ble_eq_true rfl) dX9_put_88 ⟨Nat.le_of_ble_eq_true rfl, Nat.le_of_ble_eq_true rfl⟩) hS (fun u102 H locs p103 hw hS => ?_)
                  obtain ⟨X104, eu102, hRX104, hG105, hMIX104, p103, hbnX104, hbvX104, hboX104⟩ := p103
                  subst eu102
                  have hFX104 : Frm [4001, 6400, 6500, 6700, 6800, 6600, 4023, 5600] X X104 := Frm.tr hFX1 (Frm.mono hG105 (by decide))
                  refine lv_iconst (v := jI 1) hx hb dX9_put_91 rfl ?_
                  rw [hQ9]
                  refine ret_i (mc := 0) (ms := 0) hx hb hr hlocks hw hS (by first | exact Nat.le_of_ble_eq_true rfl | omega) (by first | exact Nat.le_of_ble_eq_true rfl | omega) dX9_put_92 ?_
                  have q106 : Frm [4001] X X1 := by rw [hX1]; exact Frm.set Frm.rf (show 4001 ∈ [4001] by decide)
                  have e107 : ∀ j : Int, X1 46 0 j = X 46 0 j := fun j => by rw [hX1, u3_k _ _ _ _ (by decide)]
                  have e108 : ∀ j : Int, X1 55 0 j = X 55 0 j := fun j => by rw [hX1, u3_k _ _ _ _ (by decide)]
                  have e109 : ∀ j : Int, X1 56 0 j = X 56 0 j := fun j => by rw [hX1, u3_k _ _ _ _ (by decide)]
                  exact ⟨X104, rfl, hRX104, hFX104, hMIX104, by omega, (by (try delta Hid at *); exact Or.inr (Or.inr (Or.inr (Or.inr (⟨(by omega), by omega, (by omega), by omega, by omega⟩))))), fun q => (by exfalso; omega), fun _ => (by simp only [e107, e108, e109] at hbnX104 hboX104; exact ⟨eNoteM.from (M := [4001]) hbnX104 q106 (by decide), hbvX104, hboX104⟩)⟩
              · refine lv_bipush (v := jI (-17)) hx hb dX9_put_71 (by decide) ?_
                rw [hQ9]
                refine ret_i (mc := 0) (ms := 0) hx hb hr hlocks hw hS (by first | exact Nat.le_of_ble_eq_true rfl | omega) (by first | exact Nat.le_of_ble_eq_true rfl | omega) dX9_put_73 ?_
                have q111 : Frm [4001] X X1 := by rw [hX1]; exact Frm.set Frm.rf (show 4001 ∈ [4001] by decide)
                have hMq110 : MInv X1 := minv_frm hMI q111 (by decide)
                have q112 : Frm [4001] X X1 := by rw [hX1]; exact Frm.set Frm.rf (show 4001 ∈ [4001] by decide)
                exact ⟨X1, rfl, hRX1, hFX1, hMq110, by omega, (by (try delta Hid at *); exact Or.inr (Or.inr (Or.inl ⟨(by omega), by omega, by omega, (fun q => by omega), by omega⟩))), fun _ => q112, fun q => (by exfalso; omega)⟩
    · refine lv_bipush (v := jI (-14)) hx hb dX9_put_26 (by decide) ?_
      rw [hQ9]
      refine ret_i (mc := 0) (ms := 0) hx hb hr hlocks hw hS (by first | exact Nat.le_of_ble_eq_true rfl | omega) (by first | exact Nat.le_of_ble_eq_true rfl | omega) dX9_put_28 ?_
      have q114 : Frm [4001] X X1 := by rw [hX1]; exact Frm.set Frm.rf (show 4001 ∈ [4001] by decide)
      have hMq113 : MInv X1 := minv_frm hMI q114 (by decide)
      have q115 : Frm [4001] X X1 := by rw [hX1]; exact Frm.set Frm.rf (show 4001 ∈ [4001] by decide)
      exact ⟨X1, rfl, hRX1, hFX1, hMq113, by omega, (by (try delta Hid at *); exact Or.inr (Or.inl ⟨(by omega), by omega, by omega⟩)), fun _ => q115, fun q => (by exfalso; omega)⟩
  · subst ez2
    refine x_if_neF (tgt := 16) hx hb (by omega) (by decide) dX9_put_11 (by decide) ?_
    refine lv_iconst (v := jI (-1)) hx hb dX9_put_14 rfl ?_
    rw [hQ9]
    refine ret_i (mc := 0) (ms := 0) hx hb hr hlocks hw hS (by first | exact Nat.le_of_ble_eq_true rfl | omega) (by first | exact Nat.le_of_ble_eq_true rfl | omega) dX9_put_15 ?_
    have q117 : Frm [4001] X X1 := by rw [hX1]; exact Frm.set Frm.rf (show 4001 ∈ [4001] by decide)
    have hMq116 : MInv X1 := minv_frm hMI q117 (by decide)
    have q118 : Frm [4001] X X1 := by rw [hX1]; exact Frm.set Frm.rf (show 4001 ∈ [4001] by decide)
    exact ⟨X1, rfl, hRX1, hFX1, hMq116, by omega, (by (try delta Hid at *); exact Or.inl ⟨(fun q => by omega), by omega⟩), fun _ => q118, fun q => (by exfalso; omega)⟩
