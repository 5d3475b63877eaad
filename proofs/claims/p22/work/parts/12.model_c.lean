section
set_option maxHeartbeats 4000000 in
set_option maxRecDepth 100000 in
theorem c_X9_put (l : Launch) (D : va_G) (tc : Nat → ClassId) (base : Nat) (ad : Nat → Int → Nat) (cnt : Nat → Int) (X : Nat → Int → Int → Int) (Y : Nat → Int → Int → Option Int) (ln : Int → Int) (hR : Rng X) (hFx : Fx cnt) (hMI : MInv X) (x k v : Int) (hx : -2147483648 ≤ x ∧ x ≤ 2147483647) (hk : -2147483648 ≤ k ∧ k ≤ 2147483647) (hv : -9223372036854775808 ≤ v ∧ v ≤ 9223372036854775807) : KI l D tc base yX9_put wsX9_put ({ frames := 2, cells := 0, slots := 0, locals := 46 } : Room) [.ref (ad 40 0), .int (jI x), .int (jI k), .long (jL v)] (ad, cnt, X, Y, ln) 0 0 (fun z u => ∃ X1 : Nat → Int → Int → Int, u = (ad, cnt, X1, Y, ln) ∧ Rng X1 ∧ Frm [4001, 6400, 6500, 6700, 6800, 6600, 4023, 5600] X X1 ∧ MInv X1 ∧ (-2147483648 ≤ z ∧ z ≤ 2147483647) ∧ ((¬ (0 ≤ x ∧ x < X 40 0 13 ∧ 0 ≤ k ∧ k < X 44 0 (X 55 0 x)) ∧ z = -1) ∨ ((0 ≤ x ∧ x < X 40 0 13 ∧ 0 ≤ k ∧ k < X 44 0 (X 55 0 x)) ∧ 1 < X 46 0 (5 * X 55 0 x + k) ∧ z = -14) ∨ ((0 ≤ x ∧ x < X 40 0 13 ∧ 0 ≤ k ∧ k < X 44 0 (X 55 0 x)) ∧ X 46 0 (5 * X 55 0 x + k) = 1 ∧ v ≠ -1 ∧ ¬ (0 ≤ v ∧ v < 16 ∧ X 42 0 v = 0) ∧ z = -17) ∨ ((0 ≤ x ∧ x < X 40 0 13 ∧ 0 ≤ k ∧ k < X 44 0 (X 55 0 x)) ∧ X 46 0 (5 * X 55 0 x + k) ≤ 1 ∧ (X 46 0 (5 * X 55 0 x + k) = 1 → v = -1 ∨ (0 ≤ v ∧ v < 16 ∧ X 42 0 v = 0)) ∧ (0 < X 40 0 20 ∧ X 40 0 22 = 80) ∧ z = -4) ∨ ((0 ≤ x ∧ x < X 40 0 13 ∧ 0 ≤ k ∧ k < X 44 0 (X 55 0 x)) ∧ X 46 0 (5 * X 55 0 x + k) ≤ 1 ∧ (X 46 0 (5 * X 55 0 x + k) = 1 → v = -1 ∨ (0 ≤ v ∧ v < 16 ∧ X 42 0 v = 0)) ∧ (X 40 0 20 = 0 ∨ X 40 0 22 ≤ 79) ∧ z = 1)) ∧ (z < 0 → Frm [4001] X X1) ∧ (z = 1 → eNoteM X X1 x k (if 3 ≤ X 46 0 (5 * X 55 0 x + k) then X 56 0 (5 * x + k) else -1) (-1) (X 56 0 (5 * x + k)) ∧ X1 56 0 (5 * x + k) = v ∧ ∀ p, p ≠ 5 * x + k → X1 56 0 p = X 56 0 p)) := by
  refine K_of (cc := cX9_put) (maxL := 5) (ret := (some .int)) (by decide) rfl (Nat.le_of_ble_eq_true rfl) ?_
  intro p e s m below meth c ls hx hb hr hml hown hts hlocks hl hK hw hS
  have hown : s.vm.findClass RX9 = some m.cls := hown
  obtain ⟨av9, hav9⟩ : ∃ a9 : Array Value, a9 = ([.ref (ad 40 0), .int (jI x), .int (jI k), .long (jL v)] : List Value).toArray := ⟨_, rfl⟩
  rw [← hav9] at hts ⊢
  obtain ⟨Q9, hQ9⟩ : ∃ q9Q : State → Prop, q9Q = MQ below (QI D tc base (fun z u => ∃ X1 : Nat → Int → Int → Int, u = (ad, cnt, X1, Y, ln) ∧ Rng X1 ∧ Frm [4001, 6400, 6500, 6700, 6800, 6600, 4023, 5600] X X1 ∧ MInv X1 ∧ (-2147483648 ≤ z ∧ z ≤ 2147483647) ∧ ((¬ (0 ≤ x ∧ x < X 40 0 13 ∧ 0 ≤ k ∧ k < X 44 0 (X 55 0 x)) ∧ z = -1) ∨ ((0 ≤ x ∧ x < X 40 0 13 ∧ 0 ≤ k ∧ k < X 44 0 (X 55 0 x)) ∧ 1 < X 46 0 (5 * X 55 0 x + k) ∧ z = -14) ∨ ((0 ≤ x ∧ x < X 40 0 13 ∧ 0 ≤ k ∧ k < X 44 0 (X 55 0 x)) ∧ X 46 0 (5 * X 55 0 x + k) = 1 ∧ v ≠ -1 ∧ ¬ (0 ≤ v ∧ v < 16 ∧ X 42 0 v = 0) ∧ z = -17) ∨ ((0 ≤ x ∧ x < X 40 0 13 ∧ 0 ≤ k ∧ k < X 44 0 (X 55 0 x)) ∧ X 46 0 (5 * X 55 0 x + k) ≤ 1 ∧ (X 46 0 (5 * X 55 0 x + k) = 1 → v = -1 ∨ (0 ≤ v ∧ v < 16 ∧ X 42 0 v = 0)) ∧ (0 < X 40 0 20 ∧ X 40 0 22 = 80) ∧ z = -4) ∨ ((0 ≤ x ∧ x < X 40 0 13 ∧ 0 ≤ k ∧ k < X 44 0 (X 55 0 x)) ∧ X 46 0 (5 * X 55 0 x + k) ≤ 1 ∧ (X 46 0 (5 * X 55 0 x + k) = 1 → v = -1 ∨ (0 ≤ v ∧ v < 16 ∧ X 42 0 v = 0)) ∧ (X 40 0 20 = 0 ∨ X 40 0 22 ≤ 79) ∧ z = 1)) ∧ (z < 0 → Frm [4001] X X1) ∧ (z = 1 → eNoteM X X1 x k (if 3 ≤ X 46 0 (5 * X 55 0 x + k) then X 56 0 (5 * x + k) else -1) (-1) (X 56 0 (5 * x + k)) ∧ X1 56 0 (5 * x + k) = v ∧ ∀ p, p ≠ 5 * x + k → X1 56 0 p = X 56 0 p))) av9 s 0 0 (frA base) := ⟨_, rfl⟩
  rw [← hQ9]
  have hi9 : ∀ w ∈ wsX90, w ∈ wsX9_put := fun w h => List.mem_cons_of_mem _ (List.mem_append_right _ h)
  have hf9 : fctx s m _ RX9 wsX9_put D tc RX9 TX9 51 9 := ⟨hts, hi9, hown, hK.1, rfl⟩
  have lk7 := hts (.fieldLink RX9 7 (TX9 1).1 (TX9 1).2.1 (TX9 1).2.2.1) (gj_X9_put_0 _ (gp_1 (gp_1 (gp_1 gp_h))))
  have lk145 := hts (.fieldLink RX9 145 (TX9 0).1 (TX9 0).2.1 (TX9 0).2.2.1) (gj_X9_put_0 _ (gp_h))
  have hc40 : cnt 40 = 1 := hFx.at 40 1 (by decide)
  have hc42 : cnt 42 = 1 := hFx.at 42 1 (by decide)
  have hl : lv_has ls 5 [(0, .ref (ad 40 0)), (1, .int (jI x)), (2, .int (jI k)), (3, .long (jL v))] := hl
  have fstypes : 0 ≤ X 40 0 2 ∧ X 40 0 2 ≤ 8 := hR 40 0 2
  have fsthings : 0 ≤ X 40 0 13 ∧ X 40 0 13 ≤ 30 := hR 40 0 13
  have fsmarks : 0 ≤ X 40 0 20 ∧ X 40 0 20 ≤ 4 := hR 40 0 20
  have fsnotes : 0 ≤ X 40 0 22 ∧ X 40 0 22 ≤ 80 := hR 40 0 22
  refine lv_aload_n hx hb dX9_put_0 rfl (lv_at hl 0 rfl) ?_
  refine lv_iconst (v := jI 0) hx hb dX9_put_1 rfl ?_
  refine x_puti (jz := 0) hx hb hf9 ⟨tyX9_ok, nmX9⟩ hw hS (by first | exact Int.le_refl 0 | omega) (by first | exact zlt hc40 | omega) sl_40_0 rfl lk145 rfl (tyX9_ok 0 (by decide)) rfl rfl dX9_put_2 (fun H locs hw hS => ?_)
  obtain ⟨X1, hX1⟩ : ∃ Xq, Xq = u3 X 40 0 0 0 := ⟨_, rfl⟩
  rw [← hX1] at hw
  have hRX1 : Rng X1 := by rw [hX1]; exact rng_set hR (show (-2147483648) ≤ 0 ∧ 0 ≤ 2147483647 by omega)
  have hVX1 : X1 40 0 0 = 0 := by rw [hX1]; exact u3_s _ _ _ _ _
  have hFX1 : Frm [4001, 6400, 6500, 6700, 6800, 6600, 4023, 5600] X X1 := by rw [hX1]; exact Frm.set Frm.rf (show 4001 ∈ [4001, 6400, 6500, 6700, 6800, 6600, 4023, 5600] by first | exact nlm_in rfl | decide)
  refine lv_aload_n hx hb dX9_put_5 rfl (lv_at hl 0 rfl) ?_
  refine lv_iload_n hx hb dX9_put_6 rfl (lv_at hl 1 rfl) ?_
  refine lv_iload_n hx hb dX9_put_7 rfl (lv_at hl 2 rfl) ?_
  refine gos_i (run_V (As := [.int (jI x), .int (jI k)]) (rest := []) hx hb hml hown hts (c_X9_isField l D tc base ad cnt X1 Y ln hRX1 hFx x k (by omega) (by omega)) (cwV 2 hts gX9_put_X9_isField rfl rfl rfl (by first | exact hd_X9_isField | decide +kernel) ⟨Nat.le_of_ble_eq_true rfl, Nat.le_of_ble_eq_true rfl⟩) hK hw (by first | exact Int.le_refl 0 | omega) (by first | exact zlt hc40 | omega) sl_40_0 rfl rfl hl.1 rfl (Nat.le_of_ble_eq_true rfl) dX9_put_8 ⟨Nat.le_of_ble_eq_true rfl, Nat.le_of_ble_eq_true rfl⟩) hS (fun z2 u3 H locs p4 hw hS => ?_)
  obtain ⟨eu3, p4⟩ := p4
  subst eu3
  have e5 : X1 40 0 13 = X 40 0 13 := by rw [hX1, u3_j _ _ _ _ (by decide)]
  have e6 : ∀ j : Int, X1 55 0 j = X 55 0 j := fun j => by rw [hX1, u3_k _ _ _ _ (by first | exact Nat.ne_of_beq_eq_false rfl | decide)]
  have e7 : ∀ j : Int, X1 44 0 j = X 44 0 j := fun j => by rw [hX1, u3_k _ _ _ _ (by first | exact Nat.ne_of_beq_eq_false rfl | decide)]
  simp only [e5, e6, e7] at p4
  have q900007 : Frm [4001] X X1 := by rw [hX1]; exact Frm.set Frm.rf (show 4001 ∈ [4001] by first | exact nlm_in rfl | decide)
  rcases p4 with ⟨ez2, p4⟩ | ⟨ez2, p4⟩
  · subst ez2
    refine x_if_neT (tgt := 16) hx hb (by omega) (by decide) dX9_put_11 (by decide) ?_
    refine lv_aload_n hx hb dX9_put_16 rfl (lv_at hl 0 rfl) ?_
    refine lv_iload_n hx hb dX9_put_17 rfl (lv_at hl 1 rfl) ?_
    refine lv_iload_n hx hb dX9_put_18 rfl (lv_at hl 2 rfl) ?_
    refine gos_i (run_V (As := [.int (jI x), .int (jI k)]) (rest := []) hx hb hml hown hts (c_X9_lane l D tc base ad cnt X1 Y ln hRX1 hFx x k (by omega) (by omega)) (cwV 2 hts gX9_put_X9_lane rfl rfl rfl (by first | exact hd_X9_lane | decide +kernel) ⟨Nat.le_of_ble_eq_true rfl, Nat.le_of_ble_eq_true rfl⟩) hK hw (by first | exact Int.le_refl 0 | omega) (by first | exact zlt hc40 | omega) sl_40_0 rfl rfl hl.1 rfl (Nat.le_of_ble_eq_true rfl) dX9_put_19 ⟨Nat.le_of_ble_eq_true rfl, Nat.le_of_ble_eq_true rfl⟩) hS (fun z8 u9 H locs p10 hw hS => ?_)
    obtain ⟨eu9, p10⟩ := p10
    subst eu9
    have e11 : ∀ j : Int, X1 55 0 j = X 55 0 j := fun j => by rw [hX1, u3_k _ _ _ _ (by first | exact Nat.ne_of_beq_eq_false rfl | decide)]
    have e12 : ∀ j : Int, X1 46 0 j = X 46 0 j := fun j => by rw [hX1, u3_k _ _ _ _ (by first | exact Nat.ne_of_beq_eq_false rfl | decide)]
    simp only [e11, e12] at p10
    refine lv_iconst (v := jI 1) hx hb dX9_put_22 rfl ?_
    refine x_icmp_le (tgt := 29) hx hb (by omega) (by omega) dX9_put_23 (by decide) (fun c13 => ?_) (fun c13 => ?_)
    · refine lv_aload_n hx hb dX9_put_29 rfl (lv_at hl 0 rfl) ?_
      refine lv_iload_n hx hb dX9_put_30 rfl (lv_at hl 1 rfl) ?_
      refine lv_iload_n hx hb dX9_put_31 rfl (lv_at hl 2 rfl) ?_
      refine gos_i (run_V (As := [.int (jI x), .int (jI k)]) (rest := []) hx hb hml hown hts (c_X9_lane l D tc base ad cnt X1 Y ln hRX1 hFx x k (by omega) (by omega)) (cwV 2 hts gX9_put_X9_lane rfl rfl rfl (by first | exact hd_X9_lane | decide +kernel) ⟨Nat.le_of_ble_eq_true rfl, Nat.le_of_ble_eq_true rfl⟩) hK hw (by first | exact Int.le_refl 0 | omega) (by first | exact zlt hc40 | omega) sl_40_0 rfl rfl hl.1 rfl (Nat.le_of_ble_eq_true rfl) dX9_put_32 ⟨Nat.le_of_ble_eq_true rfl, Nat.le_of_ble_eq_true rfl⟩) hS (fun z14 u15 H locs p16 hw hS => ?_)
      obtain ⟨eu15, p16⟩ := p16
      subst eu15
      have e17 : ∀ j : Int, X1 55 0 j = X 55 0 j := fun j => by rw [hX1, u3_k _ _ _ _ (by first | exact Nat.ne_of_beq_eq_false rfl | decide)]
      have e18 : ∀ j : Int, X1 46 0 j = X 46 0 j := fun j => by rw [hX1, u3_k _ _ _ _ (by first | exact Nat.ne_of_beq_eq_false rfl | decide)]
      simp only [e17, e18] at p16
      refine lv_iconst (v := jI 1) hx hb dX9_put_35 rfl ?_
      have q900001 : X1 40 0 13 = X 40 0 13 := by rw [hX1, u3_j _ _ _ _ (by decide)]
      have q900002 : X1 40 0 20 = X 40 0 20 := by rw [hX1, u3_j _ _ _ _ (by decide)]
      have q900003 : X1 40 0 22 = X 40 0 22 := by rw [hX1, u3_j _ _ _ _ (by decide)]
      refine x_icmp_ne (tgt := 74) hx hb (by omega) (by omega) dX9_put_36 (by decide) (fun c19 => ?_) (fun c19 => ?_)
      · refine lv_aload_n hx hb dX9_put_74 rfl (lv_at hl 0 rfl) ?_
        refine gos_i (run_V (As := []) (rest := []) hx hb hml hown hts (c_X9_isFull l D tc base ad cnt X1 Y ln hRX1 hFx) (cwV 0 hts gX9_put_X9_isFull rfl rfl rfl (by first | exact hd_X9_isFull | decide +kernel) ⟨Nat.le_of_ble_eq_true rfl, Nat.le_of_ble_eq_true rfl⟩) hK hw (by first | exact Int.le_refl 0 | omega) (by first | exact zlt hc40 | omega) sl_40_0 rfl rfl hl.1 rfl (Nat.le_of_ble_eq_true rfl) dX9_put_75 ⟨Nat.le_of_ble_eq_true rfl, Nat.le_of_ble_eq_true rfl⟩) hS (fun z20 u21 H locs p22 hw hS => ?_)
        obtain ⟨eu21, p22⟩ := p22
        subst eu21
        simp only [q900002, q900003] at p22
        rcases p22 with ⟨ez20, p22⟩ | ⟨ez20, p22⟩
        · subst ez20
          refine x_if_eqF (tgt := 84) hx hb (by omega) (by decide) dX9_put_78 (by decide) ?_
          refine lv_bipush (v := jI (-4)) hx hb dX9_put_81 (by decide) ?_
          rw [hQ9]
          refine ret_i (mc := 0) (ms := 0) hx hb hr hlocks hw hS (by first | exact Nat.le_of_ble_eq_true rfl | omega) (by first | exact Nat.le_of_ble_eq_true rfl | omega) dX9_put_83 ?_
          have hMq25 : MInv X1 := minv_frm hMI q900007 (by decide)
          exact ⟨X1, rfl, hRX1, hFX1, hMq25, by omega, (by (try delta Hid at *); exact Or.inr (Or.inr (Or.inr (Or.inl ⟨(by omega), by omega, (by omega), by omega, by omega⟩)))), fun _ => q900007, fun q => (by exfalso; omega)⟩
        · subst ez20
          refine x_if_eqT (tgt := 84) hx hb (by omega) (by decide) dX9_put_78 (by decide) ?_
          refine lv_aload_n hx hb dX9_put_84 rfl (lv_at hl 0 rfl) ?_
          refine lv_iload_n hx hb dX9_put_85 rfl (lv_at hl 1 rfl) ?_
          refine lv_iload_n hx hb dX9_put_86 rfl (lv_at hl 2 rfl) ?_
          refine lv_lload_n hx hb dX9_put_87 rfl (lv_at hl 3 rfl) ?_
          have hMq28 : MInv X1 := minv_frm hMI q900007 (by decide)
          have e30 : ∀ j : Int, X1 55 0 j = X 55 0 j := fun j => by rw [hX1, u3_k _ _ _ _ (by first | exact Nat.ne_of_beq_eq_false rfl | decide)]
          have e31 : ∀ j : Int, X1 44 0 j = X 44 0 j := fun j => by rw [hX1, u3_k _ _ _ _ (by first | exact Nat.ne_of_beq_eq_false rfl | decide)]
          have e32 : ∀ j : Int, X1 46 0 j = X 46 0 j := fun j => by rw [hX1, u3_k _ _ _ _ (by first | exact Nat.ne_of_beq_eq_false rfl | decide)]
          refine gos_v (run_V (As := [.int (jI x), .int (jI k), .long (jL v)]) (rest := []) hx hb hml hown hts (c_X9_becomes l D tc base ad cnt X1 Y ln hRX1 hFx hMq28 x k v (by omega) (by omega) (by omega) (by simp only [e30, e31, e32, q900001, q900002, q900003]; omega) (by simp only [e30, e31, e32, q900001, q900002, q900003]; omega) (by unfold tyv; simp only [e30, e31, e32, q900001, q900002, q900003]; exact ⟨fun _ => by omega, fun _ => by omega, fun _ => by omega⟩) (by simp only [e30, e31, e32, q900001, q900002, q900003]; (try simp only [Hid] at *); omega)) (cwV 3 hts gX9_put_X9_becomes rfl rfl rfl (by first | exact hd_X9_becomes | decide +kernel) ⟨Nat.le_of_ble_eq_true rfl, Nat.le_of_ble_eq_true rfl⟩) hK hw (by first | exact Int.le_refl 0 | omega) (by first | exact zlt hc40 | omega) sl_40_0 rfl rfl hl.1 rfl (Nat.le_of_ble_eq_true rfl) dX9_put_88 ⟨Nat.le_of_ble_eq_true rfl, Nat.le_of_ble_eq_true rfl⟩) hS (fun u37 H locs p38 hw hS => ?_)
          obtain ⟨X39, eu37, hRX39, hG40, hMIX39, p38, hbnX39, hbvX39, hboX39⟩ := p38
          subst eu37
          have hFX39 : Frm [4001, 6400, 6500, 6700, 6800, 6600, 4023, 5600] X X39 := Frm.tr hFX1 (Frm.mono hG40 (by first | exact nls_of rfl | decide))
          refine lv_iconst (v := jI 1) hx hb dX9_put_91 rfl ?_
          rw [hQ9]
          refine ret_i (mc := 0) (ms := 0) hx hb hr hlocks hw hS (by first | exact Nat.le_of_ble_eq_true rfl | omega) (by first | exact Nat.le_of_ble_eq_true rfl | omega) dX9_put_92 ?_
          have e42 : ∀ j : Int, X1 46 0 j = X 46 0 j := fun j => by rw [hX1, u3_k _ _ _ _ (by first | exact Nat.ne_of_beq_eq_false rfl | decide)]
          have e43 : ∀ j : Int, X1 55 0 j = X 55 0 j := fun j => by rw [hX1, u3_k _ _ _ _ (by first | exact Nat.ne_of_beq_eq_false rfl | decide)]
          have e44 : ∀ j : Int, X1 56 0 j = X 56 0 j := fun j => by rw [hX1, u3_k _ _ _ _ (by first | exact Nat.ne_of_beq_eq_false rfl | decide)]
          exact ⟨X39, rfl, hRX39, hFX39, hMIX39, by omega, (by (try delta Hid at *); exact Or.inr (Or.inr (Or.inr (Or.inr (⟨(by omega), by omega, (by omega), by omega, by omega⟩))))), fun q => (by exfalso; omega), fun _ => (by simp only [e42, e43, e44] at hbnX39 hboX39; exact ⟨eNoteM.from (M := [4001]) hbnX39 q900007 (by decide), hbvX39, hboX39⟩)⟩
      · refine lv_lload_n hx hb dX9_put_39 rfl (lv_at hl 3 rfl) ?_
        refine lv_ldc2 (v := jL (-1)) hx hb hown (hts (.constantLong RX9 168 (-1)) (by first | exact gj_X9_put_0 _ (gp_1 gp_h) | decide +kernel)) dX9_put_40 ?_
        refine x_lcmp hx hb (by omega) (by omega) dX9_put_43 ?_
        obtain ⟨z45, ez45⟩ : ∃ y : Int, y = cmpZ v (-1) := ⟨_, rfl⟩
        rw [← ez45]
        have gz45 : (z45 < 0 ↔ (v : Int) < (-1)) ∧ (z45 = 0 ↔ (v : Int) = (-1)) ∧ -1 ≤ z45 ∧ z45 ≤ 1 := by rw [ez45]; exact ⟨cmpZ_lt, cmpZ_eq, (cmpZ_r _ _).1, (cmpZ_r _ _).2⟩
        clear ez45
        refine x_if_eq (tgt := 74) hx hb (by omega) dX9_put_44 (by decide) (fun c46 => ?_) (fun c46 => ?_)
        · replace c46 := cz_eqT gz45 c46
          clear gz45
          refine lv_aload_n hx hb dX9_put_74 rfl (lv_at hl 0 rfl) ?_
          refine gos_i (run_V (As := []) (rest := []) hx hb hml hown hts (c_X9_isFull l D tc base ad cnt X1 Y ln hRX1 hFx) (cwV 0 hts gX9_put_X9_isFull rfl rfl rfl (by first | exact hd_X9_isFull | decide +kernel) ⟨Nat.le_of_ble_eq_true rfl, Nat.le_of_ble_eq_true rfl⟩) hK hw (by first | exact Int.le_refl 0 | omega) (by first | exact zlt hc40 | omega) sl_40_0 rfl rfl hl.1 rfl (Nat.le_of_ble_eq_true rfl) dX9_put_75 ⟨Nat.le_of_ble_eq_true rfl, Nat.le_of_ble_eq_true rfl⟩) hS (fun z47 u48 H locs p49 hw hS => ?_)
          obtain ⟨eu48, p49⟩ := p49
          subst eu48
          simp only [q900002, q900003] at p49
          rcases p49 with ⟨ez47, p49⟩ | ⟨ez47, p49⟩
          · subst ez47
            refine x_if_eqF (tgt := 84) hx hb (by omega) (by decide) dX9_put_78 (by decide) ?_
            refine lv_bipush (v := jI (-4)) hx hb dX9_put_81 (by decide) ?_
            rw [hQ9]
            refine ret_i (mc := 0) (ms := 0) hx hb hr hlocks hw hS (by first | exact Nat.le_of_ble_eq_true rfl | omega) (by first | exact Nat.le_of_ble_eq_true rfl | omega) dX9_put_83 ?_
            have hMq52 : MInv X1 := minv_frm hMI q900007 (by decide)
            exact ⟨X1, rfl, hRX1, hFX1, hMq52, by omega, (by (try delta Hid at *); exact Or.inr (Or.inr (Or.inr (Or.inl ⟨(by omega), by omega, (by omega), by omega, by omega⟩)))), fun _ => q900007, fun q => (by exfalso; omega)⟩
          · subst ez47
            refine x_if_eqT (tgt := 84) hx hb (by omega) (by decide) dX9_put_78 (by decide) ?_
            refine lv_aload_n hx hb dX9_put_84 rfl (lv_at hl 0 rfl) ?_
            refine lv_iload_n hx hb dX9_put_85 rfl (lv_at hl 1 rfl) ?_
            refine lv_iload_n hx hb dX9_put_86 rfl (lv_at hl 2 rfl) ?_
            refine lv_lload_n hx hb dX9_put_87 rfl (lv_at hl 3 rfl) ?_
            have hMq55 : MInv X1 := minv_frm hMI q900007 (by decide)
            have e57 : ∀ j : Int, X1 55 0 j = X 55 0 j := fun j => by rw [hX1, u3_k _ _ _ _ (by first | exact Nat.ne_of_beq_eq_false rfl | decide)]
            have e58 : ∀ j : Int, X1 44 0 j = X 44 0 j := fun j => by rw [hX1, u3_k _ _ _ _ (by first | exact Nat.ne_of_beq_eq_false rfl | decide)]
            have e59 : ∀ j : Int, X1 46 0 j = X 46 0 j := fun j => by rw [hX1, u3_k _ _ _ _ (by first | exact Nat.ne_of_beq_eq_false rfl | decide)]
            refine gos_v (run_V (As := [.int (jI x), .int (jI k), .long (jL v)]) (rest := []) hx hb hml hown hts (c_X9_becomes l D tc base ad cnt X1 Y ln hRX1 hFx hMq55 x k v (by omega) (by omega) (by omega) (by simp only [e57, e58, e59, q900001, q900002, q900003]; omega) (by simp only [e57, e58, e59, q900001, q900002, q900003]; omega) (by unfold tyv; simp only [e57, e58, e59, q900001, q900002, q900003]; exact ⟨fun _ => by omega, fun _ => by omega, fun _ => by omega⟩) (by simp only [e57, e58, e59, q900001, q900002, q900003]; (try simp only [Hid] at *); omega)) (cwV 3 hts gX9_put_X9_becomes rfl rfl rfl (by first | exact hd_X9_becomes | decide +kernel) ⟨Nat.le_of_ble_eq_true rfl, Nat.le_of_ble_eq_true rfl⟩) hK hw (by first | exact Int.le_refl 0 | omega) (by first | exact zlt hc40 | omega) sl_40_0 rfl rfl hl.1 rfl (Nat.le_of_ble_eq_true rfl) dX9_put_88 ⟨Nat.le_of_ble_eq_true rfl, Nat.le_of_ble_eq_true rfl⟩) hS (fun u64 H locs p65 hw hS => ?_)
            obtain ⟨X66, eu64, hRX66, hG67, hMIX66, p65, hbnX66, hbvX66, hboX66⟩ := p65
            subst eu64
            have hFX66 : Frm [4001, 6400, 6500, 6700, 6800, 6600, 4023, 5600] X X66 := Frm.tr hFX1 (Frm.mono hG67 (by first | exact nls_of rfl | decide))
            refine lv_iconst (v := jI 1) hx hb dX9_put_91 rfl ?_
            rw [hQ9]
            refine ret_i (mc := 0) (ms := 0) hx hb hr hlocks hw hS (by first | exact Nat.le_of_ble_eq_true rfl | omega) (by first | exact Nat.le_of_ble_eq_true rfl | omega) dX9_put_92 ?_
            have e69 : ∀ j : Int, X1 46 0 j = X 46 0 j := fun j => by rw [hX1, u3_k _ _ _ _ (by first | exact Nat.ne_of_beq_eq_false rfl | decide)]
            have e70 : ∀ j : Int, X1 55 0 j = X 55 0 j := fun j => by rw [hX1, u3_k _ _ _ _ (by first | exact Nat.ne_of_beq_eq_false rfl | decide)]
            have e71 : ∀ j : Int, X1 56 0 j = X 56 0 j := fun j => by rw [hX1, u3_k _ _ _ _ (by first | exact Nat.ne_of_beq_eq_false rfl | decide)]
            exact ⟨X66, rfl, hRX66, hFX66, hMIX66, by omega, (by (try delta Hid at *); exact Or.inr (Or.inr (Or.inr (Or.inr (⟨(by omega), by omega, (by omega), by omega, by omega⟩))))), fun q => (by exfalso; omega), fun _ => (by simp only [e69, e70, e71] at hbnX66 hboX66; exact ⟨eNoteM.from (M := [4001]) hbnX66 q900007 (by decide), hbvX66, hboX66⟩)⟩
        · replace c46 := cz_eqF gz45 c46
          clear gz45
          refine lv_lload_n hx hb dX9_put_47 rfl (lv_at hl 3 rfl) ?_
          refine lv_lconst (v := jL 0) hx hb dX9_put_48 (by decide) ?_
          refine x_lcmp hx hb (by omega) (by omega) dX9_put_49 ?_
          obtain ⟨z72, ez72⟩ : ∃ y : Int, y = cmpZ v 0 := ⟨_, rfl⟩
          rw [← ez72]
          have gz72 : (z72 < 0 ↔ (v : Int) < 0) ∧ (z72 = 0 ↔ (v : Int) = 0) ∧ -1 ≤ z72 ∧ z72 ≤ 1 := by rw [ez72]; exact ⟨cmpZ_lt, cmpZ_eq, (cmpZ_r _ _).1, (cmpZ_r _ _).2⟩
          clear ez72
          refine x_if_lt (tgt := 71) hx hb (by omega) dX9_put_50 (by decide) (fun c73 => ?_) (fun c73 => ?_)
          · replace c73 := cz_ltT gz72 c73
            clear gz72
            refine lv_bipush (v := jI (-17)) hx hb dX9_put_71 (by decide) ?_
            rw [hQ9]
            refine ret_i (mc := 0) (ms := 0) hx hb hr hlocks hw hS (by first | exact Nat.le_of_ble_eq_true rfl | omega) (by first | exact Nat.le_of_ble_eq_true rfl | omega) dX9_put_73 ?_
            have hMq74 : MInv X1 := minv_frm hMI q900007 (by decide)
            exact ⟨X1, rfl, hRX1, hFX1, hMq74, by omega, (by (try delta Hid at *); exact Or.inr (Or.inr (Or.inl ⟨(by omega), by omega, by omega, (fun q => by omega), by omega⟩))), fun _ => q900007, fun q => (by exfalso; omega)⟩
          · replace c73 := cz_ltF gz72 c73
            clear gz72
            refine lv_lload_n hx hb dX9_put_53 rfl (lv_at hl 3 rfl) ?_
            refine lv_ldc2 (v := jL 15) hx hb hown (hts (.constantLong RX9 180 (15)) (by first | exact gj_X9_put_0 _ (gp_1 (gp_1 gp_h)) | decide +kernel)) dX9_put_54 ?_
            refine x_lcmp hx hb (by omega) (by omega) dX9_put_57 ?_
            obtain ⟨z77, ez77⟩ : ∃ y : Int, y = cmpZ v 15 := ⟨_, rfl⟩
            rw [← ez77]
            have gz77 : (z77 < 0 ↔ (v : Int) < 15) ∧ (z77 = 0 ↔ (v : Int) = 15) ∧ -1 ≤ z77 ∧ z77 ≤ 1 := by rw [ez77]; exact ⟨cmpZ_lt, cmpZ_eq, (cmpZ_r _ _).1, (cmpZ_r _ _).2⟩
            clear ez77
            refine x_if_gt (tgt := 71) hx hb (by omega) dX9_put_58 (by decide) (fun c78 => ?_) (fun c78 => ?_)
            · replace c78 := cz_gtT gz77 c78
              clear gz77
              refine lv_bipush (v := jI (-17)) hx hb dX9_put_71 (by decide) ?_
              rw [hQ9]
              refine ret_i (mc := 0) (ms := 0) hx hb hr hlocks hw hS (by first | exact Nat.le_of_ble_eq_true rfl | omega) (by first | exact Nat.le_of_ble_eq_true rfl | omega) dX9_put_73 ?_
              have hMq79 : MInv X1 := minv_frm hMI q900007 (by decide)
              exact ⟨X1, rfl, hRX1, hFX1, hMq79, by omega, (by (try delta Hid at *); exact Or.inr (Or.inr (Or.inl ⟨(by omega), by omega, by omega, (fun q => by omega), by omega⟩))), fun _ => q900007, fun q => (by exfalso; omega)⟩
            · replace c78 := cz_gtF gz77 c78
              clear gz77
              refine lv_aload_n hx hb dX9_put_61 rfl (lv_at hl 0 rfl) ?_
              refine x_geto hx hb hf9 hw (by first | exact Int.le_refl 0 | omega) (by first | exact zlt hc40 | omega) sl_40_1 lk7 dX9_put_62 ?_
              refine lv_lload_n hx hb dX9_put_65 rfl (lv_at hl 3 rfl) ?_
              refine x_l2i hx hb dX9_put_66 ?_
              refine x_zald hx hb hK.1 hw (by first | exact Int.le_refl 0 | omega) (by first | exact zlt hc42 | omega) ar_42 (len_E ar_42 (by first | exact Nat.ne_of_beq_eq_false rfl | decide)) (by omega) (by omega) (by omega) dX9_put_67 ?_
              have e82 : ∀ p9 q9 : Int, X1 42 p9 q9 = X 42 p9 q9 := fun p9 q9 => by rw [hX1, u3_k _ _ _ _ (by first | exact Nat.ne_of_beq_eq_false rfl | decide)]
              rw [e82 0 v]
              have f83 : 0 ≤ X 42 0 v ∧ X 42 0 v ≤ 1 := hR 42 0 v
              refine x_if_eq (tgt := 74) hx hb (by omega) dX9_put_68 (by decide) (fun c84 => ?_) (fun c84 => ?_)
              · refine lv_aload_n hx hb dX9_put_74 rfl (lv_at hl 0 rfl) ?_
                refine gos_i (run_V (As := []) (rest := []) hx hb hml hown hts (c_X9_isFull l D tc base ad cnt X1 Y ln hRX1 hFx) (cwV 0 hts gX9_put_X9_isFull rfl rfl rfl (by first | exact hd_X9_isFull | decide +kernel) ⟨Nat.le_of_ble_eq_true rfl, Nat.le_of_ble_eq_true rfl⟩) hK hw (by first | exact Int.le_refl 0 | omega) (by first | exact zlt hc40 | omega) sl_40_0 rfl rfl hl.1 rfl (Nat.le_of_ble_eq_true rfl) dX9_put_75 ⟨Nat.le_of_ble_eq_true rfl, Nat.le_of_ble_eq_true rfl⟩) hS (fun z85 u86 H locs p87 hw hS => ?_)
                obtain ⟨eu86, p87⟩ := p87
                subst eu86
                simp only [q900002, q900003] at p87
                rcases p87 with ⟨ez85, p87⟩ | ⟨ez85, p87⟩
                · subst ez85
                  refine x_if_eqF (tgt := 84) hx hb (by omega) (by decide) dX9_put_78 (by decide) ?_
                  refine lv_bipush (v := jI (-4)) hx hb dX9_put_81 (by decide) ?_
                  rw [hQ9]
                  refine ret_i (mc := 0) (ms := 0) hx hb hr hlocks hw hS (by first | exact Nat.le_of_ble_eq_true rfl | omega) (by first | exact Nat.le_of_ble_eq_true rfl | omega) dX9_put_83 ?_
                  have hMq90 : MInv X1 := minv_frm hMI q900007 (by decide)
                  exact ⟨X1, rfl, hRX1, hFX1, hMq90, by omega, (by (try delta Hid at *); exact Or.inr (Or.inr (Or.inr (Or.inl ⟨(by omega), by omega, (by omega), by omega, by omega⟩)))), fun _ => q900007, fun q => (by exfalso; omega)⟩
                · subst ez85
                  refine x_if_eqT (tgt := 84) hx hb (by omega) (by decide) dX9_put_78 (by decide) ?_
                  refine lv_aload_n hx hb dX9_put_84 rfl (lv_at hl 0 rfl) ?_
                  refine lv_iload_n hx hb dX9_put_85 rfl (lv_at hl 1 rfl) ?_
                  refine lv_iload_n hx hb dX9_put_86 rfl (lv_at hl 2 rfl) ?_
                  refine lv_lload_n hx hb dX9_put_87 rfl (lv_at hl 3 rfl) ?_
                  have hMq93 : MInv X1 := minv_frm hMI q900007 (by decide)
                  have e95 : ∀ j : Int, X1 55 0 j = X 55 0 j := fun j => by rw [hX1, u3_k _ _ _ _ (by first | exact Nat.ne_of_beq_eq_false rfl | decide)]
                  have e96 : ∀ j : Int, X1 44 0 j = X 44 0 j := fun j => by rw [hX1, u3_k _ _ _ _ (by first | exact Nat.ne_of_beq_eq_false rfl | decide)]
                  have e97 : ∀ j : Int, X1 46 0 j = X 46 0 j := fun j => by rw [hX1, u3_k _ _ _ _ (by first | exact Nat.ne_of_beq_eq_false rfl | decide)]
                  refine gos_v (run_V (As := [.int (jI x), .int (jI k), .long (jL v)]) (rest := []) hx hb hml hown hts (c_X9_becomes l D tc base ad cnt X1 Y ln hRX1 hFx hMq93 x k v (by omega) (by omega) (by omega) (by simp only [e95, e96, e97, q900001, q900002, q900003]; omega) (by simp only [e95, e96, e97, q900001, q900002, q900003]; omega) (by unfold tyv; simp only [e95, e96, e97, q900001, q900002, q900003]; exact ⟨fun _ => by omega, fun _ => by omega, fun _ => by omega⟩) (by simp only [e95, e96, e97, q900001, q900002, q900003]; (try simp only [Hid] at *); omega)) (cwV 3 hts gX9_put_X9_becomes rfl rfl rfl (by first | exact hd_X9_becomes | decide +kernel) ⟨Nat.le_of_ble_eq_true rfl, Nat.le_of_ble_eq_true rfl⟩) hK hw (by first | exact Int.le_refl 0 | omega) (by first | exact zlt hc40 | omega) sl_40_0 rfl rfl hl.1 rfl (Nat.le_of_ble_eq_true rfl) dX9_put_88 ⟨Nat.le_of_ble_eq_true rfl, Nat.le_of_ble_eq_true rfl⟩) hS (fun u102 H locs p103 hw hS => ?_)
                  obtain ⟨X104, eu102, hRX104, hG105, hMIX104, p103, hbnX104, hbvX104, hboX104⟩ := p103
                  subst eu102
                  have hFX104 : Frm [4001, 6400, 6500, 6700, 6800, 6600, 4023, 5600] X X104 := Frm.tr hFX1 (Frm.mono hG105 (by first | exact nls_of rfl | decide))
                  refine lv_iconst (v := jI 1) hx hb dX9_put_91 rfl ?_
                  rw [hQ9]
                  refine ret_i (mc := 0) (ms := 0) hx hb hr hlocks hw hS (by first | exact Nat.le_of_ble_eq_true rfl | omega) (by first | exact Nat.le_of_ble_eq_true rfl | omega) dX9_put_92 ?_
                  have e107 : ∀ j : Int, X1 46 0 j = X 46 0 j := fun j => by rw [hX1, u3_k _ _ _ _ (by first | exact Nat.ne_of_beq_eq_false rfl | decide)]
                  have e108 : ∀ j : Int, X1 55 0 j = X 55 0 j := fun j => by rw [hX1, u3_k _ _ _ _ (by first | exact Nat.ne_of_beq_eq_false rfl | decide)]
                  have e109 : ∀ j : Int, X1 56 0 j = X 56 0 j := fun j => by rw [hX1, u3_k _ _ _ _ (by first | exact Nat.ne_of_beq_eq_false rfl | decide)]
                  exact ⟨X104, rfl, hRX104, hFX104, hMIX104, by omega, (by (try delta Hid at *); exact Or.inr (Or.inr (Or.inr (Or.inr (⟨(by omega), by omega, (by omega), by omega, by omega⟩))))), fun q => (by exfalso; omega), fun _ => (by simp only [e107, e108, e109] at hbnX104 hboX104; exact ⟨eNoteM.from (M := [4001]) hbnX104 q900007 (by decide), hbvX104, hboX104⟩)⟩
              · refine lv_bipush (v := jI (-17)) hx hb dX9_put_71 (by decide) ?_
                rw [hQ9]
                refine ret_i (mc := 0) (ms := 0) hx hb hr hlocks hw hS (by first | exact Nat.le_of_ble_eq_true rfl | omega) (by first | exact Nat.le_of_ble_eq_true rfl | omega) dX9_put_73 ?_
                have hMq110 : MInv X1 := minv_frm hMI q900007 (by decide)
                exact ⟨X1, rfl, hRX1, hFX1, hMq110, by omega, (by (try delta Hid at *); exact Or.inr (Or.inr (Or.inl ⟨(by omega), by omega, by omega, (fun q => by omega), by omega⟩))), fun _ => q900007, fun q => (by exfalso; omega)⟩
    · refine lv_bipush (v := jI (-14)) hx hb dX9_put_26 (by decide) ?_
      rw [hQ9]
      refine ret_i (mc := 0) (ms := 0) hx hb hr hlocks hw hS (by first | exact Nat.le_of_ble_eq_true rfl | omega) (by first | exact Nat.le_of_ble_eq_true rfl | omega) dX9_put_28 ?_
      have hMq113 : MInv X1 := minv_frm hMI q900007 (by decide)
      exact ⟨X1, rfl, hRX1, hFX1, hMq113, by omega, (by (try delta Hid at *); exact Or.inr (Or.inl ⟨(by omega), by omega, by omega⟩)), fun _ => q900007, fun q => (by exfalso; omega)⟩
  · subst ez2
    refine x_if_neF (tgt := 16) hx hb (by omega) (by decide) dX9_put_11 (by decide) ?_
    refine lv_iconst (v := jI (-1)) hx hb dX9_put_14 rfl ?_
    rw [hQ9]
    refine ret_i (mc := 0) (ms := 0) hx hb hr hlocks hw hS (by first | exact Nat.le_of_ble_eq_true rfl | omega) (by first | exact Nat.le_of_ble_eq_true rfl | omega) dX9_put_15 ?_
    have hMq116 : MInv X1 := minv_frm hMI q900007 (by decide)
    exact ⟨X1, rfl, hRX1, hFX1, hMq116, by omega, (by (try delta Hid at *); exact Or.inl ⟨(fun q => by omega), by omega⟩), fun _ => q900007, fun q => (by exfalso; omega)⟩

set_option maxHeartbeats 4000000 in
set_option maxRecDepth 100000 in
theorem c_X9_refer (l : Launch) (D : va_G) (tc : Nat → ClassId) (base : Nat) (ad : Nat → Int → Nat) (cnt : Nat → Int) (X : Nat → Int → Int → Int) (Y : Nat → Int → Int → Option Int) (ln : Int → Int) (hR : Rng X) (hFx : Fx cnt) (hMI : MInv X) (x k y : Int) (hx : -2147483648 ≤ x ∧ x ≤ 2147483647) (hk : -2147483648 ≤ k ∧ k ≤ 2147483647) (hy : -2147483648 ≤ y ∧ y ≤ 2147483647) : KI l D tc base yX9_refer wsX9_refer ({ frames := 2, cells := 0, slots := 0, locals := 46 } : Room) [.ref (ad 40 0), .int (jI x), .int (jI k), .int (jI y)] (ad, cnt, X, Y, ln) 0 0 (fun z u => ∃ X1 : Nat → Int → Int → Int, u = (ad, cnt, X1, Y, ln) ∧ Rng X1 ∧ Frm [4001, 6400, 6500, 6700, 6800, 6600, 4023, 5600] X X1 ∧ MInv X1 ∧ (-2147483648 ≤ z ∧ z ≤ 2147483647) ∧ ((¬ ((0 ≤ x ∧ x < X 40 0 13 ∧ 0 ≤ k ∧ k < X 44 0 (X 55 0 x)) ∧ (y = -1 ∨ (0 ≤ y ∧ y < X 40 0 13))) ∧ z = -1) ∨ ((0 ≤ x ∧ x < X 40 0 13 ∧ 0 ≤ k ∧ k < X 44 0 (X 55 0 x)) ∧ (y = -1 ∨ (0 ≤ y ∧ y < X 40 0 13)) ∧ X 46 0 (5 * X 55 0 x + k) ≠ 2 ∧ z = -14) ∨ ((0 ≤ x ∧ x < X 40 0 13 ∧ 0 ≤ k ∧ k < X 44 0 (X 55 0 x)) ∧ (y = -1 ∨ (0 ≤ y ∧ y < X 40 0 13)) ∧ X 46 0 (5 * X 55 0 x + k) = 2 ∧ (0 < X 40 0 20 ∧ X 40 0 22 = 80) ∧ z = -4) ∨ ((0 ≤ x ∧ x < X 40 0 13 ∧ 0 ≤ k ∧ k < X 44 0 (X 55 0 x)) ∧ (y = -1 ∨ (0 ≤ y ∧ y < X 40 0 13)) ∧ X 46 0 (5 * X 55 0 x + k) = 2 ∧ (X 40 0 20 = 0 ∨ X 40 0 22 ≤ 79) ∧ z = 1)) ∧ (z < 0 → Frm [4001] X X1) ∧ (z = 1 → eNoteM X X1 x k (if 3 ≤ X 46 0 (5 * X 55 0 x + k) then X 56 0 (5 * x + k) else -1) (-1) (X 56 0 (5 * x + k)) ∧ X1 56 0 (5 * x + k) = y ∧ ∀ p, p ≠ 5 * x + k → X1 56 0 p = X 56 0 p)) := by
  refine K_of (cc := cX9_refer) (maxL := 4) (ret := (some .int)) (by decide) rfl (Nat.le_of_ble_eq_true rfl) ?_
  intro p e s m below meth c ls hx hb hr hml hown hts hlocks hl hK hw hS
  have hown : s.vm.findClass RX9 = some m.cls := hown
  obtain ⟨av9, hav9⟩ : ∃ a9 : Array Value, a9 = ([.ref (ad 40 0), .int (jI x), .int (jI k), .int (jI y)] : List Value).toArray := ⟨_, rfl⟩
  rw [← hav9] at hts ⊢
  obtain ⟨Q9, hQ9⟩ : ∃ q9Q : State → Prop, q9Q = MQ below (QI D tc base (fun z u => ∃ X1 : Nat → Int → Int → Int, u = (ad, cnt, X1, Y, ln) ∧ Rng X1 ∧ Frm [4001, 6400, 6500, 6700, 6800, 6600, 4023, 5600] X X1 ∧ MInv X1 ∧ (-2147483648 ≤ z ∧ z ≤ 2147483647) ∧ ((¬ ((0 ≤ x ∧ x < X 40 0 13 ∧ 0 ≤ k ∧ k < X 44 0 (X 55 0 x)) ∧ (y = -1 ∨ (0 ≤ y ∧ y < X 40 0 13))) ∧ z = -1) ∨ ((0 ≤ x ∧ x < X 40 0 13 ∧ 0 ≤ k ∧ k < X 44 0 (X 55 0 x)) ∧ (y = -1 ∨ (0 ≤ y ∧ y < X 40 0 13)) ∧ X 46 0 (5 * X 55 0 x + k) ≠ 2 ∧ z = -14) ∨ ((0 ≤ x ∧ x < X 40 0 13 ∧ 0 ≤ k ∧ k < X 44 0 (X 55 0 x)) ∧ (y = -1 ∨ (0 ≤ y ∧ y < X 40 0 13)) ∧ X 46 0 (5 * X 55 0 x + k) = 2 ∧ (0 < X 40 0 20 ∧ X 40 0 22 = 80) ∧ z = -4) ∨ ((0 ≤ x ∧ x < X 40 0 13 ∧ 0 ≤ k ∧ k < X 44 0 (X 55 0 x)) ∧ (y = -1 ∨ (0 ≤ y ∧ y < X 40 0 13)) ∧ X 46 0 (5 * X 55 0 x + k) = 2 ∧ (X 40 0 20 = 0 ∨ X 40 0 22 ≤ 79) ∧ z = 1)) ∧ (z < 0 → Frm [4001] X X1) ∧ (z = 1 → eNoteM X X1 x k (if 3 ≤ X 46 0 (5 * X 55 0 x + k) then X 56 0 (5 * x + k) else -1) (-1) (X 56 0 (5 * x + k)) ∧ X1 56 0 (5 * x + k) = y ∧ ∀ p, p ≠ 5 * x + k → X1 56 0 p = X 56 0 p))) av9 s 0 0 (frA base) := ⟨_, rfl⟩
  rw [← hQ9]
  have hi9 : ∀ w ∈ wsX90, w ∈ wsX9_refer := fun w h => List.mem_cons_of_mem _ (List.mem_append_right _ h)
  have hf9 : fctx s m _ RX9 wsX9_refer D tc RX9 TX9 51 9 := ⟨hts, hi9, hown, hK.1, rfl⟩
  have lk145 := hts (.fieldLink RX9 145 (TX9 0).1 (TX9 0).2.1 (TX9 0).2.2.1) (gj_X9_refer_0 _ (gp_h))
  have hc40 : cnt 40 = 1 := hFx.at 40 1 (by decide)
  have hl : lv_has ls 4 [(0, .ref (ad 40 0)), (1, .int (jI x)), (2, .int (jI k)), (3, .int (jI y))] := hl
  have fstypes : 0 ≤ X 40 0 2 ∧ X 40 0 2 ≤ 8 := hR 40 0 2
  have fsthings : 0 ≤ X 40 0 13 ∧ X 40 0 13 ≤ 30 := hR 40 0 13
  have fsmarks : 0 ≤ X 40 0 20 ∧ X 40 0 20 ≤ 4 := hR 40 0 20
  have fsnotes : 0 ≤ X 40 0 22 ∧ X 40 0 22 ≤ 80 := hR 40 0 22
  refine lv_aload_n hx hb dX9_refer_0 rfl (lv_at hl 0 rfl) ?_
  refine lv_iconst (v := jI 0) hx hb dX9_refer_1 rfl ?_
  refine x_puti (jz := 0) hx hb hf9 ⟨tyX9_ok, nmX9⟩ hw hS (by first | exact Int.le_refl 0 | omega) (by first | exact zlt hc40 | omega) sl_40_0 rfl lk145 rfl (tyX9_ok 0 (by decide)) rfl rfl dX9_refer_2 (fun H locs hw hS => ?_)
  obtain ⟨X1, hX1⟩ : ∃ Xq, Xq = u3 X 40 0 0 0 := ⟨_, rfl⟩
  rw [← hX1] at hw
  have hRX1 : Rng X1 := by rw [hX1]; exact rng_set hR (show (-2147483648) ≤ 0 ∧ 0 ≤ 2147483647 by omega)
  have hVX1 : X1 40 0 0 = 0 := by rw [hX1]; exact u3_s _ _ _ _ _
  have hFX1 : Frm [4001, 6400, 6500, 6700, 6800, 6600, 4023, 5600] X X1 := by rw [hX1]; exact Frm.set Frm.rf (show 4001 ∈ [4001, 6400, 6500, 6700, 6800, 6600, 4023, 5600] by first | exact nlm_in rfl | decide)
  refine lv_aload_n hx hb dX9_refer_5 rfl (lv_at hl 0 rfl) ?_
  refine lv_iload_n hx hb dX9_refer_6 rfl (lv_at hl 1 rfl) ?_
  refine lv_iload_n hx hb dX9_refer_7 rfl (lv_at hl 2 rfl) ?_
  refine gos_i (run_V (As := [.int (jI x), .int (jI k)]) (rest := []) hx hb hml hown hts (c_X9_isField l D tc base ad cnt X1 Y ln hRX1 hFx x k (by omega) (by omega)) (cwV 2 hts gX9_refer_X9_isField rfl rfl rfl (by first | exact hd_X9_isField | decide +kernel) ⟨Nat.le_of_ble_eq_true rfl, Nat.le_of_ble_eq_true rfl⟩) hK hw (by first | exact Int.le_refl 0 | omega) (by first | exact zlt hc40 | omega) sl_40_0 rfl rfl hl.1 rfl (Nat.le_of_ble_eq_true rfl) dX9_refer_8 ⟨Nat.le_of_ble_eq_true rfl, Nat.le_of_ble_eq_true rfl⟩) hS (fun z2 u3 H locs p4 hw hS => ?_)
  obtain ⟨eu3, p4⟩ := p4
  subst eu3
  have e5 : X1 40 0 13 = X 40 0 13 := by rw [hX1, u3_j _ _ _ _ (by decide)]
  have e6 : ∀ j : Int, X1 55 0 j = X 55 0 j := fun j => by rw [hX1, u3_k _ _ _ _ (by first | exact Nat.ne_of_beq_eq_false rfl | decide)]
  have e7 : ∀ j : Int, X1 44 0 j = X 44 0 j := fun j => by rw [hX1, u3_k _ _ _ _ (by first | exact Nat.ne_of_beq_eq_false rfl | decide)]
  simp only [e5, e6, e7] at p4
  have q900014 : Frm [4001] X X1 := by rw [hX1]; exact Frm.set Frm.rf (show 4001 ∈ [4001] by first | exact nlm_in rfl | decide)
  rcases p4 with ⟨ez2, p4⟩ | ⟨ez2, p4⟩
  · subst ez2
    refine x_if_eqF (tgt := 27) hx hb (by omega) (by decide) dX9_refer_11 (by decide) ?_
    refine lv_iload_n hx hb dX9_refer_14 rfl (lv_at hl 3 rfl) ?_
    refine lv_iconst (v := jI (-1)) hx hb dX9_refer_15 rfl ?_
    have q900008 : X1 40 0 13 = X 40 0 13 := by rw [hX1, u3_j _ _ _ _ (by decide)]
    have q900009 : X1 40 0 20 = X 40 0 20 := by rw [hX1, u3_j _ _ _ _ (by decide)]
    have q900010 : X1 40 0 22 = X 40 0 22 := by rw [hX1, u3_j _ _ _ _ (by decide)]
    refine x_icmp_eq (tgt := 29) hx hb (by omega) (by omega) dX9_refer_16 (by decide) (fun c8 => ?_) (fun c8 => ?_)
    · refine lv_aload_n hx hb dX9_refer_29 rfl (lv_at hl 0 rfl) ?_
      refine lv_iload_n hx hb dX9_refer_30 rfl (lv_at hl 1 rfl) ?_
      refine lv_iload_n hx hb dX9_refer_31 rfl (lv_at hl 2 rfl) ?_
      refine gos_i (run_V (As := [.int (jI x), .int (jI k)]) (rest := []) hx hb hml hown hts (c_X9_lane l D tc base ad cnt X1 Y ln hRX1 hFx x k (by omega) (by omega)) (cwV 2 hts gX9_refer_X9_lane rfl rfl rfl (by first | exact hd_X9_lane | decide +kernel) ⟨Nat.le_of_ble_eq_true rfl, Nat.le_of_ble_eq_true rfl⟩) hK hw (by first | exact Int.le_refl 0 | omega) (by first | exact zlt hc40 | omega) sl_40_0 rfl rfl hl.1 rfl (Nat.le_of_ble_eq_true rfl) dX9_refer_32 ⟨Nat.le_of_ble_eq_true rfl, Nat.le_of_ble_eq_true rfl⟩) hS (fun z9 u10 H locs p11 hw hS => ?_)
      obtain ⟨eu10, p11⟩ := p11
      subst eu10
      have e12 : ∀ j : Int, X1 55 0 j = X 55 0 j := fun j => by rw [hX1, u3_k _ _ _ _ (by first | exact Nat.ne_of_beq_eq_false rfl | decide)]
      have e13 : ∀ j : Int, X1 46 0 j = X 46 0 j := fun j => by rw [hX1, u3_k _ _ _ _ (by first | exact Nat.ne_of_beq_eq_false rfl | decide)]
      simp only [e12, e13] at p11
      refine lv_iconst (v := jI 2) hx hb dX9_refer_35 rfl ?_
      refine x_icmp_eq (tgt := 42) hx hb (by omega) (by omega) dX9_refer_36 (by decide) (fun c14 => ?_) (fun c14 => ?_)
      · refine lv_aload_n hx hb dX9_refer_42 rfl (lv_at hl 0 rfl) ?_
        refine gos_i (run_V (As := []) (rest := []) hx hb hml hown hts (c_X9_isFull l D tc base ad cnt X1 Y ln hRX1 hFx) (cwV 0 hts gX9_refer_X9_isFull rfl rfl rfl (by first | exact hd_X9_isFull | decide +kernel) ⟨Nat.le_of_ble_eq_true rfl, Nat.le_of_ble_eq_true rfl⟩) hK hw (by first | exact Int.le_refl 0 | omega) (by first | exact zlt hc40 | omega) sl_40_0 rfl rfl hl.1 rfl (Nat.le_of_ble_eq_true rfl) dX9_refer_43 ⟨Nat.le_of_ble_eq_true rfl, Nat.le_of_ble_eq_true rfl⟩) hS (fun z15 u16 H locs p17 hw hS => ?_)
        obtain ⟨eu16, p17⟩ := p17
        subst eu16
        have e18 : X1 40 0 20 = X 40 0 20 := by rw [hX1, u3_j _ _ _ _ (by decide)]
        have e19 : X1 40 0 22 = X 40 0 22 := by rw [hX1, u3_j _ _ _ _ (by decide)]
        simp only [e18, e19] at p17
        rcases p17 with ⟨ez15, p17⟩ | ⟨ez15, p17⟩
        · subst ez15
          refine x_if_eqF (tgt := 52) hx hb (by omega) (by decide) dX9_refer_46 (by decide) ?_
          refine lv_bipush (v := jI (-4)) hx hb dX9_refer_49 (by decide) ?_
          rw [hQ9]
          refine ret_i (mc := 0) (ms := 0) hx hb hr hlocks hw hS (by first | exact Nat.le_of_ble_eq_true rfl | omega) (by first | exact Nat.le_of_ble_eq_true rfl | omega) dX9_refer_51 ?_
          have hMq20 : MInv X1 := minv_frm hMI q900014 (by decide)
          exact ⟨X1, rfl, hRX1, hFX1, hMq20, by omega, (by (try delta Hid at *); exact Or.inr (Or.inr (Or.inl ⟨(by omega), (by omega), by omega, by omega, by omega⟩))), fun _ => q900014, fun q => (by exfalso; omega)⟩
        · subst ez15
          refine x_if_eqT (tgt := 52) hx hb (by omega) (by decide) dX9_refer_46 (by decide) ?_
          refine lv_aload_n hx hb dX9_refer_52 rfl (lv_at hl 0 rfl) ?_
          refine lv_iload_n hx hb dX9_refer_53 rfl (lv_at hl 1 rfl) ?_
          refine lv_iload_n hx hb dX9_refer_54 rfl (lv_at hl 2 rfl) ?_
          refine lv_iload_n hx hb dX9_refer_55 rfl (lv_at hl 3 rfl) ?_
          refine x_i2l hx hb (by omega) dX9_refer_56 ?_
          have hMq23 : MInv X1 := minv_frm hMI q900014 (by decide)
          have e25 : ∀ j : Int, X1 55 0 j = X 55 0 j := fun j => by rw [hX1, u3_k _ _ _ _ (by first | exact Nat.ne_of_beq_eq_false rfl | decide)]
          have e26 : ∀ j : Int, X1 44 0 j = X 44 0 j := fun j => by rw [hX1, u3_k _ _ _ _ (by first | exact Nat.ne_of_beq_eq_false rfl | decide)]
          have e27 : ∀ j : Int, X1 46 0 j = X 46 0 j := fun j => by rw [hX1, u3_k _ _ _ _ (by first | exact Nat.ne_of_beq_eq_false rfl | decide)]
          refine gos_v (run_V (As := [.int (jI x), .int (jI k), .long (jL y)]) (rest := []) hx hb hml hown hts (c_X9_becomes l D tc base ad cnt X1 Y ln hRX1 hFx hMq23 x k y (by omega) (by omega) (by omega) (by simp only [e25, e26, e27, q900008, q900009, q900010]; omega) (by simp only [e25, e26, e27, q900008, q900009, q900010]; omega) (by unfold tyv; simp only [e25, e26, e27, q900008, q900009, q900010]; exact ⟨fun _ => by omega, fun _ => by omega, fun _ => by omega⟩) (by simp only [e25, e26, e27, q900008, q900009, q900010]; (try simp only [Hid] at *); omega)) (cwV 3 hts gX9_refer_X9_becomes rfl rfl rfl (by first | exact hd_X9_becomes | decide +kernel) ⟨Nat.le_of_ble_eq_true rfl, Nat.le_of_ble_eq_true rfl⟩) hK hw (by first | exact Int.le_refl 0 | omega) (by first | exact zlt hc40 | omega) sl_40_0 rfl rfl hl.1 rfl (Nat.le_of_ble_eq_true rfl) dX9_refer_57 ⟨Nat.le_of_ble_eq_true rfl, Nat.le_of_ble_eq_true rfl⟩) hS (fun u32 H locs p33 hw hS => ?_)
          obtain ⟨X34, eu32, hRX34, hG35, hMIX34, p33, hbnX34, hbvX34, hboX34⟩ := p33
          subst eu32
          have hFX34 : Frm [4001, 6400, 6500, 6700, 6800, 6600, 4023, 5600] X X34 := Frm.tr hFX1 (Frm.mono hG35 (by first | exact nls_of rfl | decide))
          refine lv_iconst (v := jI 1) hx hb dX9_refer_60 rfl ?_
          rw [hQ9]
          refine ret_i (mc := 0) (ms := 0) hx hb hr hlocks hw hS (by first | exact Nat.le_of_ble_eq_true rfl | omega) (by first | exact Nat.le_of_ble_eq_true rfl | omega) dX9_refer_61 ?_
          have e37 : ∀ j : Int, X1 46 0 j = X 46 0 j := fun j => by rw [hX1, u3_k _ _ _ _ (by first | exact Nat.ne_of_beq_eq_false rfl | decide)]
          have e38 : ∀ j : Int, X1 55 0 j = X 55 0 j := fun j => by rw [hX1, u3_k _ _ _ _ (by first | exact Nat.ne_of_beq_eq_false rfl | decide)]
          have e39 : ∀ j : Int, X1 56 0 j = X 56 0 j := fun j => by rw [hX1, u3_k _ _ _ _ (by first | exact Nat.ne_of_beq_eq_false rfl | decide)]
          exact ⟨X34, rfl, hRX34, hFX34, hMIX34, by omega, (by (try delta Hid at *); exact Or.inr (Or.inr (Or.inr (⟨(by omega), (by omega), by omega, by omega, by omega⟩)))), fun q => (by exfalso; omega), fun _ => (by simp only [e37, e38, e39] at hbnX34 hboX34; exact ⟨eNoteM.from (M := [4001]) hbnX34 q900014 (by decide), hbvX34, hboX34⟩)⟩
      · refine lv_bipush (v := jI (-14)) hx hb dX9_refer_39 (by decide) ?_
        rw [hQ9]
        refine ret_i (mc := 0) (ms := 0) hx hb hr hlocks hw hS (by first | exact Nat.le_of_ble_eq_true rfl | omega) (by first | exact Nat.le_of_ble_eq_true rfl | omega) dX9_refer_41 ?_
        have hMq40 : MInv X1 := minv_frm hMI q900014 (by decide)
        exact ⟨X1, rfl, hRX1, hFX1, hMq40, by omega, (by (try delta Hid at *); exact Or.inr (Or.inl ⟨(by omega), (by omega), by omega, by omega⟩)), fun _ => q900014, fun q => (by exfalso; omega)⟩
    · refine lv_aload_n hx hb dX9_refer_19 rfl (lv_at hl 0 rfl) ?_
      refine lv_iload_n hx hb dX9_refer_20 rfl (lv_at hl 3 rfl) ?_
      refine gos_i (run_V (As := [.int (jI y)]) (rest := []) hx hb hml hown hts (c_X9_isThing l D tc base ad cnt X1 Y ln hRX1 hFx y (by omega)) (cwV 1 hts gX9_refer_X9_isThing rfl rfl rfl (by first | exact hd_X9_isThing | decide +kernel) ⟨Nat.le_of_ble_eq_true rfl, Nat.le_of_ble_eq_true rfl⟩) hK hw (by first | exact Int.le_refl 0 | omega) (by first | exact zlt hc40 | omega) sl_40_0 rfl rfl hl.1 rfl (Nat.le_of_ble_eq_true rfl) dX9_refer_21 ⟨Nat.le_of_ble_eq_true rfl, Nat.le_of_ble_eq_true rfl⟩) hS (fun z43 u44 H locs p45 hw hS => ?_)
      obtain ⟨eu44, p45⟩ := p45
      subst eu44
      simp only [q900008] at p45
      rcases p45 with ⟨ez43, p45⟩ | ⟨ez43, p45⟩
      · subst ez43
        refine x_if_neT (tgt := 29) hx hb (by omega) (by decide) dX9_refer_24 (by decide) ?_
        refine lv_aload_n hx hb dX9_refer_29 rfl (lv_at hl 0 rfl) ?_
        refine lv_iload_n hx hb dX9_refer_30 rfl (lv_at hl 1 rfl) ?_
        refine lv_iload_n hx hb dX9_refer_31 rfl (lv_at hl 2 rfl) ?_
        refine gos_i (run_V (As := [.int (jI x), .int (jI k)]) (rest := []) hx hb hml hown hts (c_X9_lane l D tc base ad cnt X1 Y ln hRX1 hFx x k (by omega) (by omega)) (cwV 2 hts gX9_refer_X9_lane rfl rfl rfl (by first | exact hd_X9_lane | decide +kernel) ⟨Nat.le_of_ble_eq_true rfl, Nat.le_of_ble_eq_true rfl⟩) hK hw (by first | exact Int.le_refl 0 | omega) (by first | exact zlt hc40 | omega) sl_40_0 rfl rfl hl.1 rfl (Nat.le_of_ble_eq_true rfl) dX9_refer_32 ⟨Nat.le_of_ble_eq_true rfl, Nat.le_of_ble_eq_true rfl⟩) hS (fun z47 u48 H locs p49 hw hS => ?_)
        obtain ⟨eu48, p49⟩ := p49
        subst eu48
        have e50 : ∀ j : Int, X1 55 0 j = X 55 0 j := fun j => by rw [hX1, u3_k _ _ _ _ (by first | exact Nat.ne_of_beq_eq_false rfl | decide)]
        have e51 : ∀ j : Int, X1 46 0 j = X 46 0 j := fun j => by rw [hX1, u3_k _ _ _ _ (by first | exact Nat.ne_of_beq_eq_false rfl | decide)]
        simp only [e50, e51] at p49
        refine lv_iconst (v := jI 2) hx hb dX9_refer_35 rfl ?_
        refine x_icmp_eq (tgt := 42) hx hb (by omega) (by omega) dX9_refer_36 (by decide) (fun c52 => ?_) (fun c52 => ?_)
        · refine lv_aload_n hx hb dX9_refer_42 rfl (lv_at hl 0 rfl) ?_
          refine gos_i (run_V (As := []) (rest := []) hx hb hml hown hts (c_X9_isFull l D tc base ad cnt X1 Y ln hRX1 hFx) (cwV 0 hts gX9_refer_X9_isFull rfl rfl rfl (by first | exact hd_X9_isFull | decide +kernel) ⟨Nat.le_of_ble_eq_true rfl, Nat.le_of_ble_eq_true rfl⟩) hK hw (by first | exact Int.le_refl 0 | omega) (by first | exact zlt hc40 | omega) sl_40_0 rfl rfl hl.1 rfl (Nat.le_of_ble_eq_true rfl) dX9_refer_43 ⟨Nat.le_of_ble_eq_true rfl, Nat.le_of_ble_eq_true rfl⟩) hS (fun z53 u54 H locs p55 hw hS => ?_)
          obtain ⟨eu54, p55⟩ := p55
          subst eu54
          simp only [q900009, q900010] at p55
          rcases p55 with ⟨ez53, p55⟩ | ⟨ez53, p55⟩
          · subst ez53
            refine x_if_eqF (tgt := 52) hx hb (by omega) (by decide) dX9_refer_46 (by decide) ?_
            refine lv_bipush (v := jI (-4)) hx hb dX9_refer_49 (by decide) ?_
            rw [hQ9]
            refine ret_i (mc := 0) (ms := 0) hx hb hr hlocks hw hS (by first | exact Nat.le_of_ble_eq_true rfl | omega) (by first | exact Nat.le_of_ble_eq_true rfl | omega) dX9_refer_51 ?_
            have hMq58 : MInv X1 := minv_frm hMI q900014 (by decide)
            exact ⟨X1, rfl, hRX1, hFX1, hMq58, by omega, (by (try delta Hid at *); exact Or.inr (Or.inr (Or.inl ⟨(by omega), (by omega), by omega, by omega, by omega⟩))), fun _ => q900014, fun q => (by exfalso; omega)⟩
          · subst ez53
            refine x_if_eqT (tgt := 52) hx hb (by omega) (by decide) dX9_refer_46 (by decide) ?_
            refine lv_aload_n hx hb dX9_refer_52 rfl (lv_at hl 0 rfl) ?_
            refine lv_iload_n hx hb dX9_refer_53 rfl (lv_at hl 1 rfl) ?_
            refine lv_iload_n hx hb dX9_refer_54 rfl (lv_at hl 2 rfl) ?_
            refine lv_iload_n hx hb dX9_refer_55 rfl (lv_at hl 3 rfl) ?_
            refine x_i2l hx hb (by omega) dX9_refer_56 ?_
            have hMq61 : MInv X1 := minv_frm hMI q900014 (by decide)
            have e63 : ∀ j : Int, X1 55 0 j = X 55 0 j := fun j => by rw [hX1, u3_k _ _ _ _ (by first | exact Nat.ne_of_beq_eq_false rfl | decide)]
            have e64 : ∀ j : Int, X1 44 0 j = X 44 0 j := fun j => by rw [hX1, u3_k _ _ _ _ (by first | exact Nat.ne_of_beq_eq_false rfl | decide)]
            have e65 : ∀ j : Int, X1 46 0 j = X 46 0 j := fun j => by rw [hX1, u3_k _ _ _ _ (by first | exact Nat.ne_of_beq_eq_false rfl | decide)]
            refine gos_v (run_V (As := [.int (jI x), .int (jI k), .long (jL y)]) (rest := []) hx hb hml hown hts (c_X9_becomes l D tc base ad cnt X1 Y ln hRX1 hFx hMq61 x k y (by omega) (by omega) (by omega) (by simp only [e63, e64, e65, q900008, q900009, q900010]; omega) (by simp only [e63, e64, e65, q900008, q900009, q900010]; omega) (by unfold tyv; simp only [e63, e64, e65, q900008, q900009, q900010]; exact ⟨fun _ => by omega, fun _ => by omega, fun _ => by omega⟩) (by simp only [e63, e64, e65, q900008, q900009, q900010]; (try simp only [Hid] at *); omega)) (cwV 3 hts gX9_refer_X9_becomes rfl rfl rfl (by first | exact hd_X9_becomes | decide +kernel) ⟨Nat.le_of_ble_eq_true rfl, Nat.le_of_ble_eq_true rfl⟩) hK hw (by first | exact Int.le_refl 0 | omega) (by first | exact zlt hc40 | omega) sl_40_0 rfl rfl hl.1 rfl (Nat.le_of_ble_eq_true rfl) dX9_refer_57 ⟨Nat.le_of_ble_eq_true rfl, Nat.le_of_ble_eq_true rfl⟩) hS (fun u70 H locs p71 hw hS => ?_)
            obtain ⟨X72, eu70, hRX72, hG73, hMIX72, p71, hbnX72, hbvX72, hboX72⟩ := p71
            subst eu70
            have hFX72 : Frm [4001, 6400, 6500, 6700, 6800, 6600, 4023, 5600] X X72 := Frm.tr hFX1 (Frm.mono hG73 (by first | exact nls_of rfl | decide))
            refine lv_iconst (v := jI 1) hx hb dX9_refer_60 rfl ?_
            rw [hQ9]
            refine ret_i (mc := 0) (ms := 0) hx hb hr hlocks hw hS (by first | exact Nat.le_of_ble_eq_true rfl | omega) (by first | exact Nat.le_of_ble_eq_true rfl | omega) dX9_refer_61 ?_
            have e75 : ∀ j : Int, X1 46 0 j = X 46 0 j := fun j => by rw [hX1, u3_k _ _ _ _ (by first | exact Nat.ne_of_beq_eq_false rfl | decide)]
            have e76 : ∀ j : Int, X1 55 0 j = X 55 0 j := fun j => by rw [hX1, u3_k _ _ _ _ (by first | exact Nat.ne_of_beq_eq_false rfl | decide)]
            have e77 : ∀ j : Int, X1 56 0 j = X 56 0 j := fun j => by rw [hX1, u3_k _ _ _ _ (by first | exact Nat.ne_of_beq_eq_false rfl | decide)]
            exact ⟨X72, rfl, hRX72, hFX72, hMIX72, by omega, (by (try delta Hid at *); exact Or.inr (Or.inr (Or.inr (⟨(by omega), (by omega), by omega, by omega, by omega⟩)))), fun q => (by exfalso; omega), fun _ => (by simp only [e75, e76, e77] at hbnX72 hboX72; exact ⟨eNoteM.from (M := [4001]) hbnX72 q900014 (by decide), hbvX72, hboX72⟩)⟩
        · refine lv_bipush (v := jI (-14)) hx hb dX9_refer_39 (by decide) ?_
          rw [hQ9]
          refine ret_i (mc := 0) (ms := 0) hx hb hr hlocks hw hS (by first | exact Nat.le_of_ble_eq_true rfl | omega) (by first | exact Nat.le_of_ble_eq_true rfl | omega) dX9_refer_41 ?_
          have hMq78 : MInv X1 := minv_frm hMI q900014 (by decide)
          exact ⟨X1, rfl, hRX1, hFX1, hMq78, by omega, (by (try delta Hid at *); exact Or.inr (Or.inl ⟨(by omega), (by omega), by omega, by omega⟩)), fun _ => q900014, fun q => (by exfalso; omega)⟩
      · subst ez43
        refine x_if_neF (tgt := 29) hx hb (by omega) (by decide) dX9_refer_24 (by decide) ?_
        refine lv_iconst (v := jI (-1)) hx hb dX9_refer_27 rfl ?_
        rw [hQ9]
        refine ret_i (mc := 0) (ms := 0) hx hb hr hlocks hw hS (by first | exact Nat.le_of_ble_eq_true rfl | omega) (by first | exact Nat.le_of_ble_eq_true rfl | omega) dX9_refer_28 ?_
        have hMq81 : MInv X1 := minv_frm hMI q900014 (by decide)
        exact ⟨X1, rfl, hRX1, hFX1, hMq81, by omega, (by (try delta Hid at *); exact Or.inl ⟨(fun q => by omega), by omega⟩), fun _ => q900014, fun q => (by exfalso; omega)⟩
  · subst ez2
    refine x_if_eqT (tgt := 27) hx hb (by omega) (by decide) dX9_refer_11 (by decide) ?_
    refine lv_iconst (v := jI (-1)) hx hb dX9_refer_27 rfl ?_
    rw [hQ9]
    refine ret_i (mc := 0) (ms := 0) hx hb hr hlocks hw hS (by first | exact Nat.le_of_ble_eq_true rfl | omega) (by first | exact Nat.le_of_ble_eq_true rfl | omega) dX9_refer_28 ?_
    have hMq84 : MInv X1 := minv_frm hMI q900014 (by decide)
    exact ⟨X1, rfl, hRX1, hFX1, hMq84, by omega, (by (try delta Hid at *); exact Or.inl ⟨(fun q => by omega), by omega⟩), fun _ => q900014, fun q => (by exfalso; omega)⟩

set_option maxHeartbeats 4000000 in
set_option maxRecDepth 100000 in
theorem c_X9_share (l : Launch) (D : va_G) (tc : Nat → ClassId) (base : Nat) (ad : Nat → Int → Nat) (cnt : Nat → Int) (X : Nat → Int → Int → Int) (Y : Nat → Int → Int → Option Int) (ln : Int → Int) (hR : Rng X) (hFx : Fx cnt) (hMI : MInv X) (x k y j : Int) (hx : -2147483648 ≤ x ∧ x ≤ 2147483647) (hk : -2147483648 ≤ k ∧ k ≤ 2147483647) (hy : -2147483648 ≤ y ∧ y ≤ 2147483647) (hj : -2147483648 ≤ j ∧ j ≤ 2147483647) : KI l D tc base yX9_share wsX9_share ({ frames := 2, cells := 0, slots := 0, locals := 46 } : Room) [.ref (ad 40 0), .int (jI x), .int (jI k), .int (jI y), .int (jI j)] (ad, cnt, X, Y, ln) 0 0 (fun z u => ∃ X1 : Nat → Int → Int → Int, u = (ad, cnt, X1, Y, ln) ∧ Rng X1 ∧ Frm [4001, 6400, 6500, 6700, 6800, 6600, 4023, 5600] X X1 ∧ MInv X1 ∧ (-2147483648 ≤ z ∧ z ≤ 2147483647) ∧ ((¬ ((0 ≤ x ∧ x < X 40 0 13 ∧ 0 ≤ k ∧ k < X 44 0 (X 55 0 x)) ∧ (0 ≤ y ∧ y < X 40 0 13 ∧ 0 ≤ j ∧ j < X 44 0 (X 55 0 y))) ∧ z = -1) ∨ (((0 ≤ x ∧ x < X 40 0 13 ∧ 0 ≤ k ∧ k < X 44 0 (X 55 0 x)) ∧ (0 ≤ y ∧ y < X 40 0 13 ∧ 0 ≤ j ∧ j < X 44 0 (X 55 0 y))) ∧ (X 46 0 (5 * X 55 0 x + k) < 3 ∨ X 46 0 (5 * X 55 0 x + k) ≠ X 46 0 (5 * X 55 0 y + j)) ∧ z = -14) ∨ (((0 ≤ x ∧ x < X 40 0 13 ∧ 0 ≤ k ∧ k < X 44 0 (X 55 0 x)) ∧ (0 ≤ y ∧ y < X 40 0 13 ∧ 0 ≤ j ∧ j < X 44 0 (X 55 0 y))) ∧ 3 ≤ X 46 0 (5 * X 55 0 x + k) ∧ X 46 0 (5 * X 55 0 x + k) = X 46 0 (5 * X 55 0 y + j) ∧ (0 < X 40 0 20 ∧ X 40 0 22 = 80) ∧ z = -4) ∨ (((0 ≤ x ∧ x < X 40 0 13 ∧ 0 ≤ k ∧ k < X 44 0 (X 55 0 x)) ∧ (0 ≤ y ∧ y < X 40 0 13 ∧ 0 ≤ j ∧ j < X 44 0 (X 55 0 y))) ∧ 3 ≤ X 46 0 (5 * X 55 0 x + k) ∧ X 46 0 (5 * X 55 0 x + k) = X 46 0 (5 * X 55 0 y + j) ∧ (X 40 0 20 = 0 ∨ X 40 0 22 ≤ 79) ∧ z = 1)) ∧ (z < 0 → Frm [4001] X X1) ∧ (z = 1 → eNoteM X X1 x k (if 3 ≤ X 46 0 (5 * X 55 0 x + k) then X 56 0 (5 * x + k) else -1) (-1) (X 56 0 (5 * x + k)) ∧ X1 56 0 (5 * x + k) = X 56 0 (5 * y + j) ∧ ∀ p, p ≠ 5 * x + k → X1 56 0 p = X 56 0 p)) := by
  refine K_of (cc := cX9_share) (maxL := 5) (ret := (some .int)) (by decide) rfl (Nat.le_of_ble_eq_true rfl) ?_
  intro p e s m below meth c ls hx hb hr hml hown hts hlocks hl hK hw hS
  have hown : s.vm.findClass RX9 = some m.cls := hown
  obtain ⟨av9, hav9⟩ : ∃ a9 : Array Value, a9 = ([.ref (ad 40 0), .int (jI x), .int (jI k), .int (jI y), .int (jI j)] : List Value).toArray := ⟨_, rfl⟩
  rw [← hav9] at hts ⊢
  obtain ⟨Q9, hQ9⟩ : ∃ q9Q : State → Prop, q9Q = MQ below (QI D tc base (fun z u => ∃ X1 : Nat → Int → Int → Int, u = (ad, cnt, X1, Y, ln) ∧ Rng X1 ∧ Frm [4001, 6400, 6500, 6700, 6800, 6600, 4023, 5600] X X1 ∧ MInv X1 ∧ (-2147483648 ≤ z ∧ z ≤ 2147483647) ∧ ((¬ ((0 ≤ x ∧ x < X 40 0 13 ∧ 0 ≤ k ∧ k < X 44 0 (X 55 0 x)) ∧ (0 ≤ y ∧ y < X 40 0 13 ∧ 0 ≤ j ∧ j < X 44 0 (X 55 0 y))) ∧ z = -1) ∨ (((0 ≤ x ∧ x < X 40 0 13 ∧ 0 ≤ k ∧ k < X 44 0 (X 55 0 x)) ∧ (0 ≤ y ∧ y < X 40 0 13 ∧ 0 ≤ j ∧ j < X 44 0 (X 55 0 y))) ∧ (X 46 0 (5 * X 55 0 x + k) < 3 ∨ X 46 0 (5 * X 55 0 x + k) ≠ X 46 0 (5 * X 55 0 y + j)) ∧ z = -14) ∨ (((0 ≤ x ∧ x < X 40 0 13 ∧ 0 ≤ k ∧ k < X 44 0 (X 55 0 x)) ∧ (0 ≤ y ∧ y < X 40 0 13 ∧ 0 ≤ j ∧ j < X 44 0 (X 55 0 y))) ∧ 3 ≤ X 46 0 (5 * X 55 0 x + k) ∧ X 46 0 (5 * X 55 0 x + k) = X 46 0 (5 * X 55 0 y + j) ∧ (0 < X 40 0 20 ∧ X 40 0 22 = 80) ∧ z = -4) ∨ (((0 ≤ x ∧ x < X 40 0 13 ∧ 0 ≤ k ∧ k < X 44 0 (X 55 0 x)) ∧ (0 ≤ y ∧ y < X 40 0 13 ∧ 0 ≤ j ∧ j < X 44 0 (X 55 0 y))) ∧ 3 ≤ X 46 0 (5 * X 55 0 x + k) ∧ X 46 0 (5 * X 55 0 x + k) = X 46 0 (5 * X 55 0 y + j) ∧ (X 40 0 20 = 0 ∨ X 40 0 22 ≤ 79) ∧ z = 1)) ∧ (z < 0 → Frm [4001] X X1) ∧ (z = 1 → eNoteM X X1 x k (if 3 ≤ X 46 0 (5 * X 55 0 x + k) then X 56 0 (5 * x + k) else -1) (-1) (X 56 0 (5 * x + k)) ∧ X1 56 0 (5 * x + k) = X 56 0 (5 * y + j) ∧ ∀ p, p ≠ 5 * x + k → X1 56 0 p = X 56 0 p))) av9 s 0 0 (frA base) := ⟨_, rfl⟩
  rw [← hQ9]
  have hi9 : ∀ w ∈ wsX90, w ∈ wsX9_share := fun w h => List.mem_cons_of_mem _ (List.mem_append_right _ h)
  have hf9 : fctx s m _ RX9 wsX9_share D tc RX9 TX9 51 9 := ⟨hts, hi9, hown, hK.1, rfl⟩
  have lk48 := hts (.fieldLink RX9 48 (TX9 15).1 (TX9 15).2.1 (TX9 15).2.2.1) (gj_X9_share_0 _ (gp_1 gp_h))
  have lk145 := hts (.fieldLink RX9 145 (TX9 0).1 (TX9 0).2.1 (TX9 0).2.2.1) (gj_X9_share_0 _ (gp_h))
  have hc40 : cnt 40 = 1 := hFx.at 40 1 (by decide)
  have hc56 : cnt 56 = 1 := hFx.at 56 1 (by decide)
  have hl : lv_has ls 5 [(0, .ref (ad 40 0)), (1, .int (jI x)), (2, .int (jI k)), (3, .int (jI y)), (4, .int (jI j))] := hl
  have fstypes : 0 ≤ X 40 0 2 ∧ X 40 0 2 ≤ 8 := hR 40 0 2
  have fsthings : 0 ≤ X 40 0 13 ∧ X 40 0 13 ≤ 30 := hR 40 0 13
  have fsmarks : 0 ≤ X 40 0 20 ∧ X 40 0 20 ≤ 4 := hR 40 0 20
  have fsnotes : 0 ≤ X 40 0 22 ∧ X 40 0 22 ≤ 80 := hR 40 0 22
  refine lv_aload_n hx hb dX9_share_0 rfl (lv_at hl 0 rfl) ?_
  refine lv_iconst (v := jI 0) hx hb dX9_share_1 rfl ?_
  refine x_puti (jz := 0) hx hb hf9 ⟨tyX9_ok, nmX9⟩ hw hS (by first | exact Int.le_refl 0 | omega) (by first | exact zlt hc40 | omega) sl_40_0 rfl lk145 rfl (tyX9_ok 0 (by decide)) rfl rfl dX9_share_2 (fun H locs hw hS => ?_)
  obtain ⟨X1, hX1⟩ : ∃ Xq, Xq = u3 X 40 0 0 0 := ⟨_, rfl⟩
  rw [← hX1] at hw
  have hRX1 : Rng X1 := by rw [hX1]; exact rng_set hR (show (-2147483648) ≤ 0 ∧ 0 ≤ 2147483647 by omega)
  have hVX1 : X1 40 0 0 = 0 := by rw [hX1]; exact u3_s _ _ _ _ _
  have hFX1 : Frm [4001, 6400, 6500, 6700, 6800, 6600, 4023, 5600] X X1 := by rw [hX1]; exact Frm.set Frm.rf (show 4001 ∈ [4001, 6400, 6500, 6700, 6800, 6600, 4023, 5600] by first | exact nlm_in rfl | decide)
  refine lv_aload_n hx hb dX9_share_5 rfl (lv_at hl 0 rfl) ?_
  refine lv_iload_n hx hb dX9_share_6 rfl (lv_at hl 1 rfl) ?_
  refine lv_iload_n hx hb dX9_share_7 rfl (lv_at hl 2 rfl) ?_
  refine gos_i (run_V (As := [.int (jI x), .int (jI k)]) (rest := []) hx hb hml hown hts (c_X9_isField l D tc base ad cnt X1 Y ln hRX1 hFx x k (by omega) (by omega)) (cwV 2 hts gX9_share_X9_isField rfl rfl rfl (by first | exact hd_X9_isField | decide +kernel) ⟨Nat.le_of_ble_eq_true rfl, Nat.le_of_ble_eq_true rfl⟩) hK hw (by first | exact Int.le_refl 0 | omega) (by first | exact zlt hc40 | omega) sl_40_0 rfl rfl hl.1 rfl (Nat.le_of_ble_eq_true rfl) dX9_share_8 ⟨Nat.le_of_ble_eq_true rfl, Nat.le_of_ble_eq_true rfl⟩) hS (fun z2 u3 H locs p4 hw hS => ?_)
  obtain ⟨eu3, p4⟩ := p4
  subst eu3
  have e5 : X1 40 0 13 = X 40 0 13 := by rw [hX1, u3_j _ _ _ _ (by decide)]
  have e6 : ∀ j : Int, X1 55 0 j = X 55 0 j := fun j => by rw [hX1, u3_k _ _ _ _ (by first | exact Nat.ne_of_beq_eq_false rfl | decide)]
  have e7 : ∀ j : Int, X1 44 0 j = X 44 0 j := fun j => by rw [hX1, u3_k _ _ _ _ (by first | exact Nat.ne_of_beq_eq_false rfl | decide)]
  simp only [e5, e6, e7] at p4
  have q900017 : Frm [4001] X X1 := by rw [hX1]; exact Frm.set Frm.rf (show 4001 ∈ [4001] by first | exact nlm_in rfl | decide)
  rcases p4 with ⟨ez2, p4⟩ | ⟨ez2, p4⟩
  · subst ez2
    refine x_if_eqF (tgt := 24) hx hb (by omega) (by decide) dX9_share_11 (by decide) ?_
    refine lv_aload_n hx hb dX9_share_14 rfl (lv_at hl 0 rfl) ?_
    refine lv_iload_n hx hb dX9_share_15 rfl (lv_at hl 3 rfl) ?_
    refine lv_iload hx hb dX9_share_16 (lv_at hl 4 rfl) ?_
    refine gos_i (run_V (As := [.int (jI y), .int (jI j)]) (rest := []) hx hb hml hown hts (c_X9_isField l D tc base ad cnt X1 Y ln hRX1 hFx y j (by omega) (by omega)) (cwV 2 hts gX9_share_X9_isField rfl rfl rfl (by first | exact hd_X9_isField | decide +kernel) ⟨Nat.le_of_ble_eq_true rfl, Nat.le_of_ble_eq_true rfl⟩) hK hw (by first | exact Int.le_refl 0 | omega) (by first | exact zlt hc40 | omega) sl_40_0 rfl rfl hl.1 rfl (Nat.le_of_ble_eq_true rfl) dX9_share_18 ⟨Nat.le_of_ble_eq_true rfl, Nat.le_of_ble_eq_true rfl⟩) hS (fun z8 u9 H locs p10 hw hS => ?_)
    obtain ⟨eu9, p10⟩ := p10
    subst eu9
    have e11 : X1 40 0 13 = X 40 0 13 := by rw [hX1, u3_j _ _ _ _ (by decide)]
    have e12 : ∀ j : Int, X1 55 0 j = X 55 0 j := fun j => by rw [hX1, u3_k _ _ _ _ (by first | exact Nat.ne_of_beq_eq_false rfl | decide)]
    have e13 : ∀ j : Int, X1 44 0 j = X 44 0 j := fun j => by rw [hX1, u3_k _ _ _ _ (by first | exact Nat.ne_of_beq_eq_false rfl | decide)]
    simp only [e11, e12, e13] at p10
    rcases p10 with ⟨ez8, p10⟩ | ⟨ez8, p10⟩
    · subst ez8
      refine x_if_neT (tgt := 26) hx hb (by omega) (by decide) dX9_share_21 (by decide) ?_
      refine lv_aload_n hx hb dX9_share_26 rfl (lv_at hl 0 rfl) ?_
      refine lv_iload_n hx hb dX9_share_27 rfl (lv_at hl 1 rfl) ?_
      refine lv_iload_n hx hb dX9_share_28 rfl (lv_at hl 2 rfl) ?_
      refine gos_i (run_V (As := [.int (jI x), .int (jI k)]) (rest := []) hx hb hml hown hts (c_X9_lane l D tc base ad cnt X1 Y ln hRX1 hFx x k (by omega) (by omega)) (cwV 2 hts gX9_share_X9_lane rfl rfl rfl (by first | exact hd_X9_lane | decide +kernel) ⟨Nat.le_of_ble_eq_true rfl, Nat.le_of_ble_eq_true rfl⟩) hK hw (by first | exact Int.le_refl 0 | omega) (by first | exact zlt hc40 | omega) sl_40_0 rfl rfl hl.1 rfl (Nat.le_of_ble_eq_true rfl) dX9_share_29 ⟨Nat.le_of_ble_eq_true rfl, Nat.le_of_ble_eq_true rfl⟩) hS (fun z14 u15 H locs p16 hw hS => ?_)
      obtain ⟨eu15, p16⟩ := p16
      subst eu15
      have e17 : ∀ j : Int, X1 55 0 j = X 55 0 j := fun j => by rw [hX1, u3_k _ _ _ _ (by first | exact Nat.ne_of_beq_eq_false rfl | decide)]
      have e18 : ∀ j : Int, X1 46 0 j = X 46 0 j := fun j => by rw [hX1, u3_k _ _ _ _ (by first | exact Nat.ne_of_beq_eq_false rfl | decide)]
      simp only [e17, e18] at p16
      refine lv_iconst (v := jI 3) hx hb dX9_share_32 rfl ?_
      refine x_icmp_lt (tgt := 52) hx hb (by omega) (by omega) dX9_share_33 (by decide) (fun c19 => ?_) (fun c19 => ?_)
      · refine lv_bipush (v := jI (-14)) hx hb dX9_share_52 (by decide) ?_
        rw [hQ9]
        refine ret_i (mc := 0) (ms := 0) hx hb hr hlocks hw hS (by first | exact Nat.le_of_ble_eq_true rfl | omega) (by first | exact Nat.le_of_ble_eq_true rfl | omega) dX9_share_54 ?_
        have hMq20 : MInv X1 := minv_frm hMI q900017 (by decide)
        exact ⟨X1, rfl, hRX1, hFX1, hMq20, by omega, (by (try delta Hid at *); exact Or.inr (Or.inl ⟨(by omega), (by omega), by omega⟩)), fun _ => q900017, fun q => (by exfalso; omega)⟩
      · refine lv_aload_n hx hb dX9_share_36 rfl (lv_at hl 0 rfl) ?_
        refine lv_iload_n hx hb dX9_share_37 rfl (lv_at hl 1 rfl) ?_
        refine lv_iload_n hx hb dX9_share_38 rfl (lv_at hl 2 rfl) ?_
        refine gos_i (run_V (As := [.int (jI x), .int (jI k)]) (rest := []) hx hb hml hown hts (c_X9_lane l D tc base ad cnt X1 Y ln hRX1 hFx x k (by omega) (by omega)) (cwV 2 hts gX9_share_X9_lane rfl rfl rfl (by first | exact hd_X9_lane | decide +kernel) ⟨Nat.le_of_ble_eq_true rfl, Nat.le_of_ble_eq_true rfl⟩) hK hw (by first | exact Int.le_refl 0 | omega) (by first | exact zlt hc40 | omega) sl_40_0 rfl rfl hl.1 rfl (Nat.le_of_ble_eq_true rfl) dX9_share_39 ⟨Nat.le_of_ble_eq_true rfl, Nat.le_of_ble_eq_true rfl⟩) hS (fun z23 u24 H locs p25 hw hS => ?_)
        obtain ⟨eu24, p25⟩ := p25
        subst eu24
        have e26 : ∀ j : Int, X1 55 0 j = X 55 0 j := fun j => by rw [hX1, u3_k _ _ _ _ (by first | exact Nat.ne_of_beq_eq_false rfl | decide)]
        have e27 : ∀ j : Int, X1 46 0 j = X 46 0 j := fun j => by rw [hX1, u3_k _ _ _ _ (by first | exact Nat.ne_of_beq_eq_false rfl | decide)]
        simp only [e26, e27] at p25
        refine lv_aload_n hx hb dX9_share_42 rfl (lv_at hl 0 rfl) ?_
        refine lv_iload_n hx hb dX9_share_43 rfl (lv_at hl 3 rfl) ?_
        refine lv_iload hx hb dX9_share_44 (lv_at hl 4 rfl) ?_
        refine gos_i (run_V (As := [.int (jI y), .int (jI j)]) (rest := [.int (jI z23)]) hx hb hml hown hts (c_X9_lane l D tc base ad cnt X1 Y ln hRX1 hFx y j (by omega) (by omega)) (cwV 2 hts gX9_share_X9_lane rfl rfl rfl (by first | exact hd_X9_lane | decide +kernel) ⟨Nat.le_of_ble_eq_true rfl, Nat.le_of_ble_eq_true rfl⟩) hK hw (by first | exact Int.le_refl 0 | omega) (by first | exact zlt hc40 | omega) sl_40_0 rfl rfl hl.1 rfl (Nat.le_of_ble_eq_true rfl) dX9_share_46 ⟨Nat.le_of_ble_eq_true rfl, Nat.le_of_ble_eq_true rfl⟩) hS (fun z28 u29 H locs p30 hw hS => ?_)
        obtain ⟨eu29, p30⟩ := p30
        subst eu29
        have e31 : ∀ j : Int, X1 55 0 j = X 55 0 j := fun j => by rw [hX1, u3_k _ _ _ _ (by first | exact Nat.ne_of_beq_eq_false rfl | decide)]
        have e32 : ∀ j : Int, X1 46 0 j = X 46 0 j := fun j => by rw [hX1, u3_k _ _ _ _ (by first | exact Nat.ne_of_beq_eq_false rfl | decide)]
        simp only [e31, e32] at p30
        refine x_icmp_eq (tgt := 55) hx hb (by omega) (by omega) dX9_share_49 (by decide) (fun c33 => ?_) (fun c33 => ?_)
        · refine lv_aload_n hx hb dX9_share_55 rfl (lv_at hl 0 rfl) ?_
          refine gos_i (run_V (As := []) (rest := []) hx hb hml hown hts (c_X9_isFull l D tc base ad cnt X1 Y ln hRX1 hFx) (cwV 0 hts gX9_share_X9_isFull rfl rfl rfl (by first | exact hd_X9_isFull | decide +kernel) ⟨Nat.le_of_ble_eq_true rfl, Nat.le_of_ble_eq_true rfl⟩) hK hw (by first | exact Int.le_refl 0 | omega) (by first | exact zlt hc40 | omega) sl_40_0 rfl rfl hl.1 rfl (Nat.le_of_ble_eq_true rfl) dX9_share_56 ⟨Nat.le_of_ble_eq_true rfl, Nat.le_of_ble_eq_true rfl⟩) hS (fun z34 u35 H locs p36 hw hS => ?_)
          obtain ⟨eu35, p36⟩ := p36
          subst eu35
          have e37 : X1 40 0 20 = X 40 0 20 := by rw [hX1, u3_j _ _ _ _ (by decide)]
          have e38 : X1 40 0 22 = X 40 0 22 := by rw [hX1, u3_j _ _ _ _ (by decide)]
          simp only [e37, e38] at p36
          rcases p36 with ⟨ez34, p36⟩ | ⟨ez34, p36⟩
          · subst ez34
            refine x_if_eqF (tgt := 65) hx hb (by omega) (by decide) dX9_share_59 (by decide) ?_
            refine lv_bipush (v := jI (-4)) hx hb dX9_share_62 (by decide) ?_
            rw [hQ9]
            refine ret_i (mc := 0) (ms := 0) hx hb hr hlocks hw hS (by first | exact Nat.le_of_ble_eq_true rfl | omega) (by first | exact Nat.le_of_ble_eq_true rfl | omega) dX9_share_64 ?_
            have hMq39 : MInv X1 := minv_frm hMI q900017 (by decide)
            exact ⟨X1, rfl, hRX1, hFX1, hMq39, by omega, (by (try delta Hid at *); exact Or.inr (Or.inr (Or.inl ⟨(by omega), by omega, by omega, (by omega), by omega⟩))), fun _ => q900017, fun q => (by exfalso; omega)⟩
          · subst ez34
            refine x_if_eqT (tgt := 65) hx hb (by omega) (by decide) dX9_share_59 (by decide) ?_
            refine lv_aload_n hx hb dX9_share_65 rfl (lv_at hl 0 rfl) ?_
            refine lv_iload_n hx hb dX9_share_66 rfl (lv_at hl 1 rfl) ?_
            refine lv_iload_n hx hb dX9_share_67 rfl (lv_at hl 2 rfl) ?_
            refine lv_aload_n hx hb dX9_share_68 rfl (lv_at hl 0 rfl) ?_
            refine x_geto hx hb hf9 hw (by first | exact Int.le_refl 0 | omega) (by first | exact zlt hc40 | omega) sl_40_15 lk48 dX9_share_69 ?_
            refine lv_iconst (v := jI 5) hx hb dX9_share_72 rfl ?_
            refine lv_iload_n hx hb dX9_share_73 rfl (lv_at hl 3 rfl) ?_
            refine x_imul hx hb dX9_share_74 ?_
            refine lv_iload hx hb dX9_share_75 (lv_at hl 4 rfl) ?_
            refine x_iadd hx hb dX9_share_77 ?_
            obtain ⟨hy1, hy2, hy3⟩ := hMI.1 y j (by omega) (by omega) (by omega) (by omega)
            refine x_lald hx hb hK.1 hw (by first | exact Int.le_refl 0 | omega) (by first | exact zlt hc56 | omega) ar_56 (len_E ar_56 (by first | exact Nat.ne_of_beq_eq_false rfl | decide)) (by omega) (by omega) (by omega) dX9_share_78 ?_
            have e42 : ∀ p9 q9 : Int, X1 56 p9 q9 = X 56 p9 q9 := fun p9 q9 => by rw [hX1, u3_k _ _ _ _ (by first | exact Nat.ne_of_beq_eq_false rfl | decide)]
            rw [e42 0 ((5 * y) + j)]
            have f43 : (-9223372036854775808) ≤ X 56 0 ((5 * y) + j) ∧ X 56 0 ((5 * y) + j) ≤ 9223372036854775807 := hR 56 0 ((5 * y) + j)
            have hMq44 : MInv X1 := minv_frm hMI q900017 (by decide)
            have e46 : ∀ j : Int, X1 55 0 j = X 55 0 j := fun j => by rw [hX1, u3_k _ _ _ _ (by first | exact Nat.ne_of_beq_eq_false rfl | decide)]
            have e47 : ∀ j : Int, X1 44 0 j = X 44 0 j := fun j => by rw [hX1, u3_k _ _ _ _ (by first | exact Nat.ne_of_beq_eq_false rfl | decide)]
            have e48 : ∀ j : Int, X1 46 0 j = X 46 0 j := fun j => by rw [hX1, u3_k _ _ _ _ (by first | exact Nat.ne_of_beq_eq_false rfl | decide)]
            have e49 : X1 40 0 13 = X 40 0 13 := by rw [hX1, u3_j _ _ _ _ (by decide)]
            refine gos_v (run_V (As := [.int (jI x), .int (jI k), .long (jL (X 56 0 ((5 * y) + j)))]) (rest := []) hx hb hml hown hts (c_X9_becomes l D tc base ad cnt X1 Y ln hRX1 hFx hMq44 x k (X 56 0 ((5 * y) + j)) (by omega) (by omega) (by omega) (by simp only [e46, e47, e48, e49, e37, e38]; omega) (by simp only [e46, e47, e48, e49, e37, e38]; omega) (by unfold tyv; simp only [e46, e47, e48, e49, e37, e38]; exact ⟨fun _ => by omega, fun _ => by omega, fun _ => by omega⟩) (by simp only [e46, e47, e48, e49, e37, e38]; (try simp only [Hid] at *); omega)) (cwV 3 hts gX9_share_X9_becomes rfl rfl rfl (by first | exact hd_X9_becomes | decide +kernel) ⟨Nat.le_of_ble_eq_true rfl, Nat.le_of_ble_eq_true rfl⟩) hK hw (by first | exact Int.le_refl 0 | omega) (by first | exact zlt hc40 | omega) sl_40_0 rfl rfl hl.1 rfl (Nat.le_of_ble_eq_true rfl) dX9_share_79 ⟨Nat.le_of_ble_eq_true rfl, Nat.le_of_ble_eq_true rfl⟩) hS (fun u53 H locs p54 hw hS => ?_)
            obtain ⟨X55, eu53, hRX55, hG56, hMIX55, p54, hbnX55, hbvX55, hboX55⟩ := p54
            subst eu53
            have hFX55 : Frm [4001, 6400, 6500, 6700, 6800, 6600, 4023, 5600] X X55 := Frm.tr hFX1 (Frm.mono hG56 (by first | exact nls_of rfl | decide))
            refine lv_iconst (v := jI 1) hx hb dX9_share_82 rfl ?_
            rw [hQ9]
            refine ret_i (mc := 0) (ms := 0) hx hb hr hlocks hw hS (by first | exact Nat.le_of_ble_eq_true rfl | omega) (by first | exact Nat.le_of_ble_eq_true rfl | omega) dX9_share_83 ?_
            have e58 : ∀ j : Int, X1 46 0 j = X 46 0 j := fun j => by rw [hX1, u3_k _ _ _ _ (by first | exact Nat.ne_of_beq_eq_false rfl | decide)]
            have e59 : ∀ j : Int, X1 55 0 j = X 55 0 j := fun j => by rw [hX1, u3_k _ _ _ _ (by first | exact Nat.ne_of_beq_eq_false rfl | decide)]
            have e60 : ∀ j : Int, X1 56 0 j = X 56 0 j := fun j => by rw [hX1, u3_k _ _ _ _ (by first | exact Nat.ne_of_beq_eq_false rfl | decide)]
            exact ⟨X55, rfl, hRX55, hFX55, hMIX55, by omega, (by (try delta Hid at *); exact Or.inr (Or.inr (Or.inr (⟨(by omega), by omega, by omega, (by omega), by omega⟩)))), fun q => (by exfalso; omega), fun _ => (by simp only [e58, e59, e60] at hbnX55 hboX55; exact ⟨eNoteM.from (M := [4001]) hbnX55 q900017 (by decide), hbvX55, hboX55⟩)⟩
        · refine lv_bipush (v := jI (-14)) hx hb dX9_share_52 (by decide) ?_
          rw [hQ9]
          refine ret_i (mc := 0) (ms := 0) hx hb hr hlocks hw hS (by first | exact Nat.le_of_ble_eq_true rfl | omega) (by first | exact Nat.le_of_ble_eq_true rfl | omega) dX9_share_54 ?_
          have hMq61 : MInv X1 := minv_frm hMI q900017 (by decide)
          exact ⟨X1, rfl, hRX1, hFX1, hMq61, by omega, (by (try delta Hid at *); exact Or.inr (Or.inl ⟨(by omega), (by omega), by omega⟩)), fun _ => q900017, fun q => (by exfalso; omega)⟩
    · subst ez8
      refine x_if_neF (tgt := 26) hx hb (by omega) (by decide) dX9_share_21 (by decide) ?_
      refine lv_iconst (v := jI (-1)) hx hb dX9_share_24 rfl ?_
      rw [hQ9]
      refine ret_i (mc := 0) (ms := 0) hx hb hr hlocks hw hS (by first | exact Nat.le_of_ble_eq_true rfl | omega) (by first | exact Nat.le_of_ble_eq_true rfl | omega) dX9_share_25 ?_
      have hMq64 : MInv X1 := minv_frm hMI q900017 (by decide)
      exact ⟨X1, rfl, hRX1, hFX1, hMq64, by omega, (by (try delta Hid at *); exact Or.inl ⟨(fun q => by omega), by omega⟩), fun _ => q900017, fun q => (by exfalso; omega)⟩
  · subst ez2
    refine x_if_eqT (tgt := 24) hx hb (by omega) (by decide) dX9_share_11 (by decide) ?_
    refine lv_iconst (v := jI (-1)) hx hb dX9_share_24 rfl ?_
    rw [hQ9]
    refine ret_i (mc := 0) (ms := 0) hx hb hr hlocks hw hS (by first | exact Nat.le_of_ble_eq_true rfl | omega) (by first | exact Nat.le_of_ble_eq_true rfl | omega) dX9_share_25 ?_
    have hMq67 : MInv X1 := minv_frm hMI q900017 (by decide)
    exact ⟨X1, rfl, hRX1, hFX1, hMq67, by omega, (by (try delta Hid at *); exact Or.inl ⟨(fun q => by omega), by omega⟩), fun _ => q900017, fun q => (by exfalso; omega)⟩

set_option maxHeartbeats 4000000 in
set_option maxRecDepth 100000 in
theorem c_X9_thing (l : Launch) (D : va_G) (tc : Nat → ClassId) (base : Nat) (ad : Nat → Int → Nat) (cnt : Nat → Int) (X : Nat → Int → Int → Int) (Y : Nat → Int → Int → Option Int) (ln : Int → Int) (hR : Rng X) (hFx : Fx cnt) (hMI : MInv X) (t : Int) (ht : -2147483648 ≤ t ∧ t ≤ 2147483647) : KI l D tc base yX9_thing wsX9_thing ({ frames := 1, cells := 0, slots := 0, locals := 21 } : Room) [.ref (ad 40 0), .int (jI t)] (ad, cnt, X, Y, ln) 0 0 (fun z u => ∃ X1 : Nat → Int → Int → Int, u = (ad, cnt, X1, Y, ln) ∧ Rng X1 ∧ Frm [4001, 5500, 5600, 4014] X X1 ∧ MInv X1 ∧ (-2147483648 ≤ z ∧ z ≤ 2147483647) ∧ ((¬ (0 ≤ t ∧ t < X 40 0 2) ∧ z = -1) ∨ ((0 ≤ t ∧ t < X 40 0 2) ∧ X 40 0 13 = 30 ∧ z = -4) ∨ ((0 ≤ t ∧ t < X 40 0 2) ∧ X 40 0 13 < 30 ∧ z = X 40 0 13)) ∧ (z < 0 → Frm [4001] X X1) ∧ (0 ≤ z → X1 40 0 13 = X 40 0 13 + 1 ∧ X1 55 0 z = t ∧ (∀ y, y ≠ z → X1 55 0 y = X 55 0 y) ∧ (∀ q, 0 ≤ q → q < X 44 0 t → X1 56 0 (5 * z + q) = X 47 0 (5 * t + q)) ∧ ∀ j, j < 5 * z → X1 56 0 j = X 56 0 j)) := by
  refine K_of (cc := cX9_thing) (maxL := 3) (ret := (some .int)) (by decide) rfl (Nat.le_of_ble_eq_true rfl) ?_
  intro p e s m below meth c ls hx hb hr hml hown hts hlocks hl hK hw hS
  have hown : s.vm.findClass RX9 = some m.cls := hown
  obtain ⟨av9, hav9⟩ : ∃ a9 : Array Value, a9 = ([.ref (ad 40 0), .int (jI t)] : List Value).toArray := ⟨_, rfl⟩
  rw [← hav9] at hts ⊢
  obtain ⟨Q9, hQ9⟩ : ∃ q9Q : State → Prop, q9Q = MQ below (QI D tc base (fun z u => ∃ X1 : Nat → Int → Int → Int, u = (ad, cnt, X1, Y, ln) ∧ Rng X1 ∧ Frm [4001, 5500, 5600, 4014] X X1 ∧ MInv X1 ∧ (-2147483648 ≤ z ∧ z ≤ 2147483647) ∧ ((¬ (0 ≤ t ∧ t < X 40 0 2) ∧ z = -1) ∨ ((0 ≤ t ∧ t < X 40 0 2) ∧ X 40 0 13 = 30 ∧ z = -4) ∨ ((0 ≤ t ∧ t < X 40 0 2) ∧ X 40 0 13 < 30 ∧ z = X 40 0 13)) ∧ (z < 0 → Frm [4001] X X1) ∧ (0 ≤ z → X1 40 0 13 = X 40 0 13 + 1 ∧ X1 55 0 z = t ∧ (∀ y, y ≠ z → X1 55 0 y = X 55 0 y) ∧ (∀ q, 0 ≤ q → q < X 44 0 t → X1 56 0 (5 * z + q) = X 47 0 (5 * t + q)) ∧ ∀ j, j < 5 * z → X1 56 0 j = X 56 0 j))) av9 s 0 0 (frA base) := ⟨_, rfl⟩
  rw [← hQ9]
  have hi9 : ∀ w ∈ wsX90, w ∈ wsX9_thing := fun w h => List.mem_cons_of_mem _ (List.mem_append_right _ h)
  have hf9 : fctx s m _ RX9 wsX9_thing D tc RX9 TX9 51 9 := ⟨hts, hi9, hown, hK.1, rfl⟩
  have lk13 := hts (.fieldLink RX9 13 (TX9 3).1 (TX9 3).2.1 (TX9 3).2.2.1) (gj_X9_thing_0 _ (gp_1 (gp_1 (gp_1 gp_h))))
  have lk23 := hts (.fieldLink RX9 23 (TX9 6).1 (TX9 6).2.1 (TX9 6).2.2.1) (gj_X9_thing_0 _ (gp_4 (gp_1 gp_h)))
  have lk45 := hts (.fieldLink RX9 45 (TX9 14).1 (TX9 14).2.1 (TX9 14).2.2.1) (gj_X9_thing_0 _ (gp_1 (gp_1 gp_h)))
  have lk48 := hts (.fieldLink RX9 48 (TX9 15).1 (TX9 15).2.1 (TX9 15).2.2.1) (gj_X9_thing_0 _ (gp_4 gp_h))
  have lk145 := hts (.fieldLink RX9 145 (TX9 0).1 (TX9 0).2.1 (TX9 0).2.2.1) (gj_X9_thing_0 _ (gp_h))
  have lk151 := hts (.fieldLink RX9 151 (TX9 13).1 (TX9 13).2.1 (TX9 13).2.2.1) (gj_X9_thing_0 _ (gp_1 gp_h))
  have hc40 : cnt 40 = 1 := hFx.at 40 1 (by decide)
  have hc44 : cnt 44 = 1 := hFx.at 44 1 (by decide)
  have hc47 : cnt 47 = 1 := hFx.at 47 1 (by decide)
  have hc55 : cnt 55 = 1 := hFx.at 55 1 (by decide)
  have hc56 : cnt 56 = 1 := hFx.at 56 1 (by decide)
  have hl : lv_has ls 3 [(0, .ref (ad 40 0)), (1, .int (jI t))] := hl
  have fstypes : 0 ≤ X 40 0 2 ∧ X 40 0 2 ≤ 8 := hR 40 0 2
  have fsthings : 0 ≤ X 40 0 13 ∧ X 40 0 13 ≤ 30 := hR 40 0 13
  have fsmarks : 0 ≤ X 40 0 20 ∧ X 40 0 20 ≤ 4 := hR 40 0 20
  have fsnotes : 0 ≤ X 40 0 22 ∧ X 40 0 22 ≤ 80 := hR 40 0 22
  refine lv_aload_n hx hb dX9_thing_0 rfl (lv_at hl 0 rfl) ?_
  refine lv_iconst (v := jI 0) hx hb dX9_thing_1 rfl ?_
  refine x_puti (jz := 0) hx hb hf9 ⟨tyX9_ok, nmX9⟩ hw hS (by first | exact Int.le_refl 0 | omega) (by first | exact zlt hc40 | omega) sl_40_0 rfl lk145 rfl (tyX9_ok 0 (by decide)) rfl rfl dX9_thing_2 (fun H locs hw hS => ?_)
  obtain ⟨X1, hX1⟩ : ∃ Xq, Xq = u3 X 40 0 0 0 := ⟨_, rfl⟩
  rw [← hX1] at hw
  have hRX1 : Rng X1 := by rw [hX1]; exact rng_set hR (show (-2147483648) ≤ 0 ∧ 0 ≤ 2147483647 by omega)
  have hVX1 : X1 40 0 0 = 0 := by rw [hX1]; exact u3_s _ _ _ _ _
  have hFX1 : Frm [4001, 5500, 5600, 4014] X X1 := by rw [hX1]; exact Frm.set Frm.rf (show 4001 ∈ [4001, 5500, 5600, 4014] by first | exact nlm_in rfl | decide)
  refine lv_aload_n hx hb dX9_thing_5 rfl (lv_at hl 0 rfl) ?_
  refine lv_iload_n hx hb dX9_thing_6 rfl (lv_at hl 1 rfl) ?_
  refine gos_i (run_V (As := [.int (jI t)]) (rest := []) hx hb hml hown hts (c_X9_isType l D tc base ad cnt X1 Y ln hRX1 hFx t (by omega)) (cwV 1 hts gX9_thing_X9_isType rfl rfl rfl (by first | exact hd_X9_isType | decide +kernel) ⟨Nat.le_of_ble_eq_true rfl, Nat.le_of_ble_eq_true rfl⟩) hK hw (by first | exact Int.le_refl 0 | omega) (by first | exact zlt hc40 | omega) sl_40_0 rfl rfl hl.1 rfl (Nat.le_of_ble_eq_true rfl) dX9_thing_7 ⟨Nat.le_of_ble_eq_true rfl, Nat.le_of_ble_eq_true rfl⟩) hS (fun z2 u3 H locs p4 hw hS => ?_)
  obtain ⟨eu3, p4⟩ := p4
  subst eu3
  have e5 : X1 40 0 2 = X 40 0 2 := by rw [hX1, u3_j _ _ _ _ (by decide)]
  simp only [e5] at p4
  have q900019 : Frm [4001] X X1 := by rw [hX1]; exact Frm.set Frm.rf (show 4001 ∈ [4001] by first | exact nlm_in rfl | decide)
  rcases p4 with ⟨ez2, p4⟩ | ⟨ez2, p4⟩
  · subst ez2
    refine x_if_neT (tgt := 15) hx hb (by omega) (by decide) dX9_thing_10 (by decide) ?_
    refine lv_aload_n hx hb dX9_thing_15 rfl (lv_at hl 0 rfl) ?_
    refine x_geti (jz := 13) hx hb hf9 hw (by first | exact Int.le_refl 0 | omega) (by first | exact zlt hc40 | omega) sl_40_13 rfl lk151 dX9_thing_16 ?_
    have e6 : X1 40 0 13 = X 40 0 13 := by rw [hX1, u3_j _ _ _ _ (by decide)]
    rw [e6]
    have f7 : 0 ≤ X 40 0 13 ∧ X 40 0 13 ≤ 30 := hR 40 0 13
    refine lv_bipush (v := jI 30) hx hb dX9_thing_19 (by decide) ?_
    refine x_icmp_ne (tgt := 27) hx hb (by omega) (by omega) dX9_thing_21 (by decide) (fun c8 => ?_) (fun c8 => ?_)
    · refine lv_aload_n hx hb dX9_thing_27 rfl (lv_at hl 0 rfl) ?_
      refine x_geto hx hb hf9 hw (by first | exact Int.le_refl 0 | omega) (by first | exact zlt hc40 | omega) sl_40_14 lk45 dX9_thing_28 ?_
      refine lv_aload_n hx hb dX9_thing_31 rfl (lv_at hl 0 rfl) ?_
      refine x_geti (jz := 13) hx hb hf9 hw (by first | exact Int.le_refl 0 | omega) (by first | exact zlt hc40 | omega) sl_40_13 rfl lk151 dX9_thing_32 ?_
      have e9 : X1 40 0 13 = X 40 0 13 := by rw [hX1, u3_j _ _ _ _ (by decide)]
      rw [e9]
      have f10 : 0 ≤ X 40 0 13 ∧ X 40 0 13 ≤ 30 := hR 40 0 13
      refine lv_iload_n hx hb dX9_thing_35 rfl (lv_at hl 1 rfl) ?_
      refine x_iast hx hb hK.1 hw hS (by first | exact Int.le_refl 0 | omega) (by first | exact zlt hc55 | omega) ar_55 (len_E ar_55 (by first | exact Nat.ne_of_beq_eq_false rfl | decide)) (by omega) (by omega) (by omega) dX9_thing_36 (fun H locs hw hS => ?_)
      obtain ⟨X11, hX11⟩ : ∃ Xq, Xq = u3 X1 55 0 (X 40 0 13) t := ⟨_, rfl⟩
      rw [← hX11] at hw
      have hRX11 : Rng X11 := by rw [hX11]; exact rng_set hRX1 (show 0 ≤ t ∧ t ≤ 7 by omega)
      have hVX11 : X11 55 0 (X 40 0 13) = t := by rw [hX11]; exact u3_s _ _ _ _ _
      have hFX11 : Frm [4001, 5500, 5600, 4014] X X11 := by rw [hX11]; exact Frm.set hFX1 (show 5500 ∈ [4001, 5500, 5600, 4014] by first | exact nlm_in rfl | decide)
      refine lv_iconst (v := jI 0) hx hb dX9_thing_37 rfl ?_
      refine lv_istore_n (lv' := [(2, .int (jI 0)), (0, .ref (ad 40 0)), (1, .int (jI t))]) hx hb dX9_thing_38 rfl hl (by decide) rfl (fun ls hl => ?_)
      have lp39 : ∀ (nn : Nat) (k : Int) (Xa : Nat → Int → Int → Int) (H : Heap) (locs : List Loc) (ls : Array Slot), (5 - k) < (nn : Int) → (Rng Xa) → (Frm [5600] X11 Xa) → (0 ≤ k ∧ k ≤ 5) → (∀ q, 0 ≤ q → q < k → Xa 56 0 (5 * X 40 0 13 + q) = X 47 0 (5 * t + q)) → (∀ j, j < 5 * X 40 0 13 → Xa 56 0 j = X 56 0 j) → wd D tc base (ad, cnt, Xa, Y, ln) H → va_S (frA base) s.heap H locs → lv_has ls 3 [(0, .ref (ad 40 0)), (1, .int (jI t)), (2, .int (jI k))] → W p l e ({ frames := 1, cells := 0, slots := 0, locals := 21 } : Room) s m av9 below meth c H locs 0 0 Q9 (F0 m 39 ls []) := by
        intro nn
        induction nn with
        | zero => intro k Xa H locs ls hm hRXa hGXa hk hvq hlo hw hS hl; exfalso; omega
        | succ nn ih39 =>
          intro k Xa H locs ls hm hRXa hGXa hk hvq hlo hw hS hl
          have hFXa : Frm [4001, 5500, 5600, 4014] X Xa := Frm.tr hFX11 (Frm.mono hGXa (by first | exact nls_of rfl | decide))
          refine lv_iload_n hx hb dX9_thing_39 rfl (lv_at hl 2 rfl) ?_
          refine lv_aload_n hx hb dX9_thing_40 rfl (lv_at hl 0 rfl) ?_
          refine x_geto hx hb hf9 hw (by first | exact Int.le_refl 0 | omega) (by first | exact zlt hc40 | omega) sl_40_3 lk13 dX9_thing_41 ?_
          refine lv_iload_n hx hb dX9_thing_44 rfl (lv_at hl 1 rfl) ?_
          refine x_iald hx hb hK.1 hw (by first | exact Int.le_refl 0 | omega) (by first | exact zlt hc44 | omega) ar_44 (len_E ar_44 (by first | exact Nat.ne_of_beq_eq_false rfl | decide)) (by omega) (by omega) (by omega) dX9_thing_45 ?_
          have e12 : ∀ p9 q9 : Int, Xa 44 p9 q9 = X 44 p9 q9 := fun p9 q9 => by rw [hGXa 44 p9 q9 (show 4400 ∉ [5600] by first | exact nlm_ni rfl | decide), hX11, u3_k _ _ _ _ (by first | exact Nat.ne_of_beq_eq_false rfl | decide), hX1, u3_k _ _ _ _ (by first | exact Nat.ne_of_beq_eq_false rfl | decide)]
          rw [e12 0 t]
          have f13 : 0 ≤ X 44 0 t ∧ X 44 0 t ≤ 5 := hR 44 0 t
          have q900018 : Xa 40 0 13 = X 40 0 13 := by rw [hGXa 40 0 13 (show 4014 ∉ [5600] by first | exact nlm_ni rfl | decide), hX11, u3_k _ _ _ _ (by first | exact Nat.ne_of_beq_eq_false rfl | decide), hX1, u3_j _ _ _ _ (by decide)]
          refine x_icmp_ge (tgt := 78) hx hb (by omega) (by omega) dX9_thing_46 (by decide) (fun c14 => ?_) (fun c14 => ?_)
          · refine lv_aload_n hx hb dX9_thing_78 rfl (lv_at hl 0 rfl) ?_
            refine lv_dup hx hb dX9_thing_79 rfl ?_
            refine x_geti (jz := 13) hx hb hf9 hw (by first | exact Int.le_refl 0 | omega) (by first | exact zlt hc40 | omega) sl_40_13 rfl lk151 dX9_thing_80 ?_
            have e15 : Xa 40 0 13 = X 40 0 13 := by rw [hGXa 40 0 13 (show 4014 ∉ [5600] by first | exact nlm_ni rfl | decide), hX11, u3_k _ _ _ _ (by first | exact Nat.ne_of_beq_eq_false rfl | decide), hX1, u3_j _ _ _ _ (by decide)]
            rw [e15]
            have f16 : 0 ≤ X 40 0 13 ∧ X 40 0 13 ≤ 30 := hR 40 0 13
            refine lv_iconst (v := jI 1) hx hb dX9_thing_83 rfl ?_
            refine x_iadd hx hb dX9_thing_84 ?_
            refine x_puti (jz := 13) hx hb hf9 ⟨tyX9_ok, nmX9⟩ hw hS (by first | exact Int.le_refl 0 | omega) (by first | exact zlt hc40 | omega) sl_40_13 rfl lk151 rfl (tyX9_ok 13 (by decide)) rfl rfl dX9_thing_85 (fun H locs hw hS => ?_)
            obtain ⟨X17, hX17⟩ : ∃ Xq, Xq = u3 Xa 40 0 13 ((X 40 0 13) + 1) := ⟨_, rfl⟩
            rw [← hX17] at hw
            have hRX17 : Rng X17 := by rw [hX17]; exact rng_set hRXa (show 0 ≤ ((X 40 0 13) + 1) ∧ ((X 40 0 13) + 1) ≤ 30 by omega)
            have hVX17 : X17 40 0 13 = ((X 40 0 13) + 1) := by rw [hX17]; exact u3_s _ _ _ _ _
            have hFX17 : Frm [4001, 5500, 5600, 4014] X X17 := by rw [hX17]; exact Frm.set hFXa (show 4014 ∈ [4001, 5500, 5600, 4014] by first | exact nlm_in rfl | decide)
            refine lv_aload_n hx hb dX9_thing_88 rfl (lv_at hl 0 rfl) ?_
            refine x_geti (jz := 13) hx hb hf9 hw (by first | exact Int.le_refl 0 | omega) (by first | exact zlt hc40 | omega) sl_40_13 rfl lk151 dX9_thing_89 ?_
            rw [hVX17]
            refine lv_iconst (v := jI 1) hx hb dX9_thing_92 rfl ?_
            refine x_isub hx hb dX9_thing_93 ?_
            rw [hQ9]
            refine ret_i (mc := 0) (ms := 0) hx hb hr hlocks hw hS (by first | exact Nat.le_of_ble_eq_true rfl | omega) (by first | exact Nat.le_of_ble_eq_true rfl | omega) dX9_thing_94 ?_
            exact ⟨X17, rfl, hRX17, hFX17, minv_thing (t := t) hMI hR (by omega) hFX17 (fun j hj => (by rw [hX17, u3_k _ _ _ _ (by first | exact Nat.ne_of_beq_eq_false rfl | decide), hGXa 55 0 j (show 5500 ∉ [5600] by first | exact nlm_ni rfl | decide), hX11, u3_j _ _ _ _ (by omega), hX1, u3_k _ _ _ _ (by first | exact Nat.ne_of_beq_eq_false rfl | decide)])) (by rw [hX17, u3_k _ _ _ _ (by first | exact Nat.ne_of_beq_eq_false rfl | decide), hGXa 55 0 (X 40 0 13) (show 5500 ∉ [5600] by first | exact nlm_ni rfl | decide)]; exact hVX11) (fun j hj => (by rw [hX17, u3_k _ _ _ _ (by first | exact Nat.ne_of_beq_eq_false rfl | decide)]; exact hlo j hj)) (fun q a b => (by rw [hX17, u3_k _ _ _ _ (by first | exact Nat.ne_of_beq_eq_false rfl | decide)]; exact hvq q a (by omega))) hVX17, by omega, (by (try delta Hid at *); first | exact Or.inr (Or.inr (⟨(by omega), by omega, by omega⟩)) | exact Or.inl ⟨(fun q => by omega), by omega⟩ | exact Or.inr (Or.inl ⟨(by omega), by omega, by omega⟩)), fun q => (by exfalso; omega), fun _ => ⟨hVX17, (by rw [show (((X 40 0 13) + 1) - 1) = X 40 0 13 by omega]; exact (by rw [hX17, u3_k _ _ _ _ (by first | exact Nat.ne_of_beq_eq_false rfl | decide), hGXa 55 0 (X 40 0 13) (show 5500 ∉ [5600] by first | exact nlm_ni rfl | decide)]; exact hVX11)), fun y hy => (by rw [hX17, u3_k _ _ _ _ (by first | exact Nat.ne_of_beq_eq_false rfl | decide), hGXa 55 0 y (show 5500 ∉ [5600] by first | exact nlm_ni rfl | decide), hX11, u3_j _ _ _ _ (by omega), hX1, u3_k _ _ _ _ (by first | exact Nat.ne_of_beq_eq_false rfl | decide)]), fun q a b => (by rw [show (((X 40 0 13) + 1) - 1) = X 40 0 13 by omega]; exact (by rw [hX17, u3_k _ _ _ _ (by first | exact Nat.ne_of_beq_eq_false rfl | decide)]; exact hvq q a (by omega))), fun j hj => (by rw [hX17, u3_k _ _ _ _ (by first | exact Nat.ne_of_beq_eq_false rfl | decide)]; exact hlo j (by omega))⟩⟩
          · refine lv_aload_n hx hb dX9_thing_49 rfl (lv_at hl 0 rfl) ?_
            refine x_geto hx hb hf9 hw (by first | exact Int.le_refl 0 | omega) (by first | exact zlt hc40 | omega) sl_40_15 lk48 dX9_thing_50 ?_
            refine lv_iconst (v := jI 5) hx hb dX9_thing_53 rfl ?_
            refine lv_aload_n hx hb dX9_thing_54 rfl (lv_at hl 0 rfl) ?_
            refine x_geti (jz := 13) hx hb hf9 hw (by first | exact Int.le_refl 0 | omega) (by first | exact zlt hc40 | omega) sl_40_13 rfl lk151 dX9_thing_55 ?_
            have e18 : Xa 40 0 13 = X 40 0 13 := by rw [hGXa 40 0 13 (show 4014 ∉ [5600] by first | exact nlm_ni rfl | decide), hX11, u3_k _ _ _ _ (by first | exact Nat.ne_of_beq_eq_false rfl | decide), hX1, u3_j _ _ _ _ (by decide)]
            rw [e18]
            have f19 : 0 ≤ X 40 0 13 ∧ X 40 0 13 ≤ 30 := hR 40 0 13
            refine x_imul hx hb dX9_thing_58 ?_
            refine lv_iload_n hx hb dX9_thing_59 rfl (lv_at hl 2 rfl) ?_
            refine x_iadd hx hb dX9_thing_60 ?_
            refine lv_aload_n hx hb dX9_thing_61 rfl (lv_at hl 0 rfl) ?_
            refine x_geto hx hb hf9 hw (by first | exact Int.le_refl 0 | omega) (by first | exact zlt hc40 | omega) sl_40_6 lk23 dX9_thing_62 ?_
            refine lv_iconst (v := jI 5) hx hb dX9_thing_65 rfl ?_
            refine lv_iload_n hx hb dX9_thing_66 rfl (lv_at hl 1 rfl) ?_
            refine x_imul hx hb dX9_thing_67 ?_
            refine lv_iload_n hx hb dX9_thing_68 rfl (lv_at hl 2 rfl) ?_
            refine x_iadd hx hb dX9_thing_69 ?_
            refine x_lald hx hb hK.1 hw (by first | exact Int.le_refl 0 | omega) (by first | exact zlt hc47 | omega) ar_47 (len_E ar_47 (by first | exact Nat.ne_of_beq_eq_false rfl | decide)) (by omega) (by omega) (by omega) dX9_thing_70 ?_
            have e20 : ∀ p9 q9 : Int, Xa 47 p9 q9 = X 47 p9 q9 := fun p9 q9 => by rw [hGXa 47 p9 q9 (show 4700 ∉ [5600] by first | exact nlm_ni rfl | decide), hX11, u3_k _ _ _ _ (by first | exact Nat.ne_of_beq_eq_false rfl | decide), hX1, u3_k _ _ _ _ (by first | exact Nat.ne_of_beq_eq_false rfl | decide)]
            rw [e20 0 ((5 * t) + k)]
            have f21 : (-9223372036854775808) ≤ X 47 0 ((5 * t) + k) ∧ X 47 0 ((5 * t) + k) ≤ 9223372036854775807 := hR 47 0 ((5 * t) + k)
            refine x_last hx hb hK.1 hw hS (by first | exact Int.le_refl 0 | omega) (by first | exact zlt hc56 | omega) ar_56 (len_E ar_56 (by first | exact Nat.ne_of_beq_eq_false rfl | decide)) (by omega) (by omega) (by omega) dX9_thing_71 (fun H locs hw hS => ?_)
            obtain ⟨X22, hX22⟩ : ∃ Xq, Xq = u3 Xa 56 0 ((5 * (X 40 0 13)) + k) (X 47 0 ((5 * t) + k)) := ⟨_, rfl⟩
            rw [← hX22] at hw
            have hRX22 : Rng X22 := by rw [hX22]; exact rng_set hRXa (show (-9223372036854775808) ≤ (X 47 0 ((5 * t) + k)) ∧ (X 47 0 ((5 * t) + k)) ≤ 9223372036854775807 by omega)
            have hVX22 : X22 56 0 ((5 * (X 40 0 13)) + k) = (X 47 0 ((5 * t) + k)) := by rw [hX22]; exact u3_s _ _ _ _ _
            have hFX22 : Frm [4001, 5500, 5600, 4014] X X22 := by rw [hX22]; exact Frm.set hFXa (show 5600 ∈ [4001, 5500, 5600, 4014] by first | exact nlm_in rfl | decide)
            refine lv_iinc (v := jI (k + 1)) (lv' := [(2, .int (jI (k + 1))), (0, .ref (ad 40 0)), (1, .int (jI t))]) hx hb dX9_thing_72 hl (k := 2) rfl (jI_add _ _) (by decide) rfl (fun ls hl => ?_)
            refine lv_goto (tgt := 39) hx hb dX9_thing_75 (by decide) ?_
            have q23 : Frm [5600] X11 Xa := Frm.tr Frm.rf (Frm.mono hGXa (by first | exact nls_of rfl | decide))
            have q24 : Frm [5600] X11 X22 := by rw [hX22]; exact Frm.set q23 (show 5600 ∈ [5600] by first | exact nlm_in rfl | decide)
            exact ih39 (k + 1) X22 _ _ _ (by omega) hRX22 q24 (by omega) (fun q a b => if hq : q = k then (by rw [hq]; exact hVX22) else (by rw [hX22, u3_j _ _ _ _ (by omega)]; exact hvq q a (by omega))) (fun j hj => (by rw [hX22, u3_j _ _ _ _ (by omega)]; exact hlo j hj)) hw hS (lv_sub hl [1, 2, 0] rfl)
      exact lp39 (5 - 0 : Int).toNat.succ 0 X11 _ _ _ (by omega) hRX11 Frm.rf (by omega) (fun q a b => by omega) (fun j hj => (by rw [hX11, u3_k _ _ _ _ (by first | exact Nat.ne_of_beq_eq_false rfl | decide), hX1, u3_k _ _ _ _ (by first | exact Nat.ne_of_beq_eq_false rfl | decide)])) hw hS (lv_sub hl [1, 2, 0] rfl)
    · refine lv_bipush (v := jI (-4)) hx hb dX9_thing_24 (by decide) ?_
      rw [hQ9]
      refine ret_i (mc := 0) (ms := 0) hx hb hr hlocks hw hS (by first | exact Nat.le_of_ble_eq_true rfl | omega) (by first | exact Nat.le_of_ble_eq_true rfl | omega) dX9_thing_26 ?_
      have hMq25 : MInv X1 := minv_frm hMI q900019 (by decide)
      exact ⟨X1, rfl, hRX1, hFX1, hMq25, by omega, (by (try delta Hid at *); first | exact Or.inr (Or.inl ⟨(by omega), by omega, by omega⟩) | exact Or.inr (Or.inr (⟨(by omega), by omega, by omega⟩))), fun _ => q900019, fun q => (by exfalso; omega)⟩
  · subst ez2
    refine x_if_neF (tgt := 15) hx hb (by omega) (by decide) dX9_thing_10 (by decide) ?_
    refine lv_iconst (v := jI (-1)) hx hb dX9_thing_13 rfl ?_
    rw [hQ9]
    refine ret_i (mc := 0) (ms := 0) hx hb hr hlocks hw hS (by first | exact Nat.le_of_ble_eq_true rfl | omega) (by first | exact Nat.le_of_ble_eq_true rfl | omega) dX9_thing_14 ?_
    have hMq28 : MInv X1 := minv_frm hMI q900019 (by decide)
    exact ⟨X1, rfl, hRX1, hFX1, hMq28, by omega, (by (try delta Hid at *); first | exact Or.inl ⟨(fun q => by omega), by omega⟩ | exact Or.inr (Or.inr (⟨(by omega), by omega, by omega⟩))), fun _ => q900019, fun q => (by exfalso; omega)⟩

set_option maxHeartbeats 4000000 in
set_option maxRecDepth 100000 in
theorem c_X9_field (l : Launch) (D : va_G) (tc : Nat → ClassId) (base : Nat) (ad : Nat → Int → Nat) (cnt : Nat → Int) (X : Nat → Int → Int → Int) (Y : Nat → Int → Int → Option Int) (ln : Int → Int) (hR : Rng X) (hFx : Fx cnt) (hMI : MInv X) (t name lane v : Int) (ht : -2147483648 ≤ t ∧ t ≤ 2147483647) (hname : -2147483648 ≤ name ∧ name ≤ 2147483647) (hlane : -2147483648 ≤ lane ∧ lane ≤ 2147483647) (hv : -9223372036854775808 ≤ v ∧ v ≤ 9223372036854775807) : KI l D tc base yX9_field wsX9_field ({ frames := 1, cells := 0, slots := 0, locals := 23 } : Room) [.ref (ad 40 0), .int (jI t), .int (jI name), .int (jI lane), .long (jL v)] (ad, cnt, X, Y, ln) 0 0 (fun z u => ∃ X1 : Nat → Int → Int → Int, u = (ad, cnt, X1, Y, ln) ∧ Rng X1 ∧ Frm [4001, 4500, 4600, 4700, 4800, 4400, 5600] X X1 ∧ MInv X1 ∧ (-2147483648 ≤ z ∧ z ≤ 2147483647) ∧ ((¬ (0 ≤ t ∧ t < X 40 0 2) ∧ z = -1 ∧ X1 44 0 t = X 44 0 t) ∨ (0 ≤ t ∧ t < X 40 0 2 ∧ ¬ (0 ≤ name ∧ name < 20 ∧ nmAt (fun j => X 45 0 (5 * t + j)) name (X 44 0 t).toNat = -1 ∧ 0 ≤ lane ∧ lane < 6) ∧ z = -2 ∧ X1 44 0 t = X 44 0 t) ∨ (0 ≤ t ∧ t < X 40 0 2 ∧ (0 ≤ name ∧ name < 20 ∧ nmAt (fun j => X 45 0 (5 * t + j)) name (X 44 0 t).toNat = -1 ∧ 0 ≤ lane ∧ lane < 6) ∧ 0 < X 40 0 20 ∧ z = -3 ∧ X1 44 0 t = X 44 0 t) ∨ (0 ≤ t ∧ t < X 40 0 2 ∧ (0 ≤ name ∧ name < 20 ∧ nmAt (fun j => X 45 0 (5 * t + j)) name (X 44 0 t).toNat = -1 ∧ 0 ≤ lane ∧ lane < 6) ∧ X 40 0 20 = 0 ∧ 5 ≤ X 44 0 t ∧ z = -4 ∧ X1 44 0 t = X 44 0 t) ∨ (0 ≤ t ∧ t < X 40 0 2 ∧ (0 ≤ name ∧ name < 20 ∧ nmAt (fun j => X 45 0 (5 * t + j)) name (X 44 0 t).toNat = -1 ∧ 0 ≤ lane ∧ lane < 6) ∧ X 40 0 20 = 0 ∧ X 44 0 t ≤ 4 ∧ z = X 44 0 t ∧ X1 44 0 t = X 44 0 t + 1)) ∧ (0 ≤ z → X1 45 0 (5 * t + z) = name ∧ X1 46 0 (5 * t + z) = lane ∧ X1 47 0 (5 * t + z) = (if lane = 0 then v else -1) ∧ X1 48 0 (5 * t + z) = 0) ∧ (∀ y, ¬ (0 ≤ z ∧ y = 5 * t + z) → X1 45 0 y = X 45 0 y ∧ X1 46 0 y = X 46 0 y ∧ X1 47 0 y = X 47 0 y ∧ X1 48 0 y = X 48 0 y) ∧ (∀ y, y ≠ t → X1 44 0 y = X 44 0 y) ∧ (0 ≤ z → (∀ y, 0 ≤ y → y < X 40 0 13 → X 55 0 y = t → X1 56 0 (5 * y + z) = (if lane = 0 then v else -1)) ∧ ∀ y j, 0 ≤ y → y < X 40 0 13 → 0 ≤ j → j ≤ 4 → ¬ (X 55 0 y = t ∧ j = z) → X1 56 0 (5 * y + j) = X 56 0 (5 * y + j)) ∧ (z < 0 → Frm [4001] X X1)) := by
  refine K_of (cc := cX9_field) (maxL := 8) (ret := (some .int)) (by decide) rfl (Nat.le_of_ble_eq_true rfl) ?_
  intro p e s m below meth c ls hx hb hr hml hown hts hlocks hl hK hw hS
  have hown : s.vm.findClass RX9 = some m.cls := hown
  obtain ⟨av9, hav9⟩ : ∃ a9 : Array Value, a9 = ([.ref (ad 40 0), .int (jI t), .int (jI name), .int (jI lane), .long (jL v)] : List Value).toArray := ⟨_, rfl⟩
  rw [← hav9] at hts ⊢
  obtain ⟨Q9, hQ9⟩ : ∃ q9Q : State → Prop, q9Q = MQ below (QI D tc base (fun z u => ∃ X1 : Nat → Int → Int → Int, u = (ad, cnt, X1, Y, ln) ∧ Rng X1 ∧ Frm [4001, 4500, 4600, 4700, 4800, 4400, 5600] X X1 ∧ MInv X1 ∧ (-2147483648 ≤ z ∧ z ≤ 2147483647) ∧ ((¬ (0 ≤ t ∧ t < X 40 0 2) ∧ z = -1 ∧ X1 44 0 t = X 44 0 t) ∨ (0 ≤ t ∧ t < X 40 0 2 ∧ ¬ (0 ≤ name ∧ name < 20 ∧ nmAt (fun j => X 45 0 (5 * t + j)) name (X 44 0 t).toNat = -1 ∧ 0 ≤ lane ∧ lane < 6) ∧ z = -2 ∧ X1 44 0 t = X 44 0 t) ∨ (0 ≤ t ∧ t < X 40 0 2 ∧ (0 ≤ name ∧ name < 20 ∧ nmAt (fun j => X 45 0 (5 * t + j)) name (X 44 0 t).toNat = -1 ∧ 0 ≤ lane ∧ lane < 6) ∧ 0 < X 40 0 20 ∧ z = -3 ∧ X1 44 0 t = X 44 0 t) ∨ (0 ≤ t ∧ t < X 40 0 2 ∧ (0 ≤ name ∧ name < 20 ∧ nmAt (fun j => X 45 0 (5 * t + j)) name (X 44 0 t).toNat = -1 ∧ 0 ≤ lane ∧ lane < 6) ∧ X 40 0 20 = 0 ∧ 5 ≤ X 44 0 t ∧ z = -4 ∧ X1 44 0 t = X 44 0 t) ∨ (0 ≤ t ∧ t < X 40 0 2 ∧ (0 ≤ name ∧ name < 20 ∧ nmAt (fun j => X 45 0 (5 * t + j)) name (X 44 0 t).toNat = -1 ∧ 0 ≤ lane ∧ lane < 6) ∧ X 40 0 20 = 0 ∧ X 44 0 t ≤ 4 ∧ z = X 44 0 t ∧ X1 44 0 t = X 44 0 t + 1)) ∧ (0 ≤ z → X1 45 0 (5 * t + z) = name ∧ X1 46 0 (5 * t + z) = lane ∧ X1 47 0 (5 * t + z) = (if lane = 0 then v else -1) ∧ X1 48 0 (5 * t + z) = 0) ∧ (∀ y, ¬ (0 ≤ z ∧ y = 5 * t + z) → X1 45 0 y = X 45 0 y ∧ X1 46 0 y = X 46 0 y ∧ X1 47 0 y = X 47 0 y ∧ X1 48 0 y = X 48 0 y) ∧ (∀ y, y ≠ t → X1 44 0 y = X 44 0 y) ∧ (0 ≤ z → (∀ y, 0 ≤ y → y < X 40 0 13 → X 55 0 y = t → X1 56 0 (5 * y + z) = (if lane = 0 then v else -1)) ∧ ∀ y j, 0 ≤ y → y < X 40 0 13 → 0 ≤ j → j ≤ 4 → ¬ (X 55 0 y = t ∧ j = z) → X1 56 0 (5 * y + j) = X 56 0 (5 * y + j)) ∧ (z < 0 → Frm [4001] X X1))) av9 s 0 0 (frA base) := ⟨_, rfl⟩
  rw [← hQ9]
  have hi9 : ∀ w ∈ wsX90, w ∈ wsX9_field := fun w h => List.mem_cons_of_mem _ (List.mem_append_right _ h)
  have hf9 : fctx s m _ RX9 wsX9_field D tc RX9 TX9 51 9 := ⟨hts, hi9, hown, hK.1, rfl⟩
  have lk13 := hts (.fieldLink RX9 13 (TX9 3).1 (TX9 3).2.1 (TX9 3).2.2.1) (gj_X9_field_0 _ (gp_1 (gp_1 gp_h)))
  have lk17 := hts (.fieldLink RX9 17 (TX9 4).1 (TX9 4).2.1 (TX9 4).2.2.1) (gj_X9_field_0 _ (gp_1 (gp_1 (gp_1 gp_h))))
  have lk20 := hts (.fieldLink RX9 20 (TX9 5).1 (TX9 5).2.1 (TX9 5).2.2.1) (gj_X9_field_0 _ (gp_4 gp_h))
  have lk23 := hts (.fieldLink RX9 23 (TX9 6).1 (TX9 6).2.1 (TX9 6).2.2.1) (gj_X9_field_0 _ (gp_4 (gp_1 gp_h)))
  have lk27 := hts (.fieldLink RX9 27 (TX9 7).1 (TX9 7).2.1 (TX9 7).2.2.1) (gj_X9_field_0 _ (gp_4 (gp_1 (gp_1 (gp_1 gp_h)))))
  have lk45 := hts (.fieldLink RX9 45 (TX9 14).1 (TX9 14).2.1 (TX9 14).2.2.1) (gj_X9_field_0 _ (gp_4 (gp_4 (gp_1 gp_h))))
  have lk48 := hts (.fieldLink RX9 48 (TX9 15).1 (TX9 15).2.1 (TX9 15).2.2.1) (gj_X9_field_0 _ (gp_4 (gp_4 (gp_1 (gp_1 gp_h)))))
  have lk145 := hts (.fieldLink RX9 145 (TX9 0).1 (TX9 0).2.1 (TX9 0).2.2.1) (gj_X9_field_0 _ (gp_h))
  have lk151 := hts (.fieldLink RX9 151 (TX9 13).1 (TX9 13).2.1 (TX9 13).2.2.1) (gj_X9_field_0 _ (gp_4 (gp_4 gp_h)))
  have lk165 := hts (.fieldLink RX9 165 (TX9 20).1 (TX9 20).2.1 (TX9 20).2.2.1) (gj_X9_field_0 _ (gp_1 gp_h))
  have hc40 : cnt 40 = 1 := hFx.at 40 1 (by decide)
  have hc44 : cnt 44 = 1 := hFx.at 44 1 (by decide)
  have hc45 : cnt 45 = 1 := hFx.at 45 1 (by decide)
  have hc46 : cnt 46 = 1 := hFx.at 46 1 (by decide)
  have hc47 : cnt 47 = 1 := hFx.at 47 1 (by decide)
  have hc48 : cnt 48 = 1 := hFx.at 48 1 (by decide)
  have hc55 : cnt 55 = 1 := hFx.at 55 1 (by decide)
  have hc56 : cnt 56 = 1 := hFx.at 56 1 (by decide)
  have hl : lv_has ls 8 [(0, .ref (ad 40 0)), (1, .int (jI t)), (2, .int (jI name)), (3, .int (jI lane)), (4, .long (jL v))] := hl
  have fstypes : 0 ≤ X 40 0 2 ∧ X 40 0 2 ≤ 8 := hR 40 0 2
  have fsthings : 0 ≤ X 40 0 13 ∧ X 40 0 13 ≤ 30 := hR 40 0 13
  have fsmarks : 0 ≤ X 40 0 20 ∧ X 40 0 20 ≤ 4 := hR 40 0 20
  have fsnotes : 0 ≤ X 40 0 22 ∧ X 40 0 22 ≤ 80 := hR 40 0 22
  refine lv_aload_n hx hb dX9_field_0 rfl (lv_at hl 0 rfl) ?_
  refine lv_iconst (v := jI 0) hx hb dX9_field_1 rfl ?_
  refine x_puti (jz := 0) hx hb hf9 ⟨tyX9_ok, nmX9⟩ hw hS (by first | exact Int.le_refl 0 | omega) (by first | exact zlt hc40 | omega) sl_40_0 rfl lk145 rfl (tyX9_ok 0 (by decide)) rfl rfl dX9_field_2 (fun H locs hw hS => ?_)
  obtain ⟨X1, hX1⟩ : ∃ Xq, Xq = u3 X 40 0 0 0 := ⟨_, rfl⟩
  rw [← hX1] at hw
  have hRX1 : Rng X1 := by rw [hX1]; exact rng_set hR (show (-2147483648) ≤ 0 ∧ 0 ≤ 2147483647 by omega)
  have hVX1 : X1 40 0 0 = 0 := by rw [hX1]; exact u3_s _ _ _ _ _
  have hFX1 : Frm [4001, 4500, 4600, 4700, 4800, 4400, 5600] X X1 := by rw [hX1]; exact Frm.set Frm.rf (show 4001 ∈ [4001, 4500, 4600, 4700, 4800, 4400, 5600] by first | exact nlm_in rfl | decide)
  refine lv_aload_n hx hb dX9_field_5 rfl (lv_at hl 0 rfl) ?_
  refine lv_iload_n hx hb dX9_field_6 rfl (lv_at hl 1 rfl) ?_
  refine gos_i (run_V (As := [.int (jI t)]) (rest := []) hx hb hml hown hts (c_X9_isType l D tc base ad cnt X1 Y ln hRX1 hFx t (by omega)) (cwV 1 hts gX9_field_X9_isType rfl rfl rfl (by first | exact hd_X9_isType | decide +kernel) ⟨Nat.le_of_ble_eq_true rfl, Nat.le_of_ble_eq_true rfl⟩) hK hw (by first | exact Int.le_refl 0 | omega) (by first | exact zlt hc40 | omega) sl_40_0 rfl rfl hl.1 rfl (Nat.le_of_ble_eq_true rfl) dX9_field_7 ⟨Nat.le_of_ble_eq_true rfl, Nat.le_of_ble_eq_true rfl⟩) hS (fun z2 u3 H locs p4 hw hS => ?_)
  obtain ⟨eu3, p4⟩ := p4
  subst eu3
  have e5 : X1 40 0 2 = X 40 0 2 := by rw [hX1, u3_j _ _ _ _ (by decide)]
  simp only [e5] at p4
  have q900021 : Frm [4001] X X1 := by rw [hX1]; exact Frm.set Frm.rf (show 4001 ∈ [4001] by first | exact nlm_in rfl | decide)
  rcases p4 with ⟨ez2, p4⟩ | ⟨ez2, p4⟩
  · subst ez2
    refine x_if_neT (tgt := 15) hx hb (by omega) (by decide) dX9_field_10 (by decide) ?_
    refine lv_iload_n hx hb dX9_field_15 rfl (lv_at hl 2 rfl) ?_
    refine x_if_lt (tgt := 43) hx hb (by omega) dX9_field_16 (by decide) (fun c6 => ?_) (fun c6 => ?_)
    · refine lv_bipush (v := jI (-2)) hx hb dX9_field_43 (by decide) ?_
      rw [hQ9]
      refine ret_i (mc := 0) (ms := 0) hx hb hr hlocks hw hS (by first | exact Nat.le_of_ble_eq_true rfl | omega) (by first | exact Nat.le_of_ble_eq_true rfl | omega) dX9_field_45 ?_
      have q8 : Frm [4001] X X1 := by rw [hX1]; exact Frm.set Frm.rf (show 4001 ∈ [4001] by first | exact nlm_in rfl | decide)
      have hMq7 : MInv X1 := minv_frm hMI q8 (by decide)
      have e9 : X1 44 0 t = X 44 0 t := (by rw [hX1, u3_k _ _ _ _ (by first | exact Nat.ne_of_beq_eq_false rfl | decide)])
      have q10 : Frm [4001] X X1 := by rw [hX1]; exact Frm.set Frm.rf (show 4001 ∈ [4001] by first | exact nlm_in rfl | decide)
      exact ⟨X1, rfl, hRX1, hFX1, hMq7, by omega, (by (try delta Hid at *); first | exact Or.inr (Or.inl ⟨by omega, by omega, (fun q => by omega), by omega, by omega⟩) | exact Or.inr (Or.inr (Or.inr (Or.inr ((⟨by omega, by omega, by omega, by omega, by omega, by omega, by omega⟩))))) | omega), fun h => (by exfalso; omega), fun y h => ⟨(by rw [hX1, u3_k _ _ _ _ (by first | exact Nat.ne_of_beq_eq_false rfl | decide)]), (by rw [hX1, u3_k _ _ _ _ (by first | exact Nat.ne_of_beq_eq_false rfl | decide)]), (by rw [hX1, u3_k _ _ _ _ (by first | exact Nat.ne_of_beq_eq_false rfl | decide)]), (by rw [hX1, u3_k _ _ _ _ (by first | exact Nat.ne_of_beq_eq_false rfl | decide)])⟩, fun y h => (by rw [hX1, u3_k _ _ _ _ (by first | exact Nat.ne_of_beq_eq_false rfl | decide)]), fun q => (by exfalso; omega), fun _ => q10⟩
    · refine lv_iload_n hx hb dX9_field_19 rfl (lv_at hl 2 rfl) ?_
      refine lv_bipush (v := jI 19) hx hb dX9_field_20 (by decide) ?_
      refine x_icmp_gt (tgt := 43) hx hb (by omega) (by omega) dX9_field_22 (by decide) (fun c11 => ?_) (fun c11 => ?_)
      · refine lv_bipush (v := jI (-2)) hx hb dX9_field_43 (by decide) ?_
        rw [hQ9]
        refine ret_i (mc := 0) (ms := 0) hx hb hr hlocks hw hS (by first | exact Nat.le_of_ble_eq_true rfl | omega) (by first | exact Nat.le_of_ble_eq_true rfl | omega) dX9_field_45 ?_
        have q13 : Frm [4001] X X1 := by rw [hX1]; exact Frm.set Frm.rf (show 4001 ∈ [4001] by first | exact nlm_in rfl | decide)
        have hMq12 : MInv X1 := minv_frm hMI q13 (by decide)
        have e14 : X1 44 0 t = X 44 0 t := (by rw [hX1, u3_k _ _ _ _ (by first | exact Nat.ne_of_beq_eq_false rfl | decide)])
        have q15 : Frm [4001] X X1 := by rw [hX1]; exact Frm.set Frm.rf (show 4001 ∈ [4001] by first | exact nlm_in rfl | decide)
        exact ⟨X1, rfl, hRX1, hFX1, hMq12, by omega, (by (try delta Hid at *); first | exact Or.inr (Or.inl ⟨by omega, by omega, (fun q => by omega), by omega, by omega⟩) | exact Or.inr (Or.inr (Or.inr (Or.inr ((⟨by omega, by omega, by omega, by omega, by omega, by omega, by omega⟩))))) | omega), fun h => (by exfalso; omega), fun y h => ⟨(by rw [hX1, u3_k _ _ _ _ (by first | exact Nat.ne_of_beq_eq_false rfl | decide)]), (by rw [hX1, u3_k _ _ _ _ (by first | exact Nat.ne_of_beq_eq_false rfl | decide)]), (by rw [hX1, u3_k _ _ _ _ (by first | exact Nat.ne_of_beq_eq_false rfl | decide)]), (by rw [hX1, u3_k _ _ _ _ (by first | exact Nat.ne_of_beq_eq_false rfl | decide)])⟩, fun y h => (by rw [hX1, u3_k _ _ _ _ (by first | exact Nat.ne_of_beq_eq_false rfl | decide)]), fun q => (by exfalso; omega), fun _ => q15⟩
      · refine lv_aload_n hx hb dX9_field_25 rfl (lv_at hl 0 rfl) ?_
        refine lv_iload_n hx hb dX9_field_26 rfl (lv_at hl 1 rfl) ?_
        refine lv_iload_n hx hb dX9_field_27 rfl (lv_at hl 2 rfl) ?_
        refine gos_i (run_V (As := [.int (jI t), .int (jI name)]) (rest := []) hx hb hml hown hts (c_X9_named l D tc base ad cnt X1 Y ln hRX1 hFx t name (by omega) (by omega)) (cwV 2 hts gX9_field_X9_named rfl rfl rfl (by first | exact hd_X9_named | decide +kernel) ⟨Nat.le_of_ble_eq_true rfl, Nat.le_of_ble_eq_true rfl⟩) hK hw (by first | exact Int.le_refl 0 | omega) (by first | exact zlt hc40 | omega) sl_40_0 rfl rfl hl.1 rfl (Nat.le_of_ble_eq_true rfl) dX9_field_28 ⟨Nat.le_of_ble_eq_true rfl, Nat.le_of_ble_eq_true rfl⟩) hS (fun z16 u17 H locs p18 hw hS => ?_)
        obtain ⟨eu17, p18⟩ := p18
        subst eu17
        have e19 : ∀ j : Int, X1 44 0 j = X 44 0 j := fun j => by rw [hX1, u3_k _ _ _ _ (by first | exact Nat.ne_of_beq_eq_false rfl | decide)]
        have e20 : ∀ j : Int, X1 45 0 j = X 45 0 j := fun j => by rw [hX1, u3_k _ _ _ _ (by first | exact Nat.ne_of_beq_eq_false rfl | decide)]
        simp only [e19, e20] at p18
        refine x_if_ge (tgt := 43) hx hb (by omega) dX9_field_31 (by decide) (fun c21 => ?_) (fun c21 => ?_)
        · refine lv_bipush (v := jI (-2)) hx hb dX9_field_43 (by decide) ?_
          rw [hQ9]
          refine ret_i (mc := 0) (ms := 0) hx hb hr hlocks hw hS (by first | exact Nat.le_of_ble_eq_true rfl | omega) (by first | exact Nat.le_of_ble_eq_true rfl | omega) dX9_field_45 ?_
          have hMq22 : MInv X1 := minv_frm hMI q900021 (by decide)
          have e24 : X1 44 0 t = X 44 0 t := (by rw [hX1, u3_k _ _ _ _ (by first | exact Nat.ne_of_beq_eq_false rfl | decide)])
          exact ⟨X1, rfl, hRX1, hFX1, hMq22, by omega, (by (try delta Hid at *); first | exact Or.inr (Or.inl ⟨by omega, by omega, (fun q => by omega), by omega, by omega⟩) | exact Or.inr (Or.inr (Or.inr (Or.inr ((⟨by omega, by omega, by omega, by omega, by omega, by omega, by omega⟩))))) | omega), fun h => (by exfalso; omega), fun y h => ⟨(by rw [hX1, u3_k _ _ _ _ (by first | exact Nat.ne_of_beq_eq_false rfl | decide)]), (by rw [hX1, u3_k _ _ _ _ (by first | exact Nat.ne_of_beq_eq_false rfl | decide)]), (by rw [hX1, u3_k _ _ _ _ (by first | exact Nat.ne_of_beq_eq_false rfl | decide)]), (by rw [hX1, u3_k _ _ _ _ (by first | exact Nat.ne_of_beq_eq_false rfl | decide)])⟩, fun y h => (by rw [hX1, u3_k _ _ _ _ (by first | exact Nat.ne_of_beq_eq_false rfl | decide)]), fun q => (by exfalso; omega), fun _ => q900021⟩
        · refine lv_iload_n hx hb dX9_field_34 rfl (lv_at hl 3 rfl) ?_
          refine x_if_lt (tgt := 43) hx hb (by omega) dX9_field_35 (by decide) (fun c26 => ?_) (fun c26 => ?_)
          · refine lv_bipush (v := jI (-2)) hx hb dX9_field_43 (by decide) ?_
            rw [hQ9]
            refine ret_i (mc := 0) (ms := 0) hx hb hr hlocks hw hS (by first | exact Nat.le_of_ble_eq_true rfl | omega) (by first | exact Nat.le_of_ble_eq_true rfl | omega) dX9_field_45 ?_
            have hMq27 : MInv X1 := minv_frm hMI q900021 (by decide)
            have e29 : X1 44 0 t = X 44 0 t := (by rw [hX1, u3_k _ _ _ _ (by first | exact Nat.ne_of_beq_eq_false rfl | decide)])
            exact ⟨X1, rfl, hRX1, hFX1, hMq27, by omega, (by (try delta Hid at *); first | exact Or.inr (Or.inl ⟨by omega, by omega, (fun q => by omega), by omega, by omega⟩) | exact Or.inr (Or.inr (Or.inr (Or.inr ((⟨by omega, by omega, by omega, by omega, by omega, by omega, by omega⟩))))) | omega), fun h => (by exfalso; omega), fun y h => ⟨(by rw [hX1, u3_k _ _ _ _ (by first | exact Nat.ne_of_beq_eq_false rfl | decide)]), (by rw [hX1, u3_k _ _ _ _ (by first | exact Nat.ne_of_beq_eq_false rfl | decide)]), (by rw [hX1, u3_k _ _ _ _ (by first | exact Nat.ne_of_beq_eq_false rfl | decide)]), (by rw [hX1, u3_k _ _ _ _ (by first | exact Nat.ne_of_beq_eq_false rfl | decide)])⟩, fun y h => (by rw [hX1, u3_k _ _ _ _ (by first | exact Nat.ne_of_beq_eq_false rfl | decide)]), fun q => (by exfalso; omega), fun _ => q900021⟩
          · refine lv_iload_n hx hb dX9_field_38 rfl (lv_at hl 3 rfl) ?_
            refine lv_iconst (v := jI 5) hx hb dX9_field_39 rfl ?_
            refine x_icmp_le (tgt := 46) hx hb (by omega) (by omega) dX9_field_40 (by decide) (fun c31 => ?_) (fun c31 => ?_)
            · refine lv_aload_n hx hb dX9_field_46 rfl (lv_at hl 0 rfl) ?_
              refine x_geti (jz := 20) hx hb hf9 hw (by first | exact Int.le_refl 0 | omega) (by first | exact zlt hc40 | omega) sl_40_20 rfl lk165 dX9_field_47 ?_
              have e32 : X1 40 0 20 = X 40 0 20 := by rw [hX1, u3_j _ _ _ _ (by decide)]
              rw [e32]
              have f33 : 0 ≤ X 40 0 20 ∧ X 40 0 20 ≤ 4 := hR 40 0 20
              refine x_if_le (tgt := 56) hx hb (by omega) dX9_field_50 (by decide) (fun c34 => ?_) (fun c34 => ?_)
              · refine lv_aload_n hx hb dX9_field_56 rfl (lv_at hl 0 rfl) ?_
                refine x_geto hx hb hf9 hw (by first | exact Int.le_refl 0 | omega) (by first | exact zlt hc40 | omega) sl_40_3 lk13 dX9_field_57 ?_
                refine lv_iload_n hx hb dX9_field_60 rfl (lv_at hl 1 rfl) ?_
                refine x_iald hx hb hK.1 hw (by first | exact Int.le_refl 0 | omega) (by first | exact zlt hc44 | omega) ar_44 (len_E ar_44 (by first | exact Nat.ne_of_beq_eq_false rfl | decide)) (by omega) (by omega) (by omega) dX9_field_61 ?_
                have e35 : ∀ p9 q9 : Int, X1 44 p9 q9 = X 44 p9 q9 := fun p9 q9 => by rw [hX1, u3_k _ _ _ _ (by first | exact Nat.ne_of_beq_eq_false rfl | decide)]
                rw [e35 0 t]
                have f36 : 0 ≤ X 44 0 t ∧ X 44 0 t ≤ 5 := hR 44 0 t
                refine lv_iconst (v := jI 5) hx hb dX9_field_62 rfl ?_
                refine x_icmp_ne (tgt := 69) hx hb (by omega) (by omega) dX9_field_63 (by decide) (fun c37 => ?_) (fun c37 => ?_)
                · refine lv_aload_n hx hb dX9_field_69 rfl (lv_at hl 0 rfl) ?_
                  refine x_geto hx hb hf9 hw (by first | exact Int.le_refl 0 | omega) (by first | exact zlt hc40 | omega) sl_40_3 lk13 dX9_field_70 ?_
                  refine lv_iload_n hx hb dX9_field_73 rfl (lv_at hl 1 rfl) ?_
                  refine x_iald hx hb hK.1 hw (by first | exact Int.le_refl 0 | omega) (by first | exact zlt hc44 | omega) ar_44 (len_E ar_44 (by first | exact Nat.ne_of_beq_eq_false rfl | decide)) (by omega) (by omega) (by omega) dX9_field_74 ?_
                  have e38 : ∀ p9 q9 : Int, X1 44 p9 q9 = X 44 p9 q9 := fun p9 q9 => by rw [hX1, u3_k _ _ _ _ (by first | exact Nat.ne_of_beq_eq_false rfl | decide)]
                  rw [e38 0 t]
                  have f39 : 0 ≤ X 44 0 t ∧ X 44 0 t ≤ 5 := hR 44 0 t
                  refine lv_istore (lv' := [(6, .int (jI (X 44 0 t))), (0, .ref (ad 40 0)), (1, .int (jI t)), (2, .int (jI name)), (3, .int (jI lane)), (4, .long (jL v))]) hx hb dX9_field_75 hl (by decide) rfl (fun ls hl => ?_)
                  refine lv_aload_n hx hb dX9_field_77 rfl (lv_at hl 1 rfl) ?_
                  refine x_geto hx hb hf9 hw (by first | exact Int.le_refl 0 | omega) (by first | exact zlt hc40 | omega) sl_40_4 lk17 dX9_field_78 ?_
                  refine lv_iconst (v := jI 5) hx hb dX9_field_81 rfl ?_
                  refine lv_iload_n hx hb dX9_field_82 rfl (lv_at hl 2 rfl) ?_
                  refine x_imul hx hb dX9_field_83 ?_
                  refine lv_iload hx hb dX9_field_84 (lv_at hl 0 rfl) ?_
                  refine x_iadd hx hb dX9_field_86 ?_
                  refine lv_iload_n hx hb dX9_field_87 rfl (lv_at hl 3 rfl) ?_
                  refine x_iast hx hb hK.1 hw hS (by first | exact Int.le_refl 0 | omega) (by first | exact zlt hc45 | omega) ar_45 (len_E ar_45 (by first | exact Nat.ne_of_beq_eq_false rfl | decide)) (by omega) (by omega) (by omega) dX9_field_88 (fun H locs hw hS => ?_)
                  obtain ⟨X40, hX40⟩ : ∃ Xq, Xq = u3 X1 45 0 ((5 * t) + (X 44 0 t)) name := ⟨_, rfl⟩
                  rw [← hX40] at hw
                  have hRX40 : Rng X40 := by rw [hX40]; exact rng_set hRX1 (show 0 ≤ name ∧ name ≤ 19 by omega)
                  have hVX40 : X40 45 0 ((5 * t) + (X 44 0 t)) = name := by rw [hX40]; exact u3_s _ _ _ _ _
                  have hFX40 : Frm [4001, 4500, 4600, 4700, 4800, 4400, 5600] X X40 := by rw [hX40]; exact Frm.set hFX1 (show 4500 ∈ [4001, 4500, 4600, 4700, 4800, 4400, 5600] by first | exact nlm_in rfl | decide)
                  refine lv_aload_n hx hb dX9_field_89 rfl (lv_at hl 1 rfl) ?_
                  refine x_geto hx hb hf9 hw (by first | exact Int.le_refl 0 | omega) (by first | exact zlt hc40 | omega) sl_40_5 lk20 dX9_field_90 ?_
                  refine lv_iconst (v := jI 5) hx hb dX9_field_93 rfl ?_
                  refine lv_iload_n hx hb dX9_field_94 rfl (lv_at hl 2 rfl) ?_
                  refine x_imul hx hb dX9_field_95 ?_
                  refine lv_iload hx hb dX9_field_96 (lv_at hl 0 rfl) ?_
                  refine x_iadd hx hb dX9_field_98 ?_
                  refine lv_iload_n hx hb dX9_field_99 rfl (lv_at hl 4 rfl) ?_
                  refine x_iast hx hb hK.1 hw hS (by first | exact Int.le_refl 0 | omega) (by first | exact zlt hc46 | omega) ar_46 (len_E ar_46 (by first | exact Nat.ne_of_beq_eq_false rfl | decide)) (by omega) (by omega) (by omega) dX9_field_100 (fun H locs hw hS => ?_)
                  obtain ⟨X41, hX41⟩ : ∃ Xq, Xq = u3 X40 46 0 ((5 * t) + (X 44 0 t)) lane := ⟨_, rfl⟩
                  rw [← hX41] at hw
                  have hRX41 : Rng X41 := by rw [hX41]; exact rng_set hRX40 (show 0 ≤ lane ∧ lane ≤ 5 by omega)
                  have hVX41 : X41 46 0 ((5 * t) + (X 44 0 t)) = lane := by rw [hX41]; exact u3_s _ _ _ _ _
                  have hFX41 : Frm [4001, 4500, 4600, 4700, 4800, 4400, 5600] X X41 := by rw [hX41]; exact Frm.set hFX40 (show 4600 ∈ [4001, 4500, 4600, 4700, 4800, 4400, 5600] by first | exact nlm_in rfl | decide)
                  refine lv_aload_n hx hb dX9_field_101 rfl (lv_at hl 1 rfl) ?_
                  refine x_geto hx hb hf9 hw (by first | exact Int.le_refl 0 | omega) (by first | exact zlt hc40 | omega) sl_40_6 lk23 dX9_field_102 ?_
                  refine lv_iconst (v := jI 5) hx hb dX9_field_105 rfl ?_
                  refine lv_iload_n hx hb dX9_field_106 rfl (lv_at hl 2 rfl) ?_
                  refine x_imul hx hb dX9_field_107 ?_
                  refine lv_iload hx hb dX9_field_108 (lv_at hl 0 rfl) ?_
                  refine x_iadd hx hb dX9_field_110 ?_
                  refine lv_iload_n hx hb dX9_field_111 rfl (lv_at hl 4 rfl) ?_
                  have q900023 : Frm [4001, 4500, 4600, 4700, 4800, 4400] X X1 := by rw [hX1]; exact Frm.set Frm.rf (show 4001 ∈ [4001, 4500, 4600, 4700, 4800, 4400] by first | exact nlm_in rfl | decide)
                  have q900024 : Frm [4001, 4500, 4600, 4700, 4800, 4400] X X40 := by rw [hX40]; exact Frm.set q900023 (show 4500 ∈ [4001, 4500, 4600, 4700, 4800, 4400] by first | exact nlm_in rfl | decide)
                  have q900025 : Frm [4001, 4500, 4600, 4700, 4800, 4400] X X41 := by rw [hX41]; exact Frm.set q900024 (show 4600 ∈ [4001, 4500, 4600, 4700, 4800, 4400] by first | exact nlm_in rfl | decide)
                  refine x_if_ne (tgt := 120) hx hb (by omega) dX9_field_112 (by decide) (fun c42 => ?_) (fun c42 => ?_)
                  · refine lv_ldc2 (v := jL (-1)) hx hb hown (hts (.constantLong RX9 168 (-1)) (by first | exact gj_X9_field_0 _ (gp_4 (gp_1 (gp_1 gp_h))) | decide +kernel)) dX9_field_120 ?_
                    refine x_last hx hb hK.1 hw hS (by first | exact Int.le_refl 0 | omega) (by first | exact zlt hc47 | omega) ar_47 (len_E ar_47 (by first | exact Nat.ne_of_beq_eq_false rfl | decide)) (by omega) (by omega) (by omega) dX9_field_123 (fun H locs hw hS => ?_)
                    obtain ⟨X43, hX43⟩ : ∃ Xq, Xq = u3 X41 47 0 ((5 * t) + (X 44 0 t)) (-1) := ⟨_, rfl⟩
                    rw [← hX43] at hw
                    have hRX43 : Rng X43 := by rw [hX43]; exact rng_set hRX41 (show (-9223372036854775808) ≤ (-1) ∧ (-1) ≤ 9223372036854775807 by omega)
                    have hVX43 : X43 47 0 ((5 * t) + (X 44 0 t)) = (-1) := by rw [hX43]; exact u3_s _ _ _ _ _
                    have hFX43 : Frm [4001, 4500, 4600, 4700, 4800, 4400, 5600] X X43 := by rw [hX43]; exact Frm.set hFX41 (show 4700 ∈ [4001, 4500, 4600, 4700, 4800, 4400, 5600] by first | exact nlm_in rfl | decide)
                    refine lv_aload_n hx hb dX9_field_124 rfl (lv_at hl 1 rfl) ?_
                    refine x_geto hx hb hf9 hw (by first | exact Int.le_refl 0 | omega) (by first | exact zlt hc40 | omega) sl_40_7 lk27 dX9_field_125 ?_
                    refine lv_iconst (v := jI 5) hx hb dX9_field_128 rfl ?_
                    refine lv_iload_n hx hb dX9_field_129 rfl (lv_at hl 2 rfl) ?_
                    refine x_imul hx hb dX9_field_130 ?_
                    refine lv_iload hx hb dX9_field_131 (lv_at hl 0 rfl) ?_
                    refine x_iadd hx hb dX9_field_133 ?_
                    refine lv_iconst (v := jI 0) hx hb dX9_field_134 rfl ?_
                    refine x_zast hx hb hK.1 hw hS (by first | exact Int.le_refl 0 | omega) (by first | exact zlt hc48 | omega) ar_48 (len_E ar_48 (by first | exact Nat.ne_of_beq_eq_false rfl | decide)) (by omega) (by omega) (by omega) (by omega) (by omega) dX9_field_135 (fun H locs hw hS => ?_)
                    obtain ⟨X44, hX44⟩ : ∃ Xq, Xq = u3 X43 48 0 ((5 * t) + (X 44 0 t)) 0 := ⟨_, rfl⟩
                    rw [← hX44] at hw
                    have hRX44 : Rng X44 := by rw [hX44]; exact rng_set hRX43 (show 0 ≤ 0 ∧ 0 ≤ 1 by omega)
                    have hVX44 : X44 48 0 ((5 * t) + (X 44 0 t)) = 0 := by rw [hX44]; exact u3_s _ _ _ _ _
                    have hFX44 : Frm [4001, 4500, 4600, 4700, 4800, 4400, 5600] X X44 := by rw [hX44]; exact Frm.set hFX43 (show 4800 ∈ [4001, 4500, 4600, 4700, 4800, 4400, 5600] by first | exact nlm_in rfl | decide)
                    refine lv_aload_n hx hb dX9_field_136 rfl (lv_at hl 1 rfl) ?_
                    refine x_geto hx hb hf9 hw (by first | exact Int.le_refl 0 | omega) (by first | exact zlt hc40 | omega) sl_40_3 lk13 dX9_field_137 ?_
                    refine lv_iload_n hx hb dX9_field_140 rfl (lv_at hl 2 rfl) ?_
                    refine lv_dup2_11 hx hb dX9_field_141 rfl rfl ?_
                    refine x_iald hx hb hK.1 hw (by first | exact Int.le_refl 0 | omega) (by first | exact zlt hc44 | omega) ar_44 (len_E ar_44 (by first | exact Nat.ne_of_beq_eq_false rfl | decide)) (by omega) (by omega) (by omega) dX9_field_142 ?_
                    have e45 : ∀ p9 q9 : Int, X44 44 p9 q9 = X 44 p9 q9 := fun p9 q9 => by rw [hX44, u3_k _ _ _ _ (by first | exact Nat.ne_of_beq_eq_false rfl | decide), hX43, u3_k _ _ _ _ (by first | exact Nat.ne_of_beq_eq_false rfl | decide), hX41, u3_k _ _ _ _ (by first | exact Nat.ne_of_beq_eq_false rfl | decide), hX40, u3_k _ _ _ _ (by first | exact Nat.ne_of_beq_eq_false rfl | decide), hX1, u3_k _ _ _ _ (by first | exact Nat.ne_of_beq_eq_false rfl | decide)]
                    rw [e45 0 t]
                    have f46 : 0 ≤ X 44 0 t ∧ X 44 0 t ≤ 5 := hR 44 0 t
                    refine lv_iconst (v := jI 1) hx hb dX9_field_143 rfl ?_
                    refine x_iadd hx hb dX9_field_144 ?_
                    refine x_iast hx hb hK.1 hw hS (by first | exact Int.le_refl 0 | omega) (by first | exact zlt hc44 | omega) ar_44 (len_E ar_44 (by first | exact Nat.ne_of_beq_eq_false rfl | decide)) (by omega) (by omega) (by omega) dX9_field_145 (fun H locs hw hS => ?_)
                    obtain ⟨X47, hX47⟩ : ∃ Xq, Xq = u3 X44 44 0 t ((X 44 0 t) + 1) := ⟨_, rfl⟩
                    rw [← hX47] at hw
                    have hRX47 : Rng X47 := by rw [hX47]; exact rng_set hRX44 (show 0 ≤ ((X 44 0 t) + 1) ∧ ((X 44 0 t) + 1) ≤ 5 by omega)
                    have hVX47 : X47 44 0 t = ((X 44 0 t) + 1) := by rw [hX47]; exact u3_s _ _ _ _ _
                    have hFX47 : Frm [4001, 4500, 4600, 4700, 4800, 4400, 5600] X X47 := by rw [hX47]; exact Frm.set hFX44 (show 4400 ∈ [4001, 4500, 4600, 4700, 4800, 4400, 5600] by first | exact nlm_in rfl | decide)
                    refine lv_iconst (v := jI 0) hx hb dX9_field_146 rfl ?_
                    refine lv_istore (lv' := [(7, .int (jI 0)), (6, .int (jI (X 44 0 t))), (0, .ref (ad 40 0)), (1, .int (jI t)), (2, .int (jI name)), (3, .int (jI lane)), (4, .long (jL v))]) hx hb dX9_field_147 hl (by decide) rfl (fun ls hl => ?_)
                    have lp149 : ∀ (nn : Nat) (x : Int) (Xa : Nat → Int → Int → Int) (H : Heap) (locs : List Loc) (ls : Array Slot), (30 - x) < (nn : Int) → (Rng Xa) → (Frm [5600] X47 Xa) → (0 ≤ x ∧ x ≤ 30) → (Fld Xa t (X 44 0 t) x) → (∀ y, 0 ≤ y → y < x → X 55 0 y = t → Xa 56 0 (5 * y + X 44 0 t) = (if lane = 0 then v else -1)) → (∀ y j, 0 ≤ j → j ≤ 4 → ¬ (0 ≤ y ∧ y < x ∧ X 55 0 y = t ∧ j = X 44 0 t) → Xa 56 0 (5 * y + j) = X 56 0 (5 * y + j)) → wd D tc base (ad, cnt, Xa, Y, ln) H → va_S (frA base) s.heap H locs → lv_has ls 8 [(0, .ref (ad 40 0)), (1, .int (jI t)), (2, .int (jI name)), (3, .int (jI lane)), (6, .int (jI (X 44 0 t))), (7, .int (jI x))] → W p l e ({ frames := 1, cells := 0, slots := 0, locals := 23 } : Room) s m av9 below meth c H locs 0 0 Q9 (F0 m 149 ls []) := by
                      intro nn
                      induction nn with
                      | zero => intro x Xa H locs ls hm hRXa hGXa hx7 hFl hva hvo hw hS hl; exfalso; omega
                      | succ nn ih149 =>
                        intro x Xa H locs ls hm hRXa hGXa hx7 hFl hva hvo hw hS hl
                        have hFXa : Frm [4001, 4500, 4600, 4700, 4800, 4400, 5600] X Xa := Frm.tr hFX47 (Frm.mono hGXa (by first | exact nls_of rfl | decide))
                        refine lv_iload hx hb dX9_field_149 (lv_at hl 5 rfl) ?_
                        refine lv_aload_n hx hb dX9_field_151 rfl (lv_at hl 0 rfl) ?_
                        refine x_geti (jz := 13) hx hb hf9 hw (by first | exact Int.le_refl 0 | omega) (by first | exact zlt hc40 | omega) sl_40_13 rfl lk151 dX9_field_152 ?_
                        have e48 : Xa 40 0 13 = X 40 0 13 := by rw [hGXa 40 0 13 (show 4014 ∉ [5600] by first | exact nlm_ni rfl | decide), hX47, u3_k _ _ _ _ (by first | exact Nat.ne_of_beq_eq_false rfl | decide), hX44, u3_k _ _ _ _ (by first | exact Nat.ne_of_beq_eq_false rfl | decide), hX43, u3_k _ _ _ _ (by first | exact Nat.ne_of_beq_eq_false rfl | decide), hX41, u3_k _ _ _ _ (by first | exact Nat.ne_of_beq_eq_false rfl | decide), hX40, u3_k _ _ _ _ (by first | exact Nat.ne_of_beq_eq_false rfl | decide), hX1, u3_j _ _ _ _ (by decide)]
                        rw [e48]
                        have f49 : 0 ≤ X 40 0 13 ∧ X 40 0 13 ≤ 30 := hR 40 0 13
                        refine x_icmp_ge (tgt := 198) hx hb (by omega) (by omega) dX9_field_155 (by decide) (fun c50 => ?_) (fun c50 => ?_)
                        · refine lv_iload hx hb dX9_field_198 (lv_at hl 4 rfl) ?_
                          rw [hQ9]
                          refine ret_i (mc := 0) (ms := 0) hx hb hr hlocks hw hS (by first | exact Nat.le_of_ble_eq_true rfl | omega) (by first | exact Nat.le_of_ble_eq_true rfl | omega) dX9_field_200 ?_
                          have e51 : Xa 44 0 t = X 44 0 t + 1 := (by rw [hGXa 44 0 t (show 4400 ∉ [5600] by first | exact nlm_ni rfl | decide)]; exact hVX47)
                          exact ⟨Xa, rfl, hRXa, hFXa, hFl.out (by rw [hGXa 40 0 13 (show 4014 ∉ [5600] by first | exact nlm_ni rfl | decide), hX47, u3_k _ _ _ _ (by first | exact Nat.ne_of_beq_eq_false rfl | decide), hX44, u3_k _ _ _ _ (by first | exact Nat.ne_of_beq_eq_false rfl | decide), hX43, u3_k _ _ _ _ (by first | exact Nat.ne_of_beq_eq_false rfl | decide), hX41, u3_k _ _ _ _ (by first | exact Nat.ne_of_beq_eq_false rfl | decide), hX40, u3_k _ _ _ _ (by first | exact Nat.ne_of_beq_eq_false rfl | decide), hX1, u3_j _ _ _ _ (by decide)]; omega), by omega, (by (try delta Hid at *); first | exact Or.inr (Or.inr (Or.inr (Or.inr ((⟨by omega, by omega, by omega, by omega, by omega, by omega, by omega⟩))))) | omega), fun h => ⟨(by rw [hGXa 45 0 (5 * t + X 44 0 t) (show 4500 ∉ [5600] by first | exact nlm_ni rfl | decide), hX47, u3_k _ _ _ _ (by first | exact Nat.ne_of_beq_eq_false rfl | decide), hX44, u3_k _ _ _ _ (by first | exact Nat.ne_of_beq_eq_false rfl | decide), hX43, u3_k _ _ _ _ (by first | exact Nat.ne_of_beq_eq_false rfl | decide), hX41, u3_k _ _ _ _ (by first | exact Nat.ne_of_beq_eq_false rfl | decide)]; exact hVX40), (by rw [hGXa 46 0 (5 * t + X 44 0 t) (show 4600 ∉ [5600] by first | exact nlm_ni rfl | decide), hX47, u3_k _ _ _ _ (by first | exact Nat.ne_of_beq_eq_false rfl | decide), hX44, u3_k _ _ _ _ (by first | exact Nat.ne_of_beq_eq_false rfl | decide), hX43, u3_k _ _ _ _ (by first | exact Nat.ne_of_beq_eq_false rfl | decide)]; exact hVX41), (by rw [hGXa 47 0 (5 * t + X 44 0 t) (show 4700 ∉ [5600] by first | exact nlm_ni rfl | decide), hX47, u3_k _ _ _ _ (by first | exact Nat.ne_of_beq_eq_false rfl | decide), hX44, u3_k _ _ _ _ (by first | exact Nat.ne_of_beq_eq_false rfl | decide)]; rw [hVX43]; split <;> omega), (by rw [hGXa 48 0 (5 * t + X 44 0 t) (show 4800 ∉ [5600] by first | exact nlm_ni rfl | decide), hX47, u3_k _ _ _ _ (by first | exact Nat.ne_of_beq_eq_false rfl | decide)]; exact hVX44)⟩, fun y h => ⟨(by rw [hGXa 45 0 y (show 4500 ∉ [5600] by first | exact nlm_ni rfl | decide), hX47, u3_k _ _ _ _ (by first | exact Nat.ne_of_beq_eq_false rfl | decide), hX44, u3_k _ _ _ _ (by first | exact Nat.ne_of_beq_eq_false rfl | decide), hX43, u3_k _ _ _ _ (by first | exact Nat.ne_of_beq_eq_false rfl | decide), hX41, u3_k _ _ _ _ (by first | exact Nat.ne_of_beq_eq_false rfl | decide), hX40, u3_j _ _ _ _ (by omega), hX1, u3_k _ _ _ _ (by first | exact Nat.ne_of_beq_eq_false rfl | decide)]), (by rw [hGXa 46 0 y (show 4600 ∉ [5600] by first | exact nlm_ni rfl | decide), hX47, u3_k _ _ _ _ (by first | exact Nat.ne_of_beq_eq_false rfl | decide), hX44, u3_k _ _ _ _ (by first | exact Nat.ne_of_beq_eq_false rfl | decide), hX43, u3_k _ _ _ _ (by first | exact Nat.ne_of_beq_eq_false rfl | decide), hX41, u3_j _ _ _ _ (by omega), hX40, u3_k _ _ _ _ (by first | exact Nat.ne_of_beq_eq_false rfl | decide), hX1, u3_k _ _ _ _ (by first | exact Nat.ne_of_beq_eq_false rfl | decide)]), (by rw [hGXa 47 0 y (show 4700 ∉ [5600] by first | exact nlm_ni rfl | decide), hX47, u3_k _ _ _ _ (by first | exact Nat.ne_of_beq_eq_false rfl | decide), hX44, u3_k _ _ _ _ (by first | exact Nat.ne_of_beq_eq_false rfl | decide), hX43, u3_j _ _ _ _ (by omega), hX41, u3_k _ _ _ _ (by first | exact Nat.ne_of_beq_eq_false rfl | decide), hX40, u3_k _ _ _ _ (by first | exact Nat.ne_of_beq_eq_false rfl | decide), hX1, u3_k _ _ _ _ (by first | exact Nat.ne_of_beq_eq_false rfl | decide)]), (by rw [hGXa 48 0 y (show 4800 ∉ [5600] by first | exact nlm_ni rfl | decide), hX47, u3_k _ _ _ _ (by first | exact Nat.ne_of_beq_eq_false rfl | decide), hX44, u3_j _ _ _ _ (by omega), hX43, u3_k _ _ _ _ (by first | exact Nat.ne_of_beq_eq_false rfl | decide), hX41, u3_k _ _ _ _ (by first | exact Nat.ne_of_beq_eq_false rfl | decide), hX40, u3_k _ _ _ _ (by first | exact Nat.ne_of_beq_eq_false rfl | decide), hX1, u3_k _ _ _ _ (by first | exact Nat.ne_of_beq_eq_false rfl | decide)])⟩, fun y h => (by rw [hGXa 44 0 y (show 4400 ∉ [5600] by first | exact nlm_ni rfl | decide), hX47, u3_j _ _ _ _ h, hX44, u3_k _ _ _ _ (by first | exact Nat.ne_of_beq_eq_false rfl | decide), hX43, u3_k _ _ _ _ (by first | exact Nat.ne_of_beq_eq_false rfl | decide), hX41, u3_k _ _ _ _ (by first | exact Nat.ne_of_beq_eq_false rfl | decide), hX40, u3_k _ _ _ _ (by first | exact Nat.ne_of_beq_eq_false rfl | decide), hX1, u3_k _ _ _ _ (by first | exact Nat.ne_of_beq_eq_false rfl | decide)]), fun _ => ⟨fun y a b e => hva y a (by omega) e, fun y j a b c d e => hvo y j c d (fun q => e ⟨q.2.2.1, q.2.2.2⟩)⟩, fun q => (by exfalso; omega)⟩
                        · refine lv_aload_n hx hb dX9_field_158 rfl (lv_at hl 0 rfl) ?_
                          refine x_geto hx hb hf9 hw (by first | exact Int.le_refl 0 | omega) (by first | exact zlt hc40 | omega) sl_40_14 lk45 dX9_field_159 ?_
                          refine lv_iload hx hb dX9_field_162 (lv_at hl 5 rfl) ?_
                          refine x_iald hx hb hK.1 hw (by first | exact Int.le_refl 0 | omega) (by first | exact zlt hc55 | omega) ar_55 (len_E ar_55 (by first | exact Nat.ne_of_beq_eq_false rfl | decide)) (by omega) (by omega) (by omega) dX9_field_164 ?_
                          have e52 : ∀ p9 q9 : Int, Xa 55 p9 q9 = X 55 p9 q9 := fun p9 q9 => by rw [hGXa 55 p9 q9 (show 5500 ∉ [5600] by first | exact nlm_ni rfl | decide), hX47, u3_k _ _ _ _ (by first | exact Nat.ne_of_beq_eq_false rfl | decide), hX44, u3_k _ _ _ _ (by first | exact Nat.ne_of_beq_eq_false rfl | decide), hX43, u3_k _ _ _ _ (by first | exact Nat.ne_of_beq_eq_false rfl | decide), hX41, u3_k _ _ _ _ (by first | exact Nat.ne_of_beq_eq_false rfl | decide), hX40, u3_k _ _ _ _ (by first | exact Nat.ne_of_beq_eq_false rfl | decide), hX1, u3_k _ _ _ _ (by first | exact Nat.ne_of_beq_eq_false rfl | decide)]
                          rw [e52 0 x]
                          have f53 : 0 ≤ X 55 0 x ∧ X 55 0 x ≤ 7 := hR 55 0 x
                          refine lv_iload_n hx hb dX9_field_165 rfl (lv_at hl 1 rfl) ?_
                          have q900022 : Frm [5600] X47 Xa := Frm.tr Frm.rf (Frm.mono hGXa (by first | exact nls_of rfl | decide))
                          refine x_icmp_ne (tgt := 192) hx hb (by omega) (by omega) dX9_field_166 (by decide) (fun c54 => ?_) (fun c54 => ?_)
                          · refine lv_iinc (v := jI (x + 1)) (lv' := [(7, .int (jI (x + 1))), (0, .ref (ad 40 0)), (1, .int (jI t)), (2, .int (jI name)), (3, .int (jI lane)), (6, .int (jI (X 44 0 t)))]) hx hb dX9_field_192 hl (k := 5) rfl (jI_add _ _) (by decide) rfl (fun ls hl => ?_)
                            refine lv_goto (tgt := 149) hx hb dX9_field_195 (by decide) ?_
                            exact ih149 (x + 1) Xa _ _ _ (by omega) hRXa q900022 (by omega) (hFl.skip (by rw [hGXa 55 0 x (show 5500 ∉ [5600] by first | exact nlm_ni rfl | decide), hX47, u3_k _ _ _ _ (by first | exact Nat.ne_of_beq_eq_false rfl | decide), hX44, u3_k _ _ _ _ (by first | exact Nat.ne_of_beq_eq_false rfl | decide), hX43, u3_k _ _ _ _ (by first | exact Nat.ne_of_beq_eq_false rfl | decide), hX41, u3_k _ _ _ _ (by first | exact Nat.ne_of_beq_eq_false rfl | decide), hX40, u3_k _ _ _ _ (by first | exact Nat.ne_of_beq_eq_false rfl | decide), hX1, u3_k _ _ _ _ (by first | exact Nat.ne_of_beq_eq_false rfl | decide)]; omega)) (fun y a b c => hva y a (by have : y ≠ x := fun q => (by rw [q] at c; omega); omega) c) (fun y j a b n => hvo y j a b (fun q9 => n ⟨q9.1, by omega, q9.2.2.1, q9.2.2.2⟩)) hw hS (lv_sub hl [1, 2, 3, 4, 5, 0] rfl)
                          · refine lv_aload_n hx hb dX9_field_169 rfl (lv_at hl 0 rfl) ?_
                            refine x_geto hx hb hf9 hw (by first | exact Int.le_refl 0 | omega) (by first | exact zlt hc40 | omega) sl_40_15 lk48 dX9_field_170 ?_
                            refine lv_iconst (v := jI 5) hx hb dX9_field_173 rfl ?_
                            refine lv_iload hx hb dX9_field_174 (lv_at hl 5 rfl) ?_
                            refine x_imul hx hb dX9_field_176 ?_
                            refine lv_iload hx hb dX9_field_177 (lv_at hl 4 rfl) ?_
                            refine x_iadd hx hb dX9_field_179 ?_
                            refine lv_aload_n hx hb dX9_field_180 rfl (lv_at hl 0 rfl) ?_
                            refine x_geto hx hb hf9 hw (by first | exact Int.le_refl 0 | omega) (by first | exact zlt hc40 | omega) sl_40_6 lk23 dX9_field_181 ?_
                            refine lv_iconst (v := jI 5) hx hb dX9_field_184 rfl ?_
                            refine lv_iload_n hx hb dX9_field_185 rfl (lv_at hl 1 rfl) ?_
                            refine x_imul hx hb dX9_field_186 ?_
                            refine lv_iload hx hb dX9_field_187 (lv_at hl 4 rfl) ?_
                            refine x_iadd hx hb dX9_field_189 ?_
                            refine x_lald hx hb hK.1 hw (by first | exact Int.le_refl 0 | omega) (by first | exact zlt hc47 | omega) ar_47 (len_E ar_47 (by first | exact Nat.ne_of_beq_eq_false rfl | decide)) (by omega) (by omega) (by omega) dX9_field_190 ?_
                            have e56 : Xa 47 0 ((5 * t) + (X 44 0 t)) = X43 47 0 ((5 * t) + (X 44 0 t)) := by rw [hGXa 47 0 ((5 * t) + (X 44 0 t)) (show 4700 ∉ [5600] by first | exact nlm_ni rfl | decide), hX47, u3_k _ _ _ _ (by first | exact Nat.ne_of_beq_eq_false rfl | decide), hX44, u3_k _ _ _ _ (by first | exact Nat.ne_of_beq_eq_false rfl | decide)]
                            rw [e56]
                            rw [hVX43]
                            refine x_last hx hb hK.1 hw hS (by first | exact Int.le_refl 0 | omega) (by first | exact zlt hc56 | omega) ar_56 (len_E ar_56 (by first | exact Nat.ne_of_beq_eq_false rfl | decide)) (by omega) (by omega) (by omega) dX9_field_191 (fun H locs hw hS => ?_)
                            obtain ⟨X57, hX57⟩ : ∃ Xq, Xq = u3 Xa 56 0 ((5 * x) + (X 44 0 t)) (-1) := ⟨_, rfl⟩
                            rw [← hX57] at hw
                            have hRX57 : Rng X57 := by rw [hX57]; exact rng_set hRXa (show (-9223372036854775808) ≤ (-1) ∧ (-1) ≤ 9223372036854775807 by omega)
                            have hVX57 : X57 56 0 ((5 * x) + (X 44 0 t)) = (-1) := by rw [hX57]; exact u3_s _ _ _ _ _
                            have hFX57 : Frm [4001, 4500, 4600, 4700, 4800, 4400, 5600] X X57 := by rw [hX57]; exact Frm.set hFXa (show 5600 ∈ [4001, 4500, 4600, 4700, 4800, 4400, 5600] by first | exact nlm_in rfl | decide)
                            refine lv_iinc (v := jI (x + 1)) (lv' := [(7, .int (jI (x + 1))), (0, .ref (ad 40 0)), (1, .int (jI t)), (2, .int (jI name)), (3, .int (jI lane)), (6, .int (jI (X 44 0 t)))]) hx hb dX9_field_192 hl (k := 5) rfl (jI_add _ _) (by decide) rfl (fun ls hl => ?_)
                            refine lv_goto (tgt := 149) hx hb dX9_field_195 (by decide) ?_
                            have q59 : Frm [5600] X47 X57 := by rw [hX57]; exact Frm.set q900022 (show 5600 ∈ [5600] by first | exact nlm_in rfl | decide)
                            exact ih149 (x + 1) X57 _ _ _ (by omega) hRX57 q59 (by omega) ((by rw [hX57]; exact hFl.step hRXa (by omega) (by rw [hGXa 55 0 x (show 5500 ∉ [5600] by first | exact nlm_ni rfl | decide), hX47, u3_k _ _ _ _ (by first | exact Nat.ne_of_beq_eq_false rfl | decide), hX44, u3_k _ _ _ _ (by first | exact Nat.ne_of_beq_eq_false rfl | decide), hX43, u3_k _ _ _ _ (by first | exact Nat.ne_of_beq_eq_false rfl | decide), hX41, u3_k _ _ _ _ (by first | exact Nat.ne_of_beq_eq_false rfl | decide), hX40, u3_k _ _ _ _ (by first | exact Nat.ne_of_beq_eq_false rfl | decide), hX1, u3_k _ _ _ _ (by first | exact Nat.ne_of_beq_eq_false rfl | decide)]; omega) (by first | exact tyv_none (show 0 ≤ Xa 40 0 13 from (hRXa 40 0 13).1) | (rw [hGXa 46 0 (5 * t + X 44 0 t) (show 4600 ∉ [5600] by first | exact nlm_ni rfl | decide), hX47, u3_k _ _ _ _ (by first | exact Nat.ne_of_beq_eq_false rfl | decide), hX44, u3_k _ _ _ _ (by first | exact Nat.ne_of_beq_eq_false rfl | decide), hX43, u3_k _ _ _ _ (by first | exact Nat.ne_of_beq_eq_false rfl | decide), hVX41, show lane = 0 by omega]; exact tyv_0)))) (fun y a b c => if hy : y = x then (by rw [hy, hVX57]; split <;> omega) else (by rw [hX57, u3_j _ _ _ _ (by omega)]; exact hva y a (by omega) c)) (fun y j a b n => (if q : y = x ∧ j = X 44 0 t then absurd ⟨by omega, by omega, by rw [q.1]; omega, q.2⟩ n else (by rw [hX57, u3_j _ _ _ _ (by omega)]; exact hvo y j a b (fun q9 => n ⟨q9.1, by omega, q9.2.2.1, q9.2.2.2⟩)))) hw hS (lv_sub hl [1, 2, 3, 4, 5, 0] rfl)
                    have q63 : Frm [4001, 4500, 4600, 4700, 4800, 4400] X X43 := by rw [hX43]; exact Frm.set q900025 (show 4700 ∈ [4001, 4500, 4600, 4700, 4800, 4400] by first | exact nlm_in rfl | decide)
                    have q64 : Frm [4001, 4500, 4600, 4700, 4800, 4400] X X44 := by rw [hX44]; exact Frm.set q63 (show 4800 ∈ [4001, 4500, 4600, 4700, 4800, 4400] by first | exact nlm_in rfl | decide)
                    have q65 : Frm [4001, 4500, 4600, 4700, 4800, 4400] X X47 := by rw [hX47]; exact Frm.set q64 (show 4400 ∈ [4001, 4500, 4600, 4700, 4800, 4400] by first | exact nlm_in rfl | decide)
                    exact lp149 (30 - 0 : Int).toNat.succ 0 X47 _ _ _ (by omega) hRX47 Frm.rf (by omega) (Fld.in_field (lane := lane) (v := (-1)) hMI hR (by omega) (by omega) (by omega) (fun q => by omega) q65 (fun j hj => (by rw [hX47, u3_j _ _ _ _ hj, hX44, u3_k _ _ _ _ (by first | exact Nat.ne_of_beq_eq_false rfl | decide), hX43, u3_k _ _ _ _ (by first | exact Nat.ne_of_beq_eq_false rfl | decide), hX41, u3_k _ _ _ _ (by first | exact Nat.ne_of_beq_eq_false rfl | decide), hX40, u3_k _ _ _ _ (by first | exact Nat.ne_of_beq_eq_false rfl | decide), hX1, u3_k _ _ _ _ (by first | exact Nat.ne_of_beq_eq_false rfl | decide)])) hVX47 (fun j hj => ⟨(by rw [hX47, u3_k _ _ _ _ (by first | exact Nat.ne_of_beq_eq_false rfl | decide), hX44, u3_k _ _ _ _ (by first | exact Nat.ne_of_beq_eq_false rfl | decide), hX43, u3_k _ _ _ _ (by first | exact Nat.ne_of_beq_eq_false rfl | decide), hX41, u3_j _ _ _ _ hj, hX40, u3_k _ _ _ _ (by first | exact Nat.ne_of_beq_eq_false rfl | decide), hX1, u3_k _ _ _ _ (by first | exact Nat.ne_of_beq_eq_false rfl | decide)]), (by rw [hX47, u3_k _ _ _ _ (by first | exact Nat.ne_of_beq_eq_false rfl | decide), hX44, u3_k _ _ _ _ (by first | exact Nat.ne_of_beq_eq_false rfl | decide), hX43, u3_j _ _ _ _ hj, hX41, u3_k _ _ _ _ (by first | exact Nat.ne_of_beq_eq_false rfl | decide), hX40, u3_k _ _ _ _ (by first | exact Nat.ne_of_beq_eq_false rfl | decide), hX1, u3_k _ _ _ _ (by first | exact Nat.ne_of_beq_eq_false rfl | decide)])⟩) ⟨(by rw [hX47, u3_k _ _ _ _ (by first | exact Nat.ne_of_beq_eq_false rfl | decide), hX44, u3_k _ _ _ _ (by first | exact Nat.ne_of_beq_eq_false rfl | decide), hX43, u3_k _ _ _ _ (by first | exact Nat.ne_of_beq_eq_false rfl | decide)]; exact hVX41), (by rw [hX47, u3_k _ _ _ _ (by first | exact Nat.ne_of_beq_eq_false rfl | decide), hX44, u3_k _ _ _ _ (by first | exact Nat.ne_of_beq_eq_false rfl | decide)]; exact hVX43)⟩) (fun y a b => by omega) (fun y j _ _ _ => (by rw [hX47, u3_k _ _ _ _ (by first | exact Nat.ne_of_beq_eq_false rfl | decide), hX44, u3_k _ _ _ _ (by first | exact Nat.ne_of_beq_eq_false rfl | decide), hX43, u3_k _ _ _ _ (by first | exact Nat.ne_of_beq_eq_false rfl | decide), hX41, u3_k _ _ _ _ (by first | exact Nat.ne_of_beq_eq_false rfl | decide), hX40, u3_k _ _ _ _ (by first | exact Nat.ne_of_beq_eq_false rfl | decide), hX1, u3_k _ _ _ _ (by first | exact Nat.ne_of_beq_eq_false rfl | decide)])) hw hS (lv_sub hl [2, 3, 4, 5, 1, 0] rfl)
                  · refine lv_lload hx hb dX9_field_115 (lv_at hl 5 rfl) ?_
                    refine lv_goto (tgt := 123) hx hb dX9_field_117 (by decide) ?_
                    refine x_last hx hb hK.1 hw hS (by first | exact Int.le_refl 0 | omega) (by first | exact zlt hc47 | omega) ar_47 (len_E ar_47 (by first | exact Nat.ne_of_beq_eq_false rfl | decide)) (by omega) (by omega) (by omega) dX9_field_123 (fun H locs hw hS => ?_)
                    obtain ⟨X66, hX66⟩ : ∃ Xq, Xq = u3 X41 47 0 ((5 * t) + (X 44 0 t)) v := ⟨_, rfl⟩
                    rw [← hX66] at hw
                    have hRX66 : Rng X66 := by rw [hX66]; exact rng_set hRX41 (show (-9223372036854775808) ≤ v ∧ v ≤ 9223372036854775807 by omega)
                    have hVX66 : X66 47 0 ((5 * t) + (X 44 0 t)) = v := by rw [hX66]; exact u3_s _ _ _ _ _
                    have hFX66 : Frm [4001, 4500, 4600, 4700, 4800, 4400, 5600] X X66 := by rw [hX66]; exact Frm.set hFX41 (show 4700 ∈ [4001, 4500, 4600, 4700, 4800, 4400, 5600] by first | exact nlm_in rfl | decide)
                    refine lv_aload_n hx hb dX9_field_124 rfl (lv_at hl 1 rfl) ?_
                    refine x_geto hx hb hf9 hw (by first | exact Int.le_refl 0 | omega) (by first | exact zlt hc40 | omega) sl_40_7 lk27 dX9_field_125 ?_
                    refine lv_iconst (v := jI 5) hx hb dX9_field_128 rfl ?_
                    refine lv_iload_n hx hb dX9_field_129 rfl (lv_at hl 2 rfl) ?_
                    refine x_imul hx hb dX9_field_130 ?_
                    refine lv_iload hx hb dX9_field_131 (lv_at hl 0 rfl) ?_
                    refine x_iadd hx hb dX9_field_133 ?_
                    refine lv_iconst (v := jI 0) hx hb dX9_field_134 rfl ?_
                    refine x_zast hx hb hK.1 hw hS (by first | exact Int.le_refl 0 | omega) (by first | exact zlt hc48 | omega) ar_48 (len_E ar_48 (by first | exact Nat.ne_of_beq_eq_false rfl | decide)) (by omega) (by omega) (by omega) (by omega) (by omega) dX9_field_135 (fun H locs hw hS => ?_)
                    obtain ⟨X67, hX67⟩ : ∃ Xq, Xq = u3 X66 48 0 ((5 * t) + (X 44 0 t)) 0 := ⟨_, rfl⟩
                    rw [← hX67] at hw
                    have hRX67 : Rng X67 := by rw [hX67]; exact rng_set hRX66 (show 0 ≤ 0 ∧ 0 ≤ 1 by omega)
                    have hVX67 : X67 48 0 ((5 * t) + (X 44 0 t)) = 0 := by rw [hX67]; exact u3_s _ _ _ _ _
                    have hFX67 : Frm [4001, 4500, 4600, 4700, 4800, 4400, 5600] X X67 := by rw [hX67]; exact Frm.set hFX66 (show 4800 ∈ [4001, 4500, 4600, 4700, 4800, 4400, 5600] by first | exact nlm_in rfl | decide)
                    refine lv_aload_n hx hb dX9_field_136 rfl (lv_at hl 1 rfl) ?_
                    refine x_geto hx hb hf9 hw (by first | exact Int.le_refl 0 | omega) (by first | exact zlt hc40 | omega) sl_40_3 lk13 dX9_field_137 ?_
                    refine lv_iload_n hx hb dX9_field_140 rfl (lv_at hl 2 rfl) ?_
                    refine lv_dup2_11 hx hb dX9_field_141 rfl rfl ?_
                    refine x_iald hx hb hK.1 hw (by first | exact Int.le_refl 0 | omega) (by first | exact zlt hc44 | omega) ar_44 (len_E ar_44 (by first | exact Nat.ne_of_beq_eq_false rfl | decide)) (by omega) (by omega) (by omega) dX9_field_142 ?_
                    have e68 : ∀ p9 q9 : Int, X67 44 p9 q9 = X 44 p9 q9 := fun p9 q9 => by rw [hX67, u3_k _ _ _ _ (by first | exact Nat.ne_of_beq_eq_false rfl | decide), hX66, u3_k _ _ _ _ (by first | exact Nat.ne_of_beq_eq_false rfl | decide), hX41, u3_k _ _ _ _ (by first | exact Nat.ne_of_beq_eq_false rfl | decide), hX40, u3_k _ _ _ _ (by first | exact Nat.ne_of_beq_eq_false rfl | decide), hX1, u3_k _ _ _ _ (by first | exact Nat.ne_of_beq_eq_false rfl | decide)]
                    rw [e68 0 t]
                    have f69 : 0 ≤ X 44 0 t ∧ X 44 0 t ≤ 5 := hR 44 0 t
                    refine lv_iconst (v := jI 1) hx hb dX9_field_143 rfl ?_
                    refine x_iadd hx hb dX9_field_144 ?_
                    refine x_iast hx hb hK.1 hw hS (by first | exact Int.le_refl 0 | omega) (by first | exact zlt hc44 | omega) ar_44 (len_E ar_44 (by first | exact Nat.ne_of_beq_eq_false rfl | decide)) (by omega) (by omega) (by omega) dX9_field_145 (fun H locs hw hS => ?_)
                    obtain ⟨X70, hX70⟩ : ∃ Xq, Xq = u3 X67 44 0 t ((X 44 0 t) + 1) := ⟨_, rfl⟩
                    rw [← hX70] at hw
                    have hRX70 : Rng X70 := by rw [hX70]; exact rng_set hRX67 (show 0 ≤ ((X 44 0 t) + 1) ∧ ((X 44 0 t) + 1) ≤ 5 by omega)
                    have hVX70 : X70 44 0 t = ((X 44 0 t) + 1) := by rw [hX70]; exact u3_s _ _ _ _ _
                    have hFX70 : Frm [4001, 4500, 4600, 4700, 4800, 4400, 5600] X X70 := by rw [hX70]; exact Frm.set hFX67 (show 4400 ∈ [4001, 4500, 4600, 4700, 4800, 4400, 5600] by first | exact nlm_in rfl | decide)
                    refine lv_iconst (v := jI 0) hx hb dX9_field_146 rfl ?_
                    refine lv_istore (lv' := [(7, .int (jI 0)), (6, .int (jI (X 44 0 t))), (0, .ref (ad 40 0)), (1, .int (jI t)), (2, .int (jI name)), (3, .int (jI lane)), (4, .long (jL v))]) hx hb dX9_field_147 hl (by decide) rfl (fun ls hl => ?_)
                    have lp149 : ∀ (nn : Nat) (x : Int) (Xa : Nat → Int → Int → Int) (H : Heap) (locs : List Loc) (ls : Array Slot), (30 - x) < (nn : Int) → (Rng Xa) → (Frm [5600] X70 Xa) → (0 ≤ x ∧ x ≤ 30) → (Fld Xa t (X 44 0 t) x) → (∀ y, 0 ≤ y → y < x → X 55 0 y = t → Xa 56 0 (5 * y + X 44 0 t) = (if lane = 0 then v else -1)) → (∀ y j, 0 ≤ j → j ≤ 4 → ¬ (0 ≤ y ∧ y < x ∧ X 55 0 y = t ∧ j = X 44 0 t) → Xa 56 0 (5 * y + j) = X 56 0 (5 * y + j)) → wd D tc base (ad, cnt, Xa, Y, ln) H → va_S (frA base) s.heap H locs → lv_has ls 8 [(0, .ref (ad 40 0)), (1, .int (jI t)), (2, .int (jI name)), (3, .int (jI lane)), (6, .int (jI (X 44 0 t))), (7, .int (jI x))] → W p l e ({ frames := 1, cells := 0, slots := 0, locals := 23 } : Room) s m av9 below meth c H locs 0 0 Q9 (F0 m 149 ls []) := by
                      intro nn
                      induction nn with
                      | zero => intro x Xa H locs ls hm hRXa hGXa hx7 hFl hva hvo hw hS hl; exfalso; omega
                      | succ nn ih149 =>
                        intro x Xa H locs ls hm hRXa hGXa hx7 hFl hva hvo hw hS hl
                        have hFXa : Frm [4001, 4500, 4600, 4700, 4800, 4400, 5600] X Xa := Frm.tr hFX70 (Frm.mono hGXa (by first | exact nls_of rfl | decide))
                        refine lv_iload hx hb dX9_field_149 (lv_at hl 5 rfl) ?_
                        refine lv_aload_n hx hb dX9_field_151 rfl (lv_at hl 0 rfl) ?_
                        refine x_geti (jz := 13) hx hb hf9 hw (by first | exact Int.le_refl 0 | omega) (by first | exact zlt hc40 | omega) sl_40_13 rfl lk151 dX9_field_152 ?_
                        have e71 : Xa 40 0 13 = X 40 0 13 := by rw [hGXa 40 0 13 (show 4014 ∉ [5600] by first | exact nlm_ni rfl | decide), hX70, u3_k _ _ _ _ (by first | exact Nat.ne_of_beq_eq_false rfl | decide), hX67, u3_k _ _ _ _ (by first | exact Nat.ne_of_beq_eq_false rfl | decide), hX66, u3_k _ _ _ _ (by first | exact Nat.ne_of_beq_eq_false rfl | decide), hX41, u3_k _ _ _ _ (by first | exact Nat.ne_of_beq_eq_false rfl | decide), hX40, u3_k _ _ _ _ (by first | exact Nat.ne_of_beq_eq_false rfl | decide), hX1, u3_j _ _ _ _ (by decide)]
                        rw [e71]
                        have f72 : 0 ≤ X 40 0 13 ∧ X 40 0 13 ≤ 30 := hR 40 0 13
                        refine x_icmp_ge (tgt := 198) hx hb (by omega) (by omega) dX9_field_155 (by decide) (fun c73 => ?_) (fun c73 => ?_)
                        · refine lv_iload hx hb dX9_field_198 (lv_at hl 4 rfl) ?_
                          rw [hQ9]
                          refine ret_i (mc := 0) (ms := 0) hx hb hr hlocks hw hS (by first | exact Nat.le_of_ble_eq_true rfl | omega) (by first | exact Nat.le_of_ble_eq_true rfl | omega) dX9_field_200 ?_
                          have e74 : Xa 44 0 t = X 44 0 t + 1 := (by rw [hGXa 44 0 t (show 4400 ∉ [5600] by first | exact nlm_ni rfl | decide)]; exact hVX70)
                          exact ⟨Xa, rfl, hRXa, hFXa, hFl.out (by rw [hGXa 40 0 13 (show 4014 ∉ [5600] by first | exact nlm_ni rfl | decide), hX70, u3_k _ _ _ _ (by first | exact Nat.ne_of_beq_eq_false rfl | decide), hX67, u3_k _ _ _ _ (by first | exact Nat.ne_of_beq_eq_false rfl | decide), hX66, u3_k _ _ _ _ (by first | exact Nat.ne_of_beq_eq_false rfl | decide), hX41, u3_k _ _ _ _ (by first | exact Nat.ne_of_beq_eq_false rfl | decide), hX40, u3_k _ _ _ _ (by first | exact Nat.ne_of_beq_eq_false rfl | decide), hX1, u3_j _ _ _ _ (by decide)]; omega), by omega, (by (try delta Hid at *); first | exact Or.inr (Or.inr (Or.inr (Or.inr ((⟨by omega, by omega, by omega, by omega, by omega, by omega, by omega⟩))))) | omega), fun h => ⟨(by rw [hGXa 45 0 (5 * t + X 44 0 t) (show 4500 ∉ [5600] by first | exact nlm_ni rfl | decide), hX70, u3_k _ _ _ _ (by first | exact Nat.ne_of_beq_eq_false rfl | decide), hX67, u3_k _ _ _ _ (by first | exact Nat.ne_of_beq_eq_false rfl | decide), hX66, u3_k _ _ _ _ (by first | exact Nat.ne_of_beq_eq_false rfl | decide), hX41, u3_k _ _ _ _ (by first | exact Nat.ne_of_beq_eq_false rfl | decide)]; exact hVX40), (by rw [hGXa 46 0 (5 * t + X 44 0 t) (show 4600 ∉ [5600] by first | exact nlm_ni rfl | decide), hX70, u3_k _ _ _ _ (by first | exact Nat.ne_of_beq_eq_false rfl | decide), hX67, u3_k _ _ _ _ (by first | exact Nat.ne_of_beq_eq_false rfl | decide), hX66, u3_k _ _ _ _ (by first | exact Nat.ne_of_beq_eq_false rfl | decide)]; exact hVX41), (by rw [hGXa 47 0 (5 * t + X 44 0 t) (show 4700 ∉ [5600] by first | exact nlm_ni rfl | decide), hX70, u3_k _ _ _ _ (by first | exact Nat.ne_of_beq_eq_false rfl | decide), hX67, u3_k _ _ _ _ (by first | exact Nat.ne_of_beq_eq_false rfl | decide)]; rw [hVX66]; split <;> omega), (by rw [hGXa 48 0 (5 * t + X 44 0 t) (show 4800 ∉ [5600] by first | exact nlm_ni rfl | decide), hX70, u3_k _ _ _ _ (by first | exact Nat.ne_of_beq_eq_false rfl | decide)]; exact hVX67)⟩, fun y h => ⟨(by rw [hGXa 45 0 y (show 4500 ∉ [5600] by first | exact nlm_ni rfl | decide), hX70, u3_k _ _ _ _ (by first | exact Nat.ne_of_beq_eq_false rfl | decide), hX67, u3_k _ _ _ _ (by first | exact Nat.ne_of_beq_eq_false rfl | decide), hX66, u3_k _ _ _ _ (by first | exact Nat.ne_of_beq_eq_false rfl | decide), hX41, u3_k _ _ _ _ (by first | exact Nat.ne_of_beq_eq_false rfl | decide), hX40, u3_j _ _ _ _ (by omega), hX1, u3_k _ _ _ _ (by first | exact Nat.ne_of_beq_eq_false rfl | decide)]), (by rw [hGXa 46 0 y (show 4600 ∉ [5600] by first | exact nlm_ni rfl | decide), hX70, u3_k _ _ _ _ (by first | exact Nat.ne_of_beq_eq_false rfl | decide), hX67, u3_k _ _ _ _ (by first | exact Nat.ne_of_beq_eq_false rfl | decide), hX66, u3_k _ _ _ _ (by first | exact Nat.ne_of_beq_eq_false rfl | decide), hX41, u3_j _ _ _ _ (by omega), hX40, u3_k _ _ _ _ (by first | exact Nat.ne_of_beq_eq_false rfl | decide), hX1, u3_k _ _ _ _ (by first | exact Nat.ne_of_beq_eq_false rfl | decide)]), (by rw [hGXa 47 0 y (show 4700 ∉ [5600] by first | exact nlm_ni rfl | decide), hX70, u3_k _ _ _ _ (by first | exact Nat.ne_of_beq_eq_false rfl | decide), hX67, u3_k _ _ _ _ (by first | exact Nat.ne_of_beq_eq_false rfl | decide), hX66, u3_j _ _ _ _ (by omega), hX41, u3_k _ _ _ _ (by first | exact Nat.ne_of_beq_eq_false rfl | decide), hX40, u3_k _ _ _ _ (by first | exact Nat.ne_of_beq_eq_false rfl | decide), hX1, u3_k _ _ _ _ (by first | exact Nat.ne_of_beq_eq_false rfl | decide)]), (by rw [hGXa 48 0 y (show 4800 ∉ [5600] by first | exact nlm_ni rfl | decide), hX70, u3_k _ _ _ _ (by first | exact Nat.ne_of_beq_eq_false rfl | decide), hX67, u3_j _ _ _ _ (by omega), hX66, u3_k _ _ _ _ (by first | exact Nat.ne_of_beq_eq_false rfl | decide), hX41, u3_k _ _ _ _ (by first | exact Nat.ne_of_beq_eq_false rfl | decide), hX40, u3_k _ _ _ _ (by first | exact Nat.ne_of_beq_eq_false rfl | decide), hX1, u3_k _ _ _ _ (by first | exact Nat.ne_of_beq_eq_false rfl | decide)])⟩, fun y h => (by rw [hGXa 44 0 y (show 4400 ∉ [5600] by first | exact nlm_ni rfl | decide), hX70, u3_j _ _ _ _ h, hX67, u3_k _ _ _ _ (by first | exact Nat.ne_of_beq_eq_false rfl | decide), hX66, u3_k _ _ _ _ (by first | exact Nat.ne_of_beq_eq_false rfl | decide), hX41, u3_k _ _ _ _ (by first | exact Nat.ne_of_beq_eq_false rfl | decide), hX40, u3_k _ _ _ _ (by first | exact Nat.ne_of_beq_eq_false rfl | decide), hX1, u3_k _ _ _ _ (by first | exact Nat.ne_of_beq_eq_false rfl | decide)]), fun _ => ⟨fun y a b e => hva y a (by omega) e, fun y j a b c d e => hvo y j c d (fun q => e ⟨q.2.2.1, q.2.2.2⟩)⟩, fun q => (by exfalso; omega)⟩
                        · refine lv_aload_n hx hb dX9_field_158 rfl (lv_at hl 0 rfl) ?_
                          refine x_geto hx hb hf9 hw (by first | exact Int.le_refl 0 | omega) (by first | exact zlt hc40 | omega) sl_40_14 lk45 dX9_field_159 ?_
                          refine lv_iload hx hb dX9_field_162 (lv_at hl 5 rfl) ?_
                          refine x_iald hx hb hK.1 hw (by first | exact Int.le_refl 0 | omega) (by first | exact zlt hc55 | omega) ar_55 (len_E ar_55 (by first | exact Nat.ne_of_beq_eq_false rfl | decide)) (by omega) (by omega) (by omega) dX9_field_164 ?_
                          have e75 : ∀ p9 q9 : Int, Xa 55 p9 q9 = X 55 p9 q9 := fun p9 q9 => by rw [hGXa 55 p9 q9 (show 5500 ∉ [5600] by first | exact nlm_ni rfl | decide), hX70, u3_k _ _ _ _ (by first | exact Nat.ne_of_beq_eq_false rfl | decide), hX67, u3_k _ _ _ _ (by first | exact Nat.ne_of_beq_eq_false rfl | decide), hX66, u3_k _ _ _ _ (by first | exact Nat.ne_of_beq_eq_false rfl | decide), hX41, u3_k _ _ _ _ (by first | exact Nat.ne_of_beq_eq_false rfl | decide), hX40, u3_k _ _ _ _ (by first | exact Nat.ne_of_beq_eq_false rfl | decide), hX1, u3_k _ _ _ _ (by first | exact Nat.ne_of_beq_eq_false rfl | decide)]
                          rw [e75 0 x]
                          have f76 : 0 ≤ X 55 0 x ∧ X 55 0 x ≤ 7 := hR 55 0 x
                          refine lv_iload_n hx hb dX9_field_165 rfl (lv_at hl 1 rfl) ?_
                          refine x_icmp_ne (tgt := 192) hx hb (by omega) (by omega) dX9_field_166 (by decide) (fun c77 => ?_) (fun c77 => ?_)
                          · refine lv_iinc (v := jI (x + 1)) (lv' := [(7, .int (jI (x + 1))), (0, .ref (ad 40 0)), (1, .int (jI t)), (2, .int (jI name)), (3, .int (jI lane)), (6, .int (jI (X 44 0 t)))]) hx hb dX9_field_192 hl (k := 5) rfl (jI_add _ _) (by decide) rfl (fun ls hl => ?_)
                            refine lv_goto (tgt := 149) hx hb dX9_field_195 (by decide) ?_
                            have q78 : Frm [5600] X70 Xa := Frm.tr Frm.rf (Frm.mono hGXa (by first | exact nls_of rfl | decide))
                            exact ih149 (x + 1) Xa _ _ _ (by omega) hRXa q78 (by omega) (hFl.skip (by rw [hGXa 55 0 x (show 5500 ∉ [5600] by first | exact nlm_ni rfl | decide), hX70, u3_k _ _ _ _ (by first | exact Nat.ne_of_beq_eq_false rfl | decide), hX67, u3_k _ _ _ _ (by first | exact Nat.ne_of_beq_eq_false rfl | decide), hX66, u3_k _ _ _ _ (by first | exact Nat.ne_of_beq_eq_false rfl | decide), hX41, u3_k _ _ _ _ (by first | exact Nat.ne_of_beq_eq_false rfl | decide), hX40, u3_k _ _ _ _ (by first | exact Nat.ne_of_beq_eq_false rfl | decide), hX1, u3_k _ _ _ _ (by first | exact Nat.ne_of_beq_eq_false rfl | decide)]; omega)) (fun y a b c => hva y a (by have : y ≠ x := fun q => (by rw [q] at c; omega); omega) c) (fun y j a b n => hvo y j a b (fun q9 => n ⟨q9.1, by omega, q9.2.2.1, q9.2.2.2⟩)) hw hS (lv_sub hl [1, 2, 3, 4, 5, 0] rfl)
                          · refine lv_aload_n hx hb dX9_field_169 rfl (lv_at hl 0 rfl) ?_
                            refine x_geto hx hb hf9 hw (by first | exact Int.le_refl 0 | omega) (by first | exact zlt hc40 | omega) sl_40_15 lk48 dX9_field_170 ?_
                            refine lv_iconst (v := jI 5) hx hb dX9_field_173 rfl ?_
                            refine lv_iload hx hb dX9_field_174 (lv_at hl 5 rfl) ?_
                            refine x_imul hx hb dX9_field_176 ?_
                            refine lv_iload hx hb dX9_field_177 (lv_at hl 4 rfl) ?_
                            refine x_iadd hx hb dX9_field_179 ?_
                            refine lv_aload_n hx hb dX9_field_180 rfl (lv_at hl 0 rfl) ?_
                            refine x_geto hx hb hf9 hw (by first | exact Int.le_refl 0 | omega) (by first | exact zlt hc40 | omega) sl_40_6 lk23 dX9_field_181 ?_
                            refine lv_iconst (v := jI 5) hx hb dX9_field_184 rfl ?_
                            refine lv_iload_n hx hb dX9_field_185 rfl (lv_at hl 1 rfl) ?_
                            refine x_imul hx hb dX9_field_186 ?_
                            refine lv_iload hx hb dX9_field_187 (lv_at hl 4 rfl) ?_
                            refine x_iadd hx hb dX9_field_189 ?_
                            refine x_lald hx hb hK.1 hw (by first | exact Int.le_refl 0 | omega) (by first | exact zlt hc47 | omega) ar_47 (len_E ar_47 (by first | exact Nat.ne_of_beq_eq_false rfl | decide)) (by omega) (by omega) (by omega) dX9_field_190 ?_
                            have e79 : Xa 47 0 ((5 * t) + (X 44 0 t)) = X66 47 0 ((5 * t) + (X 44 0 t)) := by rw [hGXa 47 0 ((5 * t) + (X 44 0 t)) (show 4700 ∉ [5600] by first | exact nlm_ni rfl | decide), hX70, u3_k _ _ _ _ (by first | exact Nat.ne_of_beq_eq_false rfl | decide), hX67, u3_k _ _ _ _ (by first | exact Nat.ne_of_beq_eq_false rfl | decide)]
                            rw [e79]
                            rw [hVX66]
                            refine x_last hx hb hK.1 hw hS (by first | exact Int.le_refl 0 | omega) (by first | exact zlt hc56 | omega) ar_56 (len_E ar_56 (by first | exact Nat.ne_of_beq_eq_false rfl | decide)) (by omega) (by omega) (by omega) dX9_field_191 (fun H locs hw hS => ?_)
                            obtain ⟨X80, hX80⟩ : ∃ Xq, Xq = u3 Xa 56 0 ((5 * x) + (X 44 0 t)) v := ⟨_, rfl⟩
                            rw [← hX80] at hw
                            have hRX80 : Rng X80 := by rw [hX80]; exact rng_set hRXa (show (-9223372036854775808) ≤ v ∧ v ≤ 9223372036854775807 by omega)
                            have hVX80 : X80 56 0 ((5 * x) + (X 44 0 t)) = v := by rw [hX80]; exact u3_s _ _ _ _ _
                            have hFX80 : Frm [4001, 4500, 4600, 4700, 4800, 4400, 5600] X X80 := by rw [hX80]; exact Frm.set hFXa (show 5600 ∈ [4001, 4500, 4600, 4700, 4800, 4400, 5600] by first | exact nlm_in rfl | decide)
                            refine lv_iinc (v := jI (x + 1)) (lv' := [(7, .int (jI (x + 1))), (0, .ref (ad 40 0)), (1, .int (jI t)), (2, .int (jI name)), (3, .int (jI lane)), (6, .int (jI (X 44 0 t)))]) hx hb dX9_field_192 hl (k := 5) rfl (jI_add _ _) (by decide) rfl (fun ls hl => ?_)
                            refine lv_goto (tgt := 149) hx hb dX9_field_195 (by decide) ?_
                            have q81 : Frm [5600] X70 Xa := Frm.tr Frm.rf (Frm.mono hGXa (by first | exact nls_of rfl | decide))
                            have q82 : Frm [5600] X70 X80 := by rw [hX80]; exact Frm.set q81 (show 5600 ∈ [5600] by first | exact nlm_in rfl | decide)
                            exact ih149 (x + 1) X80 _ _ _ (by omega) hRX80 q82 (by omega) ((by rw [hX80]; exact hFl.step hRXa (by omega) (by rw [hGXa 55 0 x (show 5500 ∉ [5600] by first | exact nlm_ni rfl | decide), hX70, u3_k _ _ _ _ (by first | exact Nat.ne_of_beq_eq_false rfl | decide), hX67, u3_k _ _ _ _ (by first | exact Nat.ne_of_beq_eq_false rfl | decide), hX66, u3_k _ _ _ _ (by first | exact Nat.ne_of_beq_eq_false rfl | decide), hX41, u3_k _ _ _ _ (by first | exact Nat.ne_of_beq_eq_false rfl | decide), hX40, u3_k _ _ _ _ (by first | exact Nat.ne_of_beq_eq_false rfl | decide), hX1, u3_k _ _ _ _ (by first | exact Nat.ne_of_beq_eq_false rfl | decide)]; omega) (by first | exact tyv_none (show 0 ≤ Xa 40 0 13 from (hRXa 40 0 13).1) | (rw [hGXa 46 0 (5 * t + X 44 0 t) (show 4600 ∉ [5600] by first | exact nlm_ni rfl | decide), hX70, u3_k _ _ _ _ (by first | exact Nat.ne_of_beq_eq_false rfl | decide), hX67, u3_k _ _ _ _ (by first | exact Nat.ne_of_beq_eq_false rfl | decide), hX66, u3_k _ _ _ _ (by first | exact Nat.ne_of_beq_eq_false rfl | decide), hVX41, show lane = 0 by omega]; exact tyv_0)))) (fun y a b c => if hy : y = x then (by rw [hy, hVX80]; split <;> omega) else (by rw [hX80, u3_j _ _ _ _ (by omega)]; exact hva y a (by omega) c)) (fun y j a b n => (if q : y = x ∧ j = X 44 0 t then absurd ⟨by omega, by omega, by rw [q.1]; omega, q.2⟩ n else (by rw [hX80, u3_j _ _ _ _ (by omega)]; exact hvo y j a b (fun q9 => n ⟨q9.1, by omega, q9.2.2.1, q9.2.2.2⟩)))) hw hS (lv_sub hl [1, 2, 3, 4, 5, 0] rfl)
                    have q86 : Frm [4001, 4500, 4600, 4700, 4800, 4400] X X66 := by rw [hX66]; exact Frm.set q900025 (show 4700 ∈ [4001, 4500, 4600, 4700, 4800, 4400] by first | exact nlm_in rfl | decide)
                    have q87 : Frm [4001, 4500, 4600, 4700, 4800, 4400] X X67 := by rw [hX67]; exact Frm.set q86 (show 4800 ∈ [4001, 4500, 4600, 4700, 4800, 4400] by first | exact nlm_in rfl | decide)
                    have q88 : Frm [4001, 4500, 4600, 4700, 4800, 4400] X X70 := by rw [hX70]; exact Frm.set q87 (show 4400 ∈ [4001, 4500, 4600, 4700, 4800, 4400] by first | exact nlm_in rfl | decide)
                    exact lp149 (30 - 0 : Int).toNat.succ 0 X70 _ _ _ (by omega) hRX70 Frm.rf (by omega) (Fld.in_field (lane := lane) (v := v) hMI hR (by omega) (by omega) (by omega) (fun q => by omega) q88 (fun j hj => (by rw [hX70, u3_j _ _ _ _ hj, hX67, u3_k _ _ _ _ (by first | exact Nat.ne_of_beq_eq_false rfl | decide), hX66, u3_k _ _ _ _ (by first | exact Nat.ne_of_beq_eq_false rfl | decide), hX41, u3_k _ _ _ _ (by first | exact Nat.ne_of_beq_eq_false rfl | decide), hX40, u3_k _ _ _ _ (by first | exact Nat.ne_of_beq_eq_false rfl | decide), hX1, u3_k _ _ _ _ (by first | exact Nat.ne_of_beq_eq_false rfl | decide)])) hVX70 (fun j hj => ⟨(by rw [hX70, u3_k _ _ _ _ (by first | exact Nat.ne_of_beq_eq_false rfl | decide), hX67, u3_k _ _ _ _ (by first | exact Nat.ne_of_beq_eq_false rfl | decide), hX66, u3_k _ _ _ _ (by first | exact Nat.ne_of_beq_eq_false rfl | decide), hX41, u3_j _ _ _ _ hj, hX40, u3_k _ _ _ _ (by first | exact Nat.ne_of_beq_eq_false rfl | decide), hX1, u3_k _ _ _ _ (by first | exact Nat.ne_of_beq_eq_false rfl | decide)]), (by rw [hX70, u3_k _ _ _ _ (by first | exact Nat.ne_of_beq_eq_false rfl | decide), hX67, u3_k _ _ _ _ (by first | exact Nat.ne_of_beq_eq_false rfl | decide), hX66, u3_j _ _ _ _ hj, hX41, u3_k _ _ _ _ (by first | exact Nat.ne_of_beq_eq_false rfl | decide), hX40, u3_k _ _ _ _ (by first | exact Nat.ne_of_beq_eq_false rfl | decide), hX1, u3_k _ _ _ _ (by first | exact Nat.ne_of_beq_eq_false rfl | decide)])⟩) ⟨(by rw [hX70, u3_k _ _ _ _ (by first | exact Nat.ne_of_beq_eq_false rfl | decide), hX67, u3_k _ _ _ _ (by first | exact Nat.ne_of_beq_eq_false rfl | decide), hX66, u3_k _ _ _ _ (by first | exact Nat.ne_of_beq_eq_false rfl | decide)]; exact hVX41), (by rw [hX70, u3_k _ _ _ _ (by first | exact Nat.ne_of_beq_eq_false rfl | decide), hX67, u3_k _ _ _ _ (by first | exact Nat.ne_of_beq_eq_false rfl | decide)]; exact hVX66)⟩) (fun y a b => by omega) (fun y j _ _ _ => (by rw [hX70, u3_k _ _ _ _ (by first | exact Nat.ne_of_beq_eq_false rfl | decide), hX67, u3_k _ _ _ _ (by first | exact Nat.ne_of_beq_eq_false rfl | decide), hX66, u3_k _ _ _ _ (by first | exact Nat.ne_of_beq_eq_false rfl | decide), hX41, u3_k _ _ _ _ (by first | exact Nat.ne_of_beq_eq_false rfl | decide), hX40, u3_k _ _ _ _ (by first | exact Nat.ne_of_beq_eq_false rfl | decide), hX1, u3_k _ _ _ _ (by first | exact Nat.ne_of_beq_eq_false rfl | decide)])) hw hS (lv_sub hl [2, 3, 4, 5, 1, 0] rfl)
                · refine lv_bipush (v := jI (-4)) hx hb dX9_field_66 (by decide) ?_
                  rw [hQ9]
                  refine ret_i (mc := 0) (ms := 0) hx hb hr hlocks hw hS (by first | exact Nat.le_of_ble_eq_true rfl | omega) (by first | exact Nat.le_of_ble_eq_true rfl | omega) dX9_field_68 ?_
                  have hMq89 : MInv X1 := minv_frm hMI q900021 (by decide)
                  have e91 : X1 44 0 t = X 44 0 t := (by rw [hX1, u3_k _ _ _ _ (by first | exact Nat.ne_of_beq_eq_false rfl | decide)])
                  exact ⟨X1, rfl, hRX1, hFX1, hMq89, by omega, (by (try delta Hid at *); first | exact Or.inr (Or.inr (Or.inr (Or.inl ⟨by omega, by omega, by omega, by omega, by omega, by omega, by omega⟩))) | exact Or.inr (Or.inr (Or.inr (Or.inr ((⟨by omega, by omega, by omega, by omega, by omega, by omega, by omega⟩))))) | omega), fun h => (by exfalso; omega), fun y h => ⟨(by rw [hX1, u3_k _ _ _ _ (by first | exact Nat.ne_of_beq_eq_false rfl | decide)]), (by rw [hX1, u3_k _ _ _ _ (by first | exact Nat.ne_of_beq_eq_false rfl | decide)]), (by rw [hX1, u3_k _ _ _ _ (by first | exact Nat.ne_of_beq_eq_false rfl | decide)]), (by rw [hX1, u3_k _ _ _ _ (by first | exact Nat.ne_of_beq_eq_false rfl | decide)])⟩, fun y h => (by rw [hX1, u3_k _ _ _ _ (by first | exact Nat.ne_of_beq_eq_false rfl | decide)]), fun q => (by exfalso; omega), fun _ => q900021⟩
              · refine lv_bipush (v := jI (-3)) hx hb dX9_field_53 (by decide) ?_
                rw [hQ9]
                refine ret_i (mc := 0) (ms := 0) hx hb hr hlocks hw hS (by first | exact Nat.le_of_ble_eq_true rfl | omega) (by first | exact Nat.le_of_ble_eq_true rfl | omega) dX9_field_55 ?_
                have hMq93 : MInv X1 := minv_frm hMI q900021 (by decide)
                have e95 : X1 44 0 t = X 44 0 t := (by rw [hX1, u3_k _ _ _ _ (by first | exact Nat.ne_of_beq_eq_false rfl | decide)])
                exact ⟨X1, rfl, hRX1, hFX1, hMq93, by omega, (by (try delta Hid at *); first | exact Or.inr (Or.inr (Or.inl ⟨by omega, by omega, by omega, by omega, by omega, by omega⟩)) | exact Or.inr (Or.inr (Or.inr (Or.inr ((⟨by omega, by omega, by omega, by omega, by omega, by omega, by omega⟩))))) | omega), fun h => (by exfalso; omega), fun y h => ⟨(by rw [hX1, u3_k _ _ _ _ (by first | exact Nat.ne_of_beq_eq_false rfl | decide)]), (by rw [hX1, u3_k _ _ _ _ (by first | exact Nat.ne_of_beq_eq_false rfl | decide)]), (by rw [hX1, u3_k _ _ _ _ (by first | exact Nat.ne_of_beq_eq_false rfl | decide)]), (by rw [hX1, u3_k _ _ _ _ (by first | exact Nat.ne_of_beq_eq_false rfl | decide)])⟩, fun y h => (by rw [hX1, u3_k _ _ _ _ (by first | exact Nat.ne_of_beq_eq_false rfl | decide)]), fun q => (by exfalso; omega), fun _ => q900021⟩
            · refine lv_bipush (v := jI (-2)) hx hb dX9_field_43 (by decide) ?_
              rw [hQ9]
              refine ret_i (mc := 0) (ms := 0) hx hb hr hlocks hw hS (by first | exact Nat.le_of_ble_eq_true rfl | omega) (by first | exact Nat.le_of_ble_eq_true rfl | omega) dX9_field_45 ?_
              have hMq97 : MInv X1 := minv_frm hMI q900021 (by decide)
              have e99 : X1 44 0 t = X 44 0 t := (by rw [hX1, u3_k _ _ _ _ (by first | exact Nat.ne_of_beq_eq_false rfl | decide)])
              exact ⟨X1, rfl, hRX1, hFX1, hMq97, by omega, (by (try delta Hid at *); first | exact Or.inr (Or.inl ⟨by omega, by omega, (fun q => by omega), by omega, by omega⟩) | exact Or.inr (Or.inr (Or.inr (Or.inr ((⟨by omega, by omega, by omega, by omega, by omega, by omega, by omega⟩))))) | omega), fun h => (by exfalso; omega), fun y h => ⟨(by rw [hX1, u3_k _ _ _ _ (by first | exact Nat.ne_of_beq_eq_false rfl | decide)]), (by rw [hX1, u3_k _ _ _ _ (by first | exact Nat.ne_of_beq_eq_false rfl | decide)]), (by rw [hX1, u3_k _ _ _ _ (by first | exact Nat.ne_of_beq_eq_false rfl | decide)]), (by rw [hX1, u3_k _ _ _ _ (by first | exact Nat.ne_of_beq_eq_false rfl | decide)])⟩, fun y h => (by rw [hX1, u3_k _ _ _ _ (by first | exact Nat.ne_of_beq_eq_false rfl | decide)]), fun q => (by exfalso; omega), fun _ => q900021⟩
  · subst ez2
    refine x_if_neF (tgt := 15) hx hb (by omega) (by decide) dX9_field_10 (by decide) ?_
    refine lv_iconst (v := jI (-1)) hx hb dX9_field_13 rfl ?_
    rw [hQ9]
    refine ret_i (mc := 0) (ms := 0) hx hb hr hlocks hw hS (by first | exact Nat.le_of_ble_eq_true rfl | omega) (by first | exact Nat.le_of_ble_eq_true rfl | omega) dX9_field_14 ?_
    have hMq101 : MInv X1 := minv_frm hMI q900021 (by decide)
    have e103 : X1 44 0 t = X 44 0 t := (by rw [hX1, u3_k _ _ _ _ (by first | exact Nat.ne_of_beq_eq_false rfl | decide)])
    exact ⟨X1, rfl, hRX1, hFX1, hMq101, by omega, (by (try delta Hid at *); first | exact Or.inl ⟨(fun q => by omega), by omega, by omega⟩ | exact Or.inr (Or.inr (Or.inr (Or.inr ((⟨by omega, by omega, by omega, by omega, by omega, by omega, by omega⟩))))) | omega), fun h => (by exfalso; omega), fun y h => ⟨(by rw [hX1, u3_k _ _ _ _ (by first | exact Nat.ne_of_beq_eq_false rfl | decide)]), (by rw [hX1, u3_k _ _ _ _ (by first | exact Nat.ne_of_beq_eq_false rfl | decide)]), (by rw [hX1, u3_k _ _ _ _ (by first | exact Nat.ne_of_beq_eq_false rfl | decide)]), (by rw [hX1, u3_k _ _ _ _ (by first | exact Nat.ne_of_beq_eq_false rfl | decide)])⟩, fun y h => (by rw [hX1, u3_k _ _ _ _ (by first | exact Nat.ne_of_beq_eq_false rfl | decide)]), fun q => (by exfalso; omega), fun _ => q900021⟩

set_option maxHeartbeats 4000000 in
set_option maxRecDepth 100000 in
theorem c_X9_item (l : Launch) (D : va_G) (tc : Nat → ClassId) (base : Nat) (ad : Nat → Int → Nat) (cnt : Nat → Int) (X : Nat → Int → Int → Int) (Y : Nat → Int → Int → Option Int) (ln : Int → Int) (hR : Rng X) (hFx : Fx cnt) (hMI : MInv X) (x k i v : Int) (hx : -2147483648 ≤ x ∧ x ≤ 2147483647) (hk : -2147483648 ≤ k ∧ k ≤ 2147483647) (hi : -2147483648 ≤ i ∧ i ≤ 2147483647) (hv : -9223372036854775808 ≤ v ∧ v ≤ 9223372036854775807) : KI l D tc base yX9_item wsX9_item ({ frames := 2, cells := 0, slots := 0, locals := 43 } : Room) [.ref (ad 40 0), .int (jI x), .int (jI k), .int (jI i), .long (jL v)] (ad, cnt, X, Y, ln) 0 0 (fun z u => ∃ X1 : Nat → Int → Int → Int, u = (ad, cnt, X1, Y, ln) ∧ Rng X1 ∧ Frm [4001, 6600, 6700, 6800, 4023, 5900] X X1 ∧ MInv X1 ∧ (-2147483648 ≤ z ∧ z ≤ 2147483647) ∧ ((¬ (0 ≤ x ∧ x < X 40 0 13 ∧ 0 ≤ k ∧ k < X 44 0 (X 55 0 x)) ∧ z = -1) ∨ ((0 ≤ x ∧ x < X 40 0 13 ∧ 0 ≤ k ∧ k < X 44 0 (X 55 0 x)) ∧ X 46 0 (5 * X 55 0 x + k) < 3 ∧ z = -14) ∨ ((0 ≤ x ∧ x < X 40 0 13 ∧ 0 ≤ k ∧ k < X 44 0 (X 55 0 x)) ∧ 3 ≤ X 46 0 (5 * X 55 0 x + k) ∧ (X 56 0 (5 * x + k) < 0) ∧ z = -11) ∨ ((0 ≤ x ∧ x < X 40 0 13 ∧ 0 ≤ k ∧ k < X 44 0 (X 55 0 x)) ∧ 3 ≤ X 46 0 (5 * X 55 0 x + k) ∧ ¬ (X 56 0 (5 * x + k) < 0) ∧ ¬ (0 ≤ i ∧ i < X 58 0 (X 56 0 (5 * x + k))) ∧ z = -12) ∨ ((0 ≤ x ∧ x < X 40 0 13 ∧ 0 ≤ k ∧ k < X 44 0 (X 55 0 x)) ∧ 3 ≤ X 46 0 (5 * X 55 0 x + k) ∧ ¬ (X 56 0 (5 * x + k) < 0) ∧ (0 ≤ i ∧ i < X 58 0 (X 56 0 (5 * x + k))) ∧ (0 < X 40 0 20 ∧ X 40 0 22 = 80) ∧ z = -4) ∨ ((0 ≤ x ∧ x < X 40 0 13 ∧ 0 ≤ k ∧ k < X 44 0 (X 55 0 x)) ∧ 3 ≤ X 46 0 (5 * X 55 0 x + k) ∧ ¬ (X 56 0 (5 * x + k) < 0) ∧ (0 ≤ i ∧ i < X 58 0 (X 56 0 (5 * x + k))) ∧ (X 40 0 20 = 0 ∨ X 40 0 22 ≤ 79) ∧ z = 1)) ∧ (z < 0 → Frm [4001] X X1) ∧ (z = 1 → eNoteM X X1 (X 64 0 (X 40 0 22)) (X 65 0 (X 40 0 22)) (X 56 0 (5 * x + k)) i (X 59 0 (12 * X 56 0 (5 * x + k) + i)) ∧ X1 59 0 (12 * X 56 0 (5 * x + k) + i) = cutZ (X 57 0 (X 56 0 (5 * x + k))) v ∧ ∀ p, p ≠ 12 * X 56 0 (5 * x + k) + i → X1 59 0 p = X 59 0 p)) := by
  refine K_of (cc := cX9_item) (maxL := 7) (ret := (some .int)) (by decide) rfl (Nat.le_of_ble_eq_true rfl) ?_
  intro p e s m below meth c ls hx hb hr hml hown hts hlocks hl hK hw hS
  have hown : s.vm.findClass RX9 = some m.cls := hown
  obtain ⟨av9, hav9⟩ : ∃ a9 : Array Value, a9 = ([.ref (ad 40 0), .int (jI x), .int (jI k), .int (jI i), .long (jL v)] : List Value).toArray := ⟨_, rfl⟩
  rw [← hav9] at hts ⊢
  obtain ⟨Q9, hQ9⟩ : ∃ q9Q : State → Prop, q9Q = MQ below (QI D tc base (fun z u => ∃ X1 : Nat → Int → Int → Int, u = (ad, cnt, X1, Y, ln) ∧ Rng X1 ∧ Frm [4001, 6600, 6700, 6800, 4023, 5900] X X1 ∧ MInv X1 ∧ (-2147483648 ≤ z ∧ z ≤ 2147483647) ∧ ((¬ (0 ≤ x ∧ x < X 40 0 13 ∧ 0 ≤ k ∧ k < X 44 0 (X 55 0 x)) ∧ z = -1) ∨ ((0 ≤ x ∧ x < X 40 0 13 ∧ 0 ≤ k ∧ k < X 44 0 (X 55 0 x)) ∧ X 46 0 (5 * X 55 0 x + k) < 3 ∧ z = -14) ∨ ((0 ≤ x ∧ x < X 40 0 13 ∧ 0 ≤ k ∧ k < X 44 0 (X 55 0 x)) ∧ 3 ≤ X 46 0 (5 * X 55 0 x + k) ∧ (X 56 0 (5 * x + k) < 0) ∧ z = -11) ∨ ((0 ≤ x ∧ x < X 40 0 13 ∧ 0 ≤ k ∧ k < X 44 0 (X 55 0 x)) ∧ 3 ≤ X 46 0 (5 * X 55 0 x + k) ∧ ¬ (X 56 0 (5 * x + k) < 0) ∧ ¬ (0 ≤ i ∧ i < X 58 0 (X 56 0 (5 * x + k))) ∧ z = -12) ∨ ((0 ≤ x ∧ x < X 40 0 13 ∧ 0 ≤ k ∧ k < X 44 0 (X 55 0 x)) ∧ 3 ≤ X 46 0 (5 * X 55 0 x + k) ∧ ¬ (X 56 0 (5 * x + k) < 0) ∧ (0 ≤ i ∧ i < X 58 0 (X 56 0 (5 * x + k))) ∧ (0 < X 40 0 20 ∧ X 40 0 22 = 80) ∧ z = -4) ∨ ((0 ≤ x ∧ x < X 40 0 13 ∧ 0 ≤ k ∧ k < X 44 0 (X 55 0 x)) ∧ 3 ≤ X 46 0 (5 * X 55 0 x + k) ∧ ¬ (X 56 0 (5 * x + k) < 0) ∧ (0 ≤ i ∧ i < X 58 0 (X 56 0 (5 * x + k))) ∧ (X 40 0 20 = 0 ∨ X 40 0 22 ≤ 79) ∧ z = 1)) ∧ (z < 0 → Frm [4001] X X1) ∧ (z = 1 → eNoteM X X1 (X 64 0 (X 40 0 22)) (X 65 0 (X 40 0 22)) (X 56 0 (5 * x + k)) i (X 59 0 (12 * X 56 0 (5 * x + k) + i)) ∧ X1 59 0 (12 * X 56 0 (5 * x + k) + i) = cutZ (X 57 0 (X 56 0 (5 * x + k))) v ∧ ∀ p, p ≠ 12 * X 56 0 (5 * x + k) + i → X1 59 0 p = X 59 0 p))) av9 s 0 0 (frA base) := ⟨_, rfl⟩
  rw [← hQ9]
  have hi9 : ∀ w ∈ wsX90, w ∈ wsX9_item := fun w h => List.mem_cons_of_mem _ (List.mem_append_right _ h)
  have hf9 : fctx s m _ RX9 wsX9_item D tc RX9 TX9 51 9 := ⟨hts, hi9, hown, hK.1, rfl⟩
  have lk48 := hts (.fieldLink RX9 48 (TX9 15).1 (TX9 15).2.1 (TX9 15).2.2.1) (gj_X9_item_0 _ (gp_1 gp_h))
  have lk51 := hts (.fieldLink RX9 51 (TX9 16).1 (TX9 16).2.1 (TX9 16).2.2.1) (gj_X9_item_0 _ (gp_4 (gp_4 (gp_1 gp_h))))
  have lk54 := hts (.fieldLink RX9 54 (TX9 17).1 (TX9 17).2.1 (TX9 17).2.2.1) (gj_X9_item_0 _ (gp_1 (gp_1 gp_h)))
  have lk57 := hts (.fieldLink RX9 57 (TX9 18).1 (TX9 18).2.1 (TX9 18).2.2.1) (gj_X9_item_0 _ (gp_4 (gp_4 gp_h)))
  have lk72 := hts (.fieldLink RX9 72 (TX9 25).1 (TX9 25).2.1 (TX9 25).2.2.1) (gj_X9_item_0 _ (gp_4 gp_h))
  have lk75 := hts (.fieldLink RX9 75 (TX9 26).1 (TX9 26).2.1 (TX9 26).2.2.1) (gj_X9_item_0 _ (gp_4 (gp_1 (gp_1 gp_h))))
  have lk78 := hts (.fieldLink RX9 78 (TX9 27).1 (TX9 27).2.1 (TX9 27).2.2.1) (gj_X9_item_0 _ (gp_4 (gp_1 (gp_1 (gp_1 gp_h)))))
  have lk145 := hts (.fieldLink RX9 145 (TX9 0).1 (TX9 0).2.1 (TX9 0).2.2.1) (gj_X9_item_0 _ (gp_h))
  have lk165 := hts (.fieldLink RX9 165 (TX9 20).1 (TX9 20).2.1 (TX9 20).2.2.1) (gj_X9_item_0 _ (gp_1 (gp_1 (gp_1 gp_h))))
  have lk173 := hts (.fieldLink RX9 173 (TX9 22).1 (TX9 22).2.1 (TX9 22).2.2.1) (gj_X9_item_0 _ (gp_4 (gp_1 gp_h)))
  have hc40 : cnt 40 = 1 := hFx.at 40 1 (by decide)
  have hc56 : cnt 56 = 1 := hFx.at 56 1 (by decide)
  have hc57 : cnt 57 = 1 := hFx.at 57 1 (by decide)
  have hc58 : cnt 58 = 1 := hFx.at 58 1 (by decide)
  have hc59 : cnt 59 = 1 := hFx.at 59 1 (by decide)
  have hc66 : cnt 66 = 1 := hFx.at 66 1 (by decide)
  have hc67 : cnt 67 = 1 := hFx.at 67 1 (by decide)
  have hc68 : cnt 68 = 1 := hFx.at 68 1 (by decide)
  have hl : lv_has ls 7 [(0, .ref (ad 40 0)), (1, .int (jI x)), (2, .int (jI k)), (3, .int (jI i)), (4, .long (jL v))] := hl
  have fstypes : 0 ≤ X 40 0 2 ∧ X 40 0 2 ≤ 8 := hR 40 0 2
  have fsthings : 0 ≤ X 40 0 13 ∧ X 40 0 13 ≤ 30 := hR 40 0 13
  have fsmarks : 0 ≤ X 40 0 20 ∧ X 40 0 20 ≤ 4 := hR 40 0 20
  have fsnotes : 0 ≤ X 40 0 22 ∧ X 40 0 22 ≤ 80 := hR 40 0 22
  refine lv_aload_n hx hb dX9_item_0 rfl (lv_at hl 0 rfl) ?_
  refine lv_iconst (v := jI 0) hx hb dX9_item_1 rfl ?_
  refine x_puti (jz := 0) hx hb hf9 ⟨tyX9_ok, nmX9⟩ hw hS (by first | exact Int.le_refl 0 | omega) (by first | exact zlt hc40 | omega) sl_40_0 rfl lk145 rfl (tyX9_ok 0 (by decide)) rfl rfl dX9_item_2 (fun H locs hw hS => ?_)
  obtain ⟨X1, hX1⟩ : ∃ Xq, Xq = u3 X 40 0 0 0 := ⟨_, rfl⟩
  rw [← hX1] at hw
  have hRX1 : Rng X1 := by rw [hX1]; exact rng_set hR (show (-2147483648) ≤ 0 ∧ 0 ≤ 2147483647 by omega)
  have hVX1 : X1 40 0 0 = 0 := by rw [hX1]; exact u3_s _ _ _ _ _
  have hFX1 : Frm [4001, 6600, 6700, 6800, 4023, 5900] X X1 := by rw [hX1]; exact Frm.set Frm.rf (show 4001 ∈ [4001, 6600, 6700, 6800, 4023, 5900] by first | exact nlm_in rfl | decide)
  refine lv_aload_n hx hb dX9_item_5 rfl (lv_at hl 0 rfl) ?_
  refine lv_iload_n hx hb dX9_item_6 rfl (lv_at hl 1 rfl) ?_
  refine lv_iload_n hx hb dX9_item_7 rfl (lv_at hl 2 rfl) ?_
  refine gos_i (run_V (As := [.int (jI x), .int (jI k)]) (rest := []) hx hb hml hown hts (c_X9_isField l D tc base ad cnt X1 Y ln hRX1 hFx x k (by omega) (by omega)) (cwV 2 hts gX9_item_X9_isField rfl rfl rfl (by first | exact hd_X9_isField | decide +kernel) ⟨Nat.le_of_ble_eq_true rfl, Nat.le_of_ble_eq_true rfl⟩) hK hw (by first | exact Int.le_refl 0 | omega) (by first | exact zlt hc40 | omega) sl_40_0 rfl rfl hl.1 rfl (Nat.le_of_ble_eq_true rfl) dX9_item_8 ⟨Nat.le_of_ble_eq_true rfl, Nat.le_of_ble_eq_true rfl⟩) hS (fun z2 u3 H locs p4 hw hS => ?_)
  obtain ⟨eu3, p4⟩ := p4
  subst eu3
  have e5 : X1 40 0 13 = X 40 0 13 := by rw [hX1, u3_j _ _ _ _ (by decide)]
  have e6 : ∀ j : Int, X1 55 0 j = X 55 0 j := fun j => by rw [hX1, u3_k _ _ _ _ (by first | exact Nat.ne_of_beq_eq_false rfl | decide)]
  have e7 : ∀ j : Int, X1 44 0 j = X 44 0 j := fun j => by rw [hX1, u3_k _ _ _ _ (by first | exact Nat.ne_of_beq_eq_false rfl | decide)]
  simp only [e5, e6, e7] at p4
  have q900029 : Frm [4001] X X1 := by rw [hX1]; exact Frm.set Frm.rf (show 4001 ∈ [4001] by first | exact nlm_in rfl | decide)
  rcases p4 with ⟨ez2, p4⟩ | ⟨ez2, p4⟩
  · subst ez2
    refine x_if_neT (tgt := 16) hx hb (by omega) (by decide) dX9_item_11 (by decide) ?_
    refine lv_aload_n hx hb dX9_item_16 rfl (lv_at hl 0 rfl) ?_
    refine lv_iload_n hx hb dX9_item_17 rfl (lv_at hl 1 rfl) ?_
    refine lv_iload_n hx hb dX9_item_18 rfl (lv_at hl 2 rfl) ?_
    refine gos_i (run_V (As := [.int (jI x), .int (jI k)]) (rest := []) hx hb hml hown hts (c_X9_lane l D tc base ad cnt X1 Y ln hRX1 hFx x k (by omega) (by omega)) (cwV 2 hts gX9_item_X9_lane rfl rfl rfl (by first | exact hd_X9_lane | decide +kernel) ⟨Nat.le_of_ble_eq_true rfl, Nat.le_of_ble_eq_true rfl⟩) hK hw (by first | exact Int.le_refl 0 | omega) (by first | exact zlt hc40 | omega) sl_40_0 rfl rfl hl.1 rfl (Nat.le_of_ble_eq_true rfl) dX9_item_19 ⟨Nat.le_of_ble_eq_true rfl, Nat.le_of_ble_eq_true rfl⟩) hS (fun z8 u9 H locs p10 hw hS => ?_)
    obtain ⟨eu9, p10⟩ := p10
    subst eu9
    have e11 : ∀ j : Int, X1 55 0 j = X 55 0 j := fun j => by rw [hX1, u3_k _ _ _ _ (by first | exact Nat.ne_of_beq_eq_false rfl | decide)]
    have e12 : ∀ j : Int, X1 46 0 j = X 46 0 j := fun j => by rw [hX1, u3_k _ _ _ _ (by first | exact Nat.ne_of_beq_eq_false rfl | decide)]
    simp only [e11, e12] at p10
    refine lv_iconst (v := jI 3) hx hb dX9_item_22 rfl ?_
    refine x_icmp_ge (tgt := 29) hx hb (by omega) (by omega) dX9_item_23 (by decide) (fun c13 => ?_) (fun c13 => ?_)
    · refine lv_aload_n hx hb dX9_item_29 rfl (lv_at hl 0 rfl) ?_
      refine x_geto hx hb hf9 hw (by first | exact Int.le_refl 0 | omega) (by first | exact zlt hc40 | omega) sl_40_15 lk48 dX9_item_30 ?_
      refine lv_iconst (v := jI 5) hx hb dX9_item_33 rfl ?_
      refine lv_iload_n hx hb dX9_item_34 rfl (lv_at hl 1 rfl) ?_
      refine x_imul hx hb dX9_item_35 ?_
      refine lv_iload_n hx hb dX9_item_36 rfl (lv_at hl 2 rfl) ?_
      refine x_iadd hx hb dX9_item_37 ?_
      obtain ⟨hy1, hy2, hy3⟩ := hMI.1 x k (by omega) (by omega) (by omega) (by omega)
      refine x_lald hx hb hK.1 hw (by first | exact Int.le_refl 0 | omega) (by first | exact zlt hc56 | omega) ar_56 (len_E ar_56 (by first | exact Nat.ne_of_beq_eq_false rfl | decide)) (by omega) (by omega) (by omega) dX9_item_38 ?_
      have e14 : ∀ p9 q9 : Int, X1 56 p9 q9 = X 56 p9 q9 := fun p9 q9 => by rw [hX1, u3_k _ _ _ _ (by first | exact Nat.ne_of_beq_eq_false rfl | decide)]
      rw [e14 0 ((5 * x) + k)]
      have f15 : (-9223372036854775808) ≤ X 56 0 ((5 * x) + k) ∧ X 56 0 ((5 * x) + k) ≤ 9223372036854775807 := hR 56 0 ((5 * x) + k)
      refine x_l2i hx hb dX9_item_39 ?_
      refine lv_istore (lv' := [(6, .int (jI (X 56 0 ((5 * x) + k)))), (0, .ref (ad 40 0)), (1, .int (jI x)), (2, .int (jI k)), (3, .int (jI i)), (4, .long (jL v))]) hx hb dX9_item_40 hl (by decide) rfl (fun ls hl => ?_)
      refine lv_iload hx hb dX9_item_42 (lv_at hl 0 rfl) ?_
      refine x_if_ge (tgt := 50) hx hb (by omega) dX9_item_44 (by decide) (fun c16 => ?_) (fun c16 => ?_)
      · refine lv_iload_n hx hb dX9_item_50 rfl (lv_at hl 4 rfl) ?_
        refine x_if_lt (tgt := 65) hx hb (by omega) dX9_item_51 (by decide) (fun c17 => ?_) (fun c17 => ?_)
        · refine lv_bipush (v := jI (-12)) hx hb dX9_item_65 (by decide) ?_
          rw [hQ9]
          refine ret_i (mc := 0) (ms := 0) hx hb hr hlocks hw hS (by first | exact Nat.le_of_ble_eq_true rfl | omega) (by first | exact Nat.le_of_ble_eq_true rfl | omega) dX9_item_67 ?_
          have q19 : Frm [4001] X X1 := by rw [hX1]; exact Frm.set Frm.rf (show 4001 ∈ [4001] by first | exact nlm_in rfl | decide)
          have hMq18 : MInv X1 := minv_frm hMI q19 (by decide)
          exact ⟨X1, rfl, hRX1, hFX1, hMq18, by omega, (by (try delta Hid at *); exact Or.inr (Or.inr (Or.inr (Or.inl ⟨(by omega), by omega, (fun q => by omega), (fun q => by omega), by omega⟩)))), fun _ => q900029, fun q => (by exfalso; omega)⟩
        · refine lv_iload_n hx hb dX9_item_54 rfl (lv_at hl 4 rfl) ?_
          refine lv_aload_n hx hb dX9_item_55 rfl (lv_at hl 1 rfl) ?_
          refine x_geto hx hb hf9 hw (by first | exact Int.le_refl 0 | omega) (by first | exact zlt hc40 | omega) sl_40_17 lk54 dX9_item_56 ?_
          refine lv_iload hx hb dX9_item_59 (lv_at hl 0 rfl) ?_
          refine x_iald hx hb hK.1 hw (by first | exact Int.le_refl 0 | omega) (by first | exact zlt hc58 | omega) ar_58 (len_E ar_58 (by first | exact Nat.ne_of_beq_eq_false rfl | decide)) (by omega) (by omega) (by omega) dX9_item_61 ?_
          have e21 : ∀ p9 q9 : Int, X1 58 p9 q9 = X 58 p9 q9 := fun p9 q9 => by rw [hX1, u3_k _ _ _ _ (by first | exact Nat.ne_of_beq_eq_false rfl | decide)]
          rw [e21 0 (X 56 0 ((5 * x) + k))]
          have f22 : 0 ≤ X 58 0 (X 56 0 ((5 * x) + k)) ∧ X 58 0 (X 56 0 ((5 * x) + k)) ≤ 12 := hR 58 0 (X 56 0 ((5 * x) + k))
          refine x_icmp_lt (tgt := 68) hx hb (by omega) (by omega) dX9_item_62 (by decide) (fun c23 => ?_) (fun c23 => ?_)
          · refine lv_aload_n hx hb dX9_item_68 rfl (lv_at hl 1 rfl) ?_
            refine gos_i (run_V (As := []) (rest := []) hx hb hml hown hts (c_X9_isFull l D tc base ad cnt X1 Y ln hRX1 hFx) (cwV 0 hts gX9_item_X9_isFull rfl rfl rfl (by first | exact hd_X9_isFull | decide +kernel) ⟨Nat.le_of_ble_eq_true rfl, Nat.le_of_ble_eq_true rfl⟩) hK hw (by first | exact Int.le_refl 0 | omega) (by first | exact zlt hc40 | omega) sl_40_0 rfl rfl hl.1 rfl (Nat.le_of_ble_eq_true rfl) dX9_item_69 ⟨Nat.le_of_ble_eq_true rfl, Nat.le_of_ble_eq_true rfl⟩) hS (fun z24 u25 H locs p26 hw hS => ?_)
            obtain ⟨eu25, p26⟩ := p26
            subst eu25
            have e27 : X1 40 0 20 = X 40 0 20 := by rw [hX1, u3_j _ _ _ _ (by decide)]
            have e28 : X1 40 0 22 = X 40 0 22 := by rw [hX1, u3_j _ _ _ _ (by decide)]
            simp only [e27, e28] at p26
            rcases p26 with ⟨ez24, p26⟩ | ⟨ez24, p26⟩
            · subst ez24
              refine x_if_eqF (tgt := 78) hx hb (by omega) (by decide) dX9_item_72 (by decide) ?_
              refine lv_bipush (v := jI (-4)) hx hb dX9_item_75 (by decide) ?_
              rw [hQ9]
              refine ret_i (mc := 0) (ms := 0) hx hb hr hlocks hw hS (by first | exact Nat.le_of_ble_eq_true rfl | omega) (by first | exact Nat.le_of_ble_eq_true rfl | omega) dX9_item_77 ?_
              have hMq29 : MInv X1 := minv_frm hMI q900029 (by decide)
              exact ⟨X1, rfl, hRX1, hFX1, hMq29, by omega, (by (try delta Hid at *); exact Or.inr (Or.inr (Or.inr (Or.inr (Or.inl ⟨(by omega), by omega, (fun q => by omega), (by omega), (by omega), by omega⟩))))), fun _ => q900029, fun q => (by exfalso; omega)⟩
            · subst ez24
              refine x_if_eqT (tgt := 78) hx hb (by omega) (by decide) dX9_item_72 (by decide) ?_
              refine lv_aload_n hx hb dX9_item_78 rfl (lv_at hl 1 rfl) ?_
              refine x_geti (jz := 20) hx hb hf9 hw (by first | exact Int.le_refl 0 | omega) (by first | exact zlt hc40 | omega) sl_40_20 rfl lk165 dX9_item_79 ?_
              rw [e27]
              have f33 : 0 ≤ X 40 0 20 ∧ X 40 0 20 ≤ 4 := hR 40 0 20
              refine x_if_le (tgt := 137) hx hb (by omega) dX9_item_82 (by decide) (fun c34 => ?_) (fun c34 => ?_)
              · refine lv_aload_n hx hb dX9_item_137 rfl (lv_at hl 1 rfl) ?_
                refine x_geto hx hb hf9 hw (by first | exact Int.le_refl 0 | omega) (by first | exact zlt hc40 | omega) sl_40_18 lk57 dX9_item_138 ?_
                refine lv_bipush (v := jI 12) hx hb dX9_item_141 (by decide) ?_
                refine lv_iload hx hb dX9_item_143 (lv_at hl 0 rfl) ?_
                refine x_imul hx hb dX9_item_145 ?_
                refine lv_iload_n hx hb dX9_item_146 rfl (lv_at hl 4 rfl) ?_
                refine x_iadd hx hb dX9_item_147 ?_
                refine lv_aload_n hx hb dX9_item_148 rfl (lv_at hl 1 rfl) ?_
                refine x_geto hx hb hf9 hw (by first | exact Int.le_refl 0 | omega) (by first | exact zlt hc40 | omega) sl_40_16 lk51 dX9_item_149 ?_
                refine lv_iload hx hb dX9_item_152 (lv_at hl 0 rfl) ?_
                refine x_iald hx hb hK.1 hw (by first | exact Int.le_refl 0 | omega) (by first | exact zlt hc57 | omega) ar_57 (len_E ar_57 (by first | exact Nat.ne_of_beq_eq_false rfl | decide)) (by omega) (by omega) (by omega) dX9_item_154 ?_
                have e35 : ∀ p9 q9 : Int, X1 57 p9 q9 = X 57 p9 q9 := fun p9 q9 => by rw [hX1, u3_k _ _ _ _ (by first | exact Nat.ne_of_beq_eq_false rfl | decide)]
                rw [e35 0 (X 56 0 ((5 * x) + k))]
                have f36 : 0 ≤ X 57 0 (X 56 0 ((5 * x) + k)) ∧ X 57 0 (X 56 0 ((5 * x) + k)) ≤ 5 := hR 57 0 (X 56 0 ((5 * x) + k))
                refine lv_lload hx hb dX9_item_155 (lv_at hl 5 rfl) ?_
                refine gos_l (run_S (As := [.int (jI (X 57 0 (X 56 0 ((5 * x) + k)))), .long (jL v)]) (rest := [.int (jI ((12 * (X 56 0 ((5 * x) + k))) + i)), .ref (ad 59 0)]) hx hb hml hown hts (c_X9_cut l D tc base ad cnt X1 Y ln (X 57 0 (X 56 0 ((5 * x) + k))) v (by omega) (by omega)) (cwS 2 hts gX9_item_X9_cut rfl rfl rfl (by first | exact hd_X9_cut | decide +kernel) ⟨Nat.le_of_ble_eq_true rfl, Nat.le_of_ble_eq_true rfl⟩) hK hw rfl hl.1 rfl (Nat.le_of_ble_eq_true rfl) dX9_item_157 ⟨Nat.le_of_ble_eq_true rfl, Nat.le_of_ble_eq_true rfl⟩) hS (fun z37 u38 H locs p39 hw hS => ?_)
                obtain ⟨eu38, p39⟩ := p39
                subst eu38
                refine x_last hx hb hK.1 hw hS (by first | exact Int.le_refl 0 | omega) (by first | exact zlt hc59 | omega) ar_59 (len_E ar_59 (by first | exact Nat.ne_of_beq_eq_false rfl | decide)) (by omega) (by omega) (by omega) dX9_item_160 (fun H locs hw hS => ?_)
                obtain ⟨X40, hX40⟩ : ∃ Xq, Xq = u3 X1 59 0 ((12 * (X 56 0 ((5 * x) + k))) + i) z37 := ⟨_, rfl⟩
                rw [← hX40] at hw
                have hRX40 : Rng X40 := by rw [hX40]; exact rng_set hRX1 (show (-9223372036854775808) ≤ z37 ∧ z37 ≤ 9223372036854775807 by omega)
                have hVX40 : X40 59 0 ((12 * (X 56 0 ((5 * x) + k))) + i) = z37 := by rw [hX40]; exact u3_s _ _ _ _ _
                have hFX40 : Frm [4001, 6600, 6700, 6800, 4023, 5900] X X40 := by rw [hX40]; exact Frm.set hFX1 (show 5900 ∈ [4001, 6600, 6700, 6800, 4023, 5900] by first | exact nlm_in rfl | decide)
                refine lv_iconst (v := jI 1) hx hb dX9_item_161 rfl ?_
                rw [hQ9]
                refine ret_i (mc := 0) (ms := 0) hx hb hr hlocks hw hS (by first | exact Nat.le_of_ble_eq_true rfl | omega) (by first | exact Nat.le_of_ble_eq_true rfl | omega) dX9_item_162 ?_
                have q42 : Frm [4001, 5900] X X1 := by rw [hX1]; exact Frm.set Frm.rf (show 4001 ∈ [4001, 5900] by first | exact nlm_in rfl | decide)
                have q43 : Frm [4001, 5900] X X40 := by rw [hX40]; exact Frm.set q42 (show 5900 ∈ [4001, 5900] by first | exact nlm_in rfl | decide)
                have hMq41 : MInv X40 := minv_frm hMI q43 (by decide)
                exact ⟨X40, rfl, hRX40, hFX40, hMq41, by omega, (by (try delta Hid at *); exact Or.inr (Or.inr (Or.inr (Or.inr (Or.inr (⟨(by omega), by omega, (fun q => by omega), (by omega), (by omega), by omega⟩)))))), fun q => (by exfalso; omega), fun _ => ⟨Or.inl ⟨by omega, (by rw [hX40, u3_k _ _ _ _ (by first | exact Nat.ne_of_beq_eq_false rfl | decide), hX1, u3_j _ _ _ _ (by decide)]), fun y => ⟨(by rw [hX40, u3_k _ _ _ _ (by first | exact Nat.ne_of_beq_eq_false rfl | decide), hX1, u3_k _ _ _ _ (by first | exact Nat.ne_of_beq_eq_false rfl | decide)]), (by rw [hX40, u3_k _ _ _ _ (by first | exact Nat.ne_of_beq_eq_false rfl | decide), hX1, u3_k _ _ _ _ (by first | exact Nat.ne_of_beq_eq_false rfl | decide)]), (by rw [hX40, u3_k _ _ _ _ (by first | exact Nat.ne_of_beq_eq_false rfl | decide), hX1, u3_k _ _ _ _ (by first | exact Nat.ne_of_beq_eq_false rfl | decide)]), (by rw [hX40, u3_k _ _ _ _ (by first | exact Nat.ne_of_beq_eq_false rfl | decide), hX1, u3_k _ _ _ _ (by first | exact Nat.ne_of_beq_eq_false rfl | decide)]), (by rw [hX40, u3_k _ _ _ _ (by first | exact Nat.ne_of_beq_eq_false rfl | decide), hX1, u3_k _ _ _ _ (by first | exact Nat.ne_of_beq_eq_false rfl | decide)])⟩⟩, (by rw [hVX40]; omega), fun p hp9 => (by rw [hX40, u3_j _ _ _ _ hp9, hX1, u3_k _ _ _ _ (by first | exact Nat.ne_of_beq_eq_false rfl | decide)])⟩⟩
              · refine lv_aload_n hx hb dX9_item_85 rfl (lv_at hl 1 rfl) ?_
                refine x_geto hx hb hf9 hw (by first | exact Int.le_refl 0 | omega) (by first | exact zlt hc40 | omega) sl_40_25 lk72 dX9_item_86 ?_
                refine lv_aload_n hx hb dX9_item_89 rfl (lv_at hl 1 rfl) ?_
                refine x_geti (jz := 22) hx hb hf9 hw (by first | exact Int.le_refl 0 | omega) (by first | exact zlt hc40 | omega) sl_40_22 rfl lk173 dX9_item_90 ?_
                rw [e28]
                have f45 : 0 ≤ X 40 0 22 ∧ X 40 0 22 ≤ 80 := hR 40 0 22
                refine lv_iload hx hb dX9_item_93 (lv_at hl 0 rfl) ?_
                refine x_iast hx hb hK.1 hw hS (by first | exact Int.le_refl 0 | omega) (by first | exact zlt hc66 | omega) ar_66 (len_E ar_66 (by first | exact Nat.ne_of_beq_eq_false rfl | decide)) (by omega) (by omega) (by omega) dX9_item_95 (fun H locs hw hS => ?_)
                obtain ⟨X46, hX46⟩ : ∃ Xq, Xq = u3 X1 66 0 (X 40 0 22) (X 56 0 ((5 * x) + k)) := ⟨_, rfl⟩
                rw [← hX46] at hw
                have hRX46 : Rng X46 := by rw [hX46]; exact rng_set hRX1 (show (-1) ≤ (X 56 0 ((5 * x) + k)) ∧ (X 56 0 ((5 * x) + k)) ≤ 399 by omega)
                have hVX46 : X46 66 0 (X 40 0 22) = (X 56 0 ((5 * x) + k)) := by rw [hX46]; exact u3_s _ _ _ _ _
                have hFX46 : Frm [4001, 6600, 6700, 6800, 4023, 5900] X X46 := by rw [hX46]; exact Frm.set hFX1 (show 6600 ∈ [4001, 6600, 6700, 6800, 4023, 5900] by first | exact nlm_in rfl | decide)
                refine lv_aload_n hx hb dX9_item_96 rfl (lv_at hl 1 rfl) ?_
                refine x_geto hx hb hf9 hw (by first | exact Int.le_refl 0 | omega) (by first | exact zlt hc40 | omega) sl_40_26 lk75 dX9_item_97 ?_
                refine lv_aload_n hx hb dX9_item_100 rfl (lv_at hl 1 rfl) ?_
                refine x_geti (jz := 22) hx hb hf9 hw (by first | exact Int.le_refl 0 | omega) (by first | exact zlt hc40 | omega) sl_40_22 rfl lk173 dX9_item_101 ?_
                have e47 : X46 40 0 22 = X 40 0 22 := by rw [hX46, u3_k _ _ _ _ (by first | exact Nat.ne_of_beq_eq_false rfl | decide), hX1, u3_j _ _ _ _ (by decide)]
                rw [e47]
                have f48 : 0 ≤ X 40 0 22 ∧ X 40 0 22 ≤ 80 := hR 40 0 22
                refine lv_iload_n hx hb dX9_item_104 rfl (lv_at hl 4 rfl) ?_
                refine x_iast hx hb hK.1 hw hS (by first | exact Int.le_refl 0 | omega) (by first | exact zlt hc67 | omega) ar_67 (len_E ar_67 (by first | exact Nat.ne_of_beq_eq_false rfl | decide)) (by omega) (by omega) (by omega) dX9_item_105 (fun H locs hw hS => ?_)
                obtain ⟨X49, hX49⟩ : ∃ Xq, Xq = u3 X46 67 0 (X 40 0 22) i := ⟨_, rfl⟩
                rw [← hX49] at hw
                have hRX49 : Rng X49 := by rw [hX49]; exact rng_set hRX46 (show (-1) ≤ i ∧ i ≤ 11 by omega)
                have hVX49 : X49 67 0 (X 40 0 22) = i := by rw [hX49]; exact u3_s _ _ _ _ _
                have hFX49 : Frm [4001, 6600, 6700, 6800, 4023, 5900] X X49 := by rw [hX49]; exact Frm.set hFX46 (show 6700 ∈ [4001, 6600, 6700, 6800, 4023, 5900] by first | exact nlm_in rfl | decide)
                refine lv_aload_n hx hb dX9_item_106 rfl (lv_at hl 1 rfl) ?_
                refine x_geto hx hb hf9 hw (by first | exact Int.le_refl 0 | omega) (by first | exact zlt hc40 | omega) sl_40_27 lk78 dX9_item_107 ?_
                refine lv_aload_n hx hb dX9_item_110 rfl (lv_at hl 1 rfl) ?_
                refine x_geti (jz := 22) hx hb hf9 hw (by first | exact Int.le_refl 0 | omega) (by first | exact zlt hc40 | omega) sl_40_22 rfl lk173 dX9_item_111 ?_
                have e50 : X49 40 0 22 = X 40 0 22 := by rw [hX49, u3_k _ _ _ _ (by first | exact Nat.ne_of_beq_eq_false rfl | decide), hX46, u3_k _ _ _ _ (by first | exact Nat.ne_of_beq_eq_false rfl | decide), hX1, u3_j _ _ _ _ (by decide)]
                rw [e50]
                have f51 : 0 ≤ X 40 0 22 ∧ X 40 0 22 ≤ 80 := hR 40 0 22
                refine lv_aload_n hx hb dX9_item_114 rfl (lv_at hl 1 rfl) ?_
                refine x_geto hx hb hf9 hw (by first | exact Int.le_refl 0 | omega) (by first | exact zlt hc40 | omega) sl_40_18 lk57 dX9_item_115 ?_
                refine lv_bipush (v := jI 12) hx hb dX9_item_118 (by decide) ?_
                refine lv_iload hx hb dX9_item_120 (lv_at hl 0 rfl) ?_
                refine x_imul hx hb dX9_item_122 ?_
                refine lv_iload_n hx hb dX9_item_123 rfl (lv_at hl 4 rfl) ?_
                refine x_iadd hx hb dX9_item_124 ?_
                refine x_lald hx hb hK.1 hw (by first | exact Int.le_refl 0 | omega) (by first | exact zlt hc59 | omega) ar_59 (len_E ar_59 (by first | exact Nat.ne_of_beq_eq_false rfl | decide)) (by omega) (by omega) (by omega) dX9_item_125 ?_
                have e52 : ∀ p9 q9 : Int, X49 59 p9 q9 = X 59 p9 q9 := fun p9 q9 => by rw [hX49, u3_k _ _ _ _ (by first | exact Nat.ne_of_beq_eq_false rfl | decide), hX46, u3_k _ _ _ _ (by first | exact Nat.ne_of_beq_eq_false rfl | decide), hX1, u3_k _ _ _ _ (by first | exact Nat.ne_of_beq_eq_false rfl | decide)]
                rw [e52 0 ((12 * (X 56 0 ((5 * x) + k))) + i)]
                have f53 : (-9223372036854775808) ≤ X 59 0 ((12 * (X 56 0 ((5 * x) + k))) + i) ∧ X 59 0 ((12 * (X 56 0 ((5 * x) + k))) + i) ≤ 9223372036854775807 := hR 59 0 ((12 * (X 56 0 ((5 * x) + k))) + i)
                refine x_last hx hb hK.1 hw hS (by first | exact Int.le_refl 0 | omega) (by first | exact zlt hc68 | omega) ar_68 (len_E ar_68 (by first | exact Nat.ne_of_beq_eq_false rfl | decide)) (by omega) (by omega) (by omega) dX9_item_126 (fun H locs hw hS => ?_)
                obtain ⟨X54, hX54⟩ : ∃ Xq, Xq = u3 X49 68 0 (X 40 0 22) (X 59 0 ((12 * (X 56 0 ((5 * x) + k))) + i)) := ⟨_, rfl⟩
                rw [← hX54] at hw
                have hRX54 : Rng X54 := by rw [hX54]; exact rng_set hRX49 (show (-9223372036854775808) ≤ (X 59 0 ((12 * (X 56 0 ((5 * x) + k))) + i)) ∧ (X 59 0 ((12 * (X 56 0 ((5 * x) + k))) + i)) ≤ 9223372036854775807 by omega)
                have hVX54 : X54 68 0 (X 40 0 22) = (X 59 0 ((12 * (X 56 0 ((5 * x) + k))) + i)) := by rw [hX54]; exact u3_s _ _ _ _ _
                have hFX54 : Frm [4001, 6600, 6700, 6800, 4023, 5900] X X54 := by rw [hX54]; exact Frm.set hFX49 (show 6800 ∈ [4001, 6600, 6700, 6800, 4023, 5900] by first | exact nlm_in rfl | decide)
                refine lv_aload_n hx hb dX9_item_127 rfl (lv_at hl 1 rfl) ?_
                refine lv_dup hx hb dX9_item_128 rfl ?_
                refine x_geti (jz := 22) hx hb hf9 hw (by first | exact Int.le_refl 0 | omega) (by first | exact zlt hc40 | omega) sl_40_22 rfl lk173 dX9_item_129 ?_
                have e55 : X54 40 0 22 = X 40 0 22 := by rw [hX54, u3_k _ _ _ _ (by first | exact Nat.ne_of_beq_eq_false rfl | decide), hX49, u3_k _ _ _ _ (by first | exact Nat.ne_of_beq_eq_false rfl | decide), hX46, u3_k _ _ _ _ (by first | exact Nat.ne_of_beq_eq_false rfl | decide), hX1, u3_j _ _ _ _ (by decide)]
                rw [e55]
                have f56 : 0 ≤ X 40 0 22 ∧ X 40 0 22 ≤ 80 := hR 40 0 22
                refine lv_iconst (v := jI 1) hx hb dX9_item_132 rfl ?_
                refine x_iadd hx hb dX9_item_133 ?_
                refine x_puti (jz := 22) hx hb hf9 ⟨tyX9_ok, nmX9⟩ hw hS (by first | exact Int.le_refl 0 | omega) (by first | exact zlt hc40 | omega) sl_40_22 rfl lk173 rfl (tyX9_ok 22 (by decide)) rfl rfl dX9_item_134 (fun H locs hw hS => ?_)
                obtain ⟨X57, hX57⟩ : ∃ Xq, Xq = u3 X54 40 0 22 ((X 40 0 22) + 1) := ⟨_, rfl⟩
                rw [← hX57] at hw
                have hRX57 : Rng X57 := by rw [hX57]; exact rng_set hRX54 (show 0 ≤ ((X 40 0 22) + 1) ∧ ((X 40 0 22) + 1) ≤ 80 by omega)
                have hVX57 : X57 40 0 22 = ((X 40 0 22) + 1) := by rw [hX57]; exact u3_s _ _ _ _ _
                have hFX57 : Frm [4001, 6600, 6700, 6800, 4023, 5900] X X57 := by rw [hX57]; exact Frm.set hFX54 (show 4023 ∈ [4001, 6600, 6700, 6800, 4023, 5900] by first | exact nlm_in rfl | decide)
                refine lv_aload_n hx hb dX9_item_137 rfl (lv_at hl 1 rfl) ?_
                refine x_geto hx hb hf9 hw (by first | exact Int.le_refl 0 | omega) (by first | exact zlt hc40 | omega) sl_40_18 lk57 dX9_item_138 ?_
                refine lv_bipush (v := jI 12) hx hb dX9_item_141 (by decide) ?_
                refine lv_iload hx hb dX9_item_143 (lv_at hl 0 rfl) ?_
                refine x_imul hx hb dX9_item_145 ?_
                refine lv_iload_n hx hb dX9_item_146 rfl (lv_at hl 4 rfl) ?_
                refine x_iadd hx hb dX9_item_147 ?_
                refine lv_aload_n hx hb dX9_item_148 rfl (lv_at hl 1 rfl) ?_
                refine x_geto hx hb hf9 hw (by first | exact Int.le_refl 0 | omega) (by first | exact zlt hc40 | omega) sl_40_16 lk51 dX9_item_149 ?_
                refine lv_iload hx hb dX9_item_152 (lv_at hl 0 rfl) ?_
                refine x_iald hx hb hK.1 hw (by first | exact Int.le_refl 0 | omega) (by first | exact zlt hc57 | omega) ar_57 (len_E ar_57 (by first | exact Nat.ne_of_beq_eq_false rfl | decide)) (by omega) (by omega) (by omega) dX9_item_154 ?_
                have e58 : ∀ p9 q9 : Int, X57 57 p9 q9 = X 57 p9 q9 := fun p9 q9 => by rw [hX57, u3_k _ _ _ _ (by first | exact Nat.ne_of_beq_eq_false rfl | decide), hX54, u3_k _ _ _ _ (by first | exact Nat.ne_of_beq_eq_false rfl | decide), hX49, u3_k _ _ _ _ (by first | exact Nat.ne_of_beq_eq_false rfl | decide), hX46, u3_k _ _ _ _ (by first | exact Nat.ne_of_beq_eq_false rfl | decide), hX1, u3_k _ _ _ _ (by first | exact Nat.ne_of_beq_eq_false rfl | decide)]
                rw [e58 0 (X 56 0 ((5 * x) + k))]
                have f59 : 0 ≤ X 57 0 (X 56 0 ((5 * x) + k)) ∧ X 57 0 (X 56 0 ((5 * x) + k)) ≤ 5 := hR 57 0 (X 56 0 ((5 * x) + k))
                refine lv_lload hx hb dX9_item_155 (lv_at hl 5 rfl) ?_
                refine gos_l (run_S (As := [.int (jI (X 57 0 (X 56 0 ((5 * x) + k)))), .long (jL v)]) (rest := [.int (jI ((12 * (X 56 0 ((5 * x) + k))) + i)), .ref (ad 59 0)]) hx hb hml hown hts (c_X9_cut l D tc base ad cnt X57 Y ln (X 57 0 (X 56 0 ((5 * x) + k))) v (by omega) (by omega)) (cwS 2 hts gX9_item_X9_cut rfl rfl rfl (by first | exact hd_X9_cut | decide +kernel) ⟨Nat.le_of_ble_eq_true rfl, Nat.le_of_ble_eq_true rfl⟩) hK hw rfl hl.1 rfl (Nat.le_of_ble_eq_true rfl) dX9_item_157 ⟨Nat.le_of_ble_eq_true rfl, Nat.le_of_ble_eq_true rfl⟩) hS (fun z60 u61 H locs p62 hw hS => ?_)
                obtain ⟨eu61, p62⟩ := p62
                subst eu61
                refine x_last hx hb hK.1 hw hS (by first | exact Int.le_refl 0 | omega) (by first | exact zlt hc59 | omega) ar_59 (len_E ar_59 (by first | exact Nat.ne_of_beq_eq_false rfl | decide)) (by omega) (by omega) (by omega) dX9_item_160 (fun H locs hw hS => ?_)
                obtain ⟨X63, hX63⟩ : ∃ Xq, Xq = u3 X57 59 0 ((12 * (X 56 0 ((5 * x) + k))) + i) z60 := ⟨_, rfl⟩
                rw [← hX63] at hw
                have hRX63 : Rng X63 := by rw [hX63]; exact rng_set hRX57 (show (-9223372036854775808) ≤ z60 ∧ z60 ≤ 9223372036854775807 by omega)
                have hVX63 : X63 59 0 ((12 * (X 56 0 ((5 * x) + k))) + i) = z60 := by rw [hX63]; exact u3_s _ _ _ _ _
                have hFX63 : Frm [4001, 6600, 6700, 6800, 4023, 5900] X X63 := by rw [hX63]; exact Frm.set hFX57 (show 5900 ∈ [4001, 6600, 6700, 6800, 4023, 5900] by first | exact nlm_in rfl | decide)
                refine lv_iconst (v := jI 1) hx hb dX9_item_161 rfl ?_
                rw [hQ9]
                refine ret_i (mc := 0) (ms := 0) hx hb hr hlocks hw hS (by first | exact Nat.le_of_ble_eq_true rfl | omega) (by first | exact Nat.le_of_ble_eq_true rfl | omega) dX9_item_162 ?_
                have q64 : Frm [4001, 6400, 6500, 6600, 6700, 6800, 4023, 5900] X X1 := by rw [hX1]; exact Frm.set Frm.rf (show 4001 ∈ [4001, 6400, 6500, 6600, 6700, 6800, 4023, 5900] by first | exact nlm_in rfl | decide)
                have q65 : Frm [4001, 6400, 6500, 6600, 6700, 6800, 4023, 5900] X X46 := by rw [hX46]; exact Frm.set q64 (show 6600 ∈ [4001, 6400, 6500, 6600, 6700, 6800, 4023, 5900] by first | exact nlm_in rfl | decide)
                have q66 : Frm [4001, 6400, 6500, 6600, 6700, 6800, 4023, 5900] X X49 := by rw [hX49]; exact Frm.set q65 (show 6700 ∈ [4001, 6400, 6500, 6600, 6700, 6800, 4023, 5900] by first | exact nlm_in rfl | decide)
                have q67 : Frm [4001, 6400, 6500, 6600, 6700, 6800, 4023, 5900] X X54 := by rw [hX54]; exact Frm.set q66 (show 6800 ∈ [4001, 6400, 6500, 6600, 6700, 6800, 4023, 5900] by first | exact nlm_in rfl | decide)
                have q68 : Frm [4001, 6400, 6500, 6600, 6700, 6800, 4023, 5900] X X57 := by rw [hX57]; exact Frm.set q67 (show 4023 ∈ [4001, 6400, 6500, 6600, 6700, 6800, 4023, 5900] by first | exact nlm_in rfl | decide)
                have q69 : Frm [4001, 6400, 6500, 6600, 6700, 6800, 4023, 5900] X X63 := by rw [hX63]; exact Frm.set q68 (show 5900 ∈ [4001, 6400, 6500, 6600, 6700, 6800, 4023, 5900] by first | exact nlm_in rfl | decide)
                exact ⟨X63, rfl, hRX63, hFX63, minv_note (th := 0) (fd := 0) (rw := ((X 56 0 ((5 * x) + k)))) (it := i) (ws := 0) hMI (by omega) q69 (by rw [hX63, u3_k _ _ _ _ (by first | exact Nat.ne_of_beq_eq_false rfl | decide)]; exact hVX57) (fun j hj => ⟨(by rw [hX63, u3_k _ _ _ _ (by first | exact Nat.ne_of_beq_eq_false rfl | decide), hX57, u3_k _ _ _ _ (by first | exact Nat.ne_of_beq_eq_false rfl | decide), hX54, u3_k _ _ _ _ (by first | exact Nat.ne_of_beq_eq_false rfl | decide), hX49, u3_k _ _ _ _ (by first | exact Nat.ne_of_beq_eq_false rfl | decide), hX46, u3_k _ _ _ _ (by first | exact Nat.ne_of_beq_eq_false rfl | decide), hX1, u3_k _ _ _ _ (by first | exact Nat.ne_of_beq_eq_false rfl | decide)]), (by rw [hX63, u3_k _ _ _ _ (by first | exact Nat.ne_of_beq_eq_false rfl | decide), hX57, u3_k _ _ _ _ (by first | exact Nat.ne_of_beq_eq_false rfl | decide), hX54, u3_k _ _ _ _ (by first | exact Nat.ne_of_beq_eq_false rfl | decide), hX49, u3_k _ _ _ _ (by first | exact Nat.ne_of_beq_eq_false rfl | decide), hX46, u3_k _ _ _ _ (by first | exact Nat.ne_of_beq_eq_false rfl | decide), hX1, u3_k _ _ _ _ (by first | exact Nat.ne_of_beq_eq_false rfl | decide)]), (by rw [hX63, u3_k _ _ _ _ (by first | exact Nat.ne_of_beq_eq_false rfl | decide), hX57, u3_k _ _ _ _ (by first | exact Nat.ne_of_beq_eq_false rfl | decide), hX54, u3_k _ _ _ _ (by first | exact Nat.ne_of_beq_eq_false rfl | decide), hX49, u3_k _ _ _ _ (by first | exact Nat.ne_of_beq_eq_false rfl | decide), hX46, u3_j _ _ _ _ (by omega), hX1, u3_k _ _ _ _ (by first | exact Nat.ne_of_beq_eq_false rfl | decide)]), (by rw [hX63, u3_k _ _ _ _ (by first | exact Nat.ne_of_beq_eq_false rfl | decide), hX57, u3_k _ _ _ _ (by first | exact Nat.ne_of_beq_eq_false rfl | decide), hX54, u3_k _ _ _ _ (by first | exact Nat.ne_of_beq_eq_false rfl | decide), hX49, u3_j _ _ _ _ (by omega), hX46, u3_k _ _ _ _ (by first | exact Nat.ne_of_beq_eq_false rfl | decide), hX1, u3_k _ _ _ _ (by first | exact Nat.ne_of_beq_eq_false rfl | decide)]), (by rw [hX63, u3_k _ _ _ _ (by first | exact Nat.ne_of_beq_eq_false rfl | decide), hX57, u3_k _ _ _ _ (by first | exact Nat.ne_of_beq_eq_false rfl | decide), hX54, u3_j _ _ _ _ (by omega), hX49, u3_k _ _ _ _ (by first | exact Nat.ne_of_beq_eq_false rfl | decide), hX46, u3_k _ _ _ _ (by first | exact Nat.ne_of_beq_eq_false rfl | decide), hX1, u3_k _ _ _ _ (by first | exact Nat.ne_of_beq_eq_false rfl | decide)])⟩) (by rw [hX63, u3_k _ _ _ _ (by first | exact Nat.ne_of_beq_eq_false rfl | decide), hX57, u3_k _ _ _ _ (by first | exact Nat.ne_of_beq_eq_false rfl | decide), hX54, u3_k _ _ _ _ (by first | exact Nat.ne_of_beq_eq_false rfl | decide)]; exact hVX49) ⟨fun q => by omega, fun _ => ⟨(by rw [hX63, u3_k _ _ _ _ (by first | exact Nat.ne_of_beq_eq_false rfl | decide), hX57, u3_k _ _ _ _ (by first | exact Nat.ne_of_beq_eq_false rfl | decide), hX54, u3_k _ _ _ _ (by first | exact Nat.ne_of_beq_eq_false rfl | decide), hX49, u3_k _ _ _ _ (by first | exact Nat.ne_of_beq_eq_false rfl | decide)]; exact hVX46), by omega⟩⟩, by omega, (by (try delta Hid at *); exact Or.inr (Or.inr (Or.inr (Or.inr (Or.inr (⟨(by omega), by omega, (fun q => by omega), (by omega), (by omega), by omega⟩)))))), fun q => (by exfalso; omega), fun _ => ⟨Or.inr ⟨by omega, (by rw [hX63, u3_k _ _ _ _ (by first | exact Nat.ne_of_beq_eq_false rfl | decide)]; exact hVX57), ⟨(by rw [hX63, u3_k _ _ _ _ (by first | exact Nat.ne_of_beq_eq_false rfl | decide), hX57, u3_k _ _ _ _ (by first | exact Nat.ne_of_beq_eq_false rfl | decide), hX54, u3_k _ _ _ _ (by first | exact Nat.ne_of_beq_eq_false rfl | decide), hX49, u3_k _ _ _ _ (by first | exact Nat.ne_of_beq_eq_false rfl | decide), hX46, u3_k _ _ _ _ (by first | exact Nat.ne_of_beq_eq_false rfl | decide), hX1, u3_k _ _ _ _ (by first | exact Nat.ne_of_beq_eq_false rfl | decide)]), (by rw [hX63, u3_k _ _ _ _ (by first | exact Nat.ne_of_beq_eq_false rfl | decide), hX57, u3_k _ _ _ _ (by first | exact Nat.ne_of_beq_eq_false rfl | decide), hX54, u3_k _ _ _ _ (by first | exact Nat.ne_of_beq_eq_false rfl | decide), hX49, u3_k _ _ _ _ (by first | exact Nat.ne_of_beq_eq_false rfl | decide), hX46, u3_k _ _ _ _ (by first | exact Nat.ne_of_beq_eq_false rfl | decide), hX1, u3_k _ _ _ _ (by first | exact Nat.ne_of_beq_eq_false rfl | decide)]), (by rw [hX63, u3_k _ _ _ _ (by first | exact Nat.ne_of_beq_eq_false rfl | decide), hX57, u3_k _ _ _ _ (by first | exact Nat.ne_of_beq_eq_false rfl | decide), hX54, u3_k _ _ _ _ (by first | exact Nat.ne_of_beq_eq_false rfl | decide), hX49, u3_k _ _ _ _ (by first | exact Nat.ne_of_beq_eq_false rfl | decide)]; exact hVX46), (by rw [hX63, u3_k _ _ _ _ (by first | exact Nat.ne_of_beq_eq_false rfl | decide), hX57, u3_k _ _ _ _ (by first | exact Nat.ne_of_beq_eq_false rfl | decide), hX54, u3_k _ _ _ _ (by first | exact Nat.ne_of_beq_eq_false rfl | decide)]; exact hVX49), (by rw [hX63, u3_k _ _ _ _ (by first | exact Nat.ne_of_beq_eq_false rfl | decide), hX57, u3_k _ _ _ _ (by first | exact Nat.ne_of_beq_eq_false rfl | decide)]; exact hVX54)⟩, fun y hy => ⟨(by rw [hX63, u3_k _ _ _ _ (by first | exact Nat.ne_of_beq_eq_false rfl | decide), hX57, u3_k _ _ _ _ (by first | exact Nat.ne_of_beq_eq_false rfl | decide), hX54, u3_k _ _ _ _ (by first | exact Nat.ne_of_beq_eq_false rfl | decide), hX49, u3_k _ _ _ _ (by first | exact Nat.ne_of_beq_eq_false rfl | decide), hX46, u3_k _ _ _ _ (by first | exact Nat.ne_of_beq_eq_false rfl | decide), hX1, u3_k _ _ _ _ (by first | exact Nat.ne_of_beq_eq_false rfl | decide)]), (by rw [hX63, u3_k _ _ _ _ (by first | exact Nat.ne_of_beq_eq_false rfl | decide), hX57, u3_k _ _ _ _ (by first | exact Nat.ne_of_beq_eq_false rfl | decide), hX54, u3_k _ _ _ _ (by first | exact Nat.ne_of_beq_eq_false rfl | decide), hX49, u3_k _ _ _ _ (by first | exact Nat.ne_of_beq_eq_false rfl | decide), hX46, u3_k _ _ _ _ (by first | exact Nat.ne_of_beq_eq_false rfl | decide), hX1, u3_k _ _ _ _ (by first | exact Nat.ne_of_beq_eq_false rfl | decide)]), (by rw [hX63, u3_k _ _ _ _ (by first | exact Nat.ne_of_beq_eq_false rfl | decide), hX57, u3_k _ _ _ _ (by first | exact Nat.ne_of_beq_eq_false rfl | decide), hX54, u3_k _ _ _ _ (by first | exact Nat.ne_of_beq_eq_false rfl | decide), hX49, u3_k _ _ _ _ (by first | exact Nat.ne_of_beq_eq_false rfl | decide), hX46, u3_j _ _ _ _ hy, hX1, u3_k _ _ _ _ (by first | exact Nat.ne_of_beq_eq_false rfl | decide)]), (by rw [hX63, u3_k _ _ _ _ (by first | exact Nat.ne_of_beq_eq_false rfl | decide), hX57, u3_k _ _ _ _ (by first | exact Nat.ne_of_beq_eq_false rfl | decide), hX54, u3_k _ _ _ _ (by first | exact Nat.ne_of_beq_eq_false rfl | decide), hX49, u3_j _ _ _ _ hy, hX46, u3_k _ _ _ _ (by first | exact Nat.ne_of_beq_eq_false rfl | decide), hX1, u3_k _ _ _ _ (by first | exact Nat.ne_of_beq_eq_false rfl | decide)]), (by rw [hX63, u3_k _ _ _ _ (by first | exact Nat.ne_of_beq_eq_false rfl | decide), hX57, u3_k _ _ _ _ (by first | exact Nat.ne_of_beq_eq_false rfl | decide), hX54, u3_j _ _ _ _ hy, hX49, u3_k _ _ _ _ (by first | exact Nat.ne_of_beq_eq_false rfl | decide), hX46, u3_k _ _ _ _ (by first | exact Nat.ne_of_beq_eq_false rfl | decide), hX1, u3_k _ _ _ _ (by first | exact Nat.ne_of_beq_eq_false rfl | decide)])⟩⟩, (by rw [hVX63]; omega), fun p hp9 => (by rw [hX63, u3_j _ _ _ _ hp9, hX57, u3_k _ _ _ _ (by first | exact Nat.ne_of_beq_eq_false rfl | decide), hX54, u3_k _ _ _ _ (by first | exact Nat.ne_of_beq_eq_false rfl | decide), hX49, u3_k _ _ _ _ (by first | exact Nat.ne_of_beq_eq_false rfl | decide), hX46, u3_k _ _ _ _ (by first | exact Nat.ne_of_beq_eq_false rfl | decide), hX1, u3_k _ _ _ _ (by first | exact Nat.ne_of_beq_eq_false rfl | decide)])⟩⟩
          · refine lv_bipush (v := jI (-12)) hx hb dX9_item_65 (by decide) ?_
            rw [hQ9]
            refine ret_i (mc := 0) (ms := 0) hx hb hr hlocks hw hS (by first | exact Nat.le_of_ble_eq_true rfl | omega) (by first | exact Nat.le_of_ble_eq_true rfl | omega) dX9_item_67 ?_
            have hMq70 : MInv X1 := minv_frm hMI q900029 (by decide)
            exact ⟨X1, rfl, hRX1, hFX1, hMq70, by omega, (by (try delta Hid at *); exact Or.inr (Or.inr (Or.inr (Or.inl ⟨(by omega), by omega, (fun q => by omega), (fun q => by omega), by omega⟩)))), fun _ => q900029, fun q => (by exfalso; omega)⟩
      · refine lv_bipush (v := jI (-11)) hx hb dX9_item_47 (by decide) ?_
        rw [hQ9]
        refine ret_i (mc := 0) (ms := 0) hx hb hr hlocks hw hS (by first | exact Nat.le_of_ble_eq_true rfl | omega) (by first | exact Nat.le_of_ble_eq_true rfl | omega) dX9_item_49 ?_
        have hMq73 : MInv X1 := minv_frm hMI q900029 (by decide)
        exact ⟨X1, rfl, hRX1, hFX1, hMq73, by omega, (by (try delta Hid at *); exact Or.inr (Or.inr (Or.inl ⟨(by omega), by omega, (by omega), by omega⟩))), fun _ => q900029, fun q => (by exfalso; omega)⟩
    · refine lv_bipush (v := jI (-14)) hx hb dX9_item_26 (by decide) ?_
      rw [hQ9]
      refine ret_i (mc := 0) (ms := 0) hx hb hr hlocks hw hS (by first | exact Nat.le_of_ble_eq_true rfl | omega) (by first | exact Nat.le_of_ble_eq_true rfl | omega) dX9_item_28 ?_
      have hMq76 : MInv X1 := minv_frm hMI q900029 (by decide)
      exact ⟨X1, rfl, hRX1, hFX1, hMq76, by omega, (by (try delta Hid at *); exact Or.inr (Or.inl ⟨(by omega), by omega, by omega⟩)), fun _ => q900029, fun q => (by exfalso; omega)⟩
  · subst ez2
    refine x_if_neF (tgt := 16) hx hb (by omega) (by decide) dX9_item_11 (by decide) ?_
    refine lv_iconst (v := jI (-1)) hx hb dX9_item_14 rfl ?_
    rw [hQ9]
    refine ret_i (mc := 0) (ms := 0) hx hb hr hlocks hw hS (by first | exact Nat.le_of_ble_eq_true rfl | omega) (by first | exact Nat.le_of_ble_eq_true rfl | omega) dX9_item_15 ?_
    have hMq79 : MInv X1 := minv_frm hMI q900029 (by decide)
    exact ⟨X1, rfl, hRX1, hFX1, hMq79, by omega, (by (try delta Hid at *); exact Or.inl ⟨(fun q => by omega), by omega⟩), fun _ => q900029, fun q => (by exfalso; omega)⟩

set_option maxHeartbeats 4000000 in
set_option maxRecDepth 100000 in
theorem c_X9_at (l : Launch) (D : va_G) (tc : Nat → ClassId) (base : Nat) (ad : Nat → Int → Nat) (cnt : Nat → Int) (X : Nat → Int → Int → Int) (Y : Nat → Int → Int → Option Int) (ln : Int → Int) (hR : Rng X) (hFx : Fx cnt) (hMI : MInv X) (x k : Int) (hx : -2147483648 ≤ x ∧ x ≤ 2147483647) (hk : -2147483648 ≤ k ∧ k ≤ 2147483647) : KL l D tc base yX9_at wsX9_at ({ frames := 2, cells := 0, slots := 0, locals := 43 } : Room) [.ref (ad 40 0), .int (jI x), .int (jI k)] (ad, cnt, X, Y, ln) 0 0 (fun z u => ∃ X1 : Nat → Int → Int → Int, u = (ad, cnt, X1, Y, ln) ∧ Rng X1 ∧ Frm [4001] X X1 ∧ MInv X1 ∧ (-9223372036854775808 ≤ z ∧ z ≤ 9223372036854775807) ∧ ((¬ (0 ≤ x ∧ x < X 40 0 13) ∧ z = 0 ∧ X1 40 0 0 = 1) ∨ ((0 ≤ x ∧ x < X 40 0 13) ∧ ¬ (0 ≤ x ∧ x < X 40 0 13 ∧ 0 ≤ k ∧ k < X 44 0 (X 55 0 x)) ∧ z = 0 ∧ X1 40 0 0 = 2) ∨ ((0 ≤ x ∧ x < X 40 0 13 ∧ 0 ≤ k ∧ k < X 44 0 (X 55 0 x)) ∧ (X 46 0 (5 * X 55 0 x + k) < 3 ∨ X 56 0 (5 * x + k) < 0) ∧ z = X 56 0 (5 * x + k) ∧ X1 40 0 0 = 0) ∨ ((0 ≤ x ∧ x < X 40 0 13 ∧ 0 ≤ k ∧ k < X 44 0 (X 55 0 x)) ∧ 3 ≤ X 46 0 (5 * X 55 0 x + k) ∧ 0 ≤ X 56 0 (5 * x + k) ∧ z = X 58 0 (X 56 0 (5 * x + k)) ∧ X1 40 0 0 = 0))) := by
  refine K_of (cc := cX9_at) (maxL := 5) (ret := (some .long)) (by decide) rfl (Nat.le_of_ble_eq_true rfl) ?_
  intro p e s m below meth c ls hx hb hr hml hown hts hlocks hl hK hw hS
  have hown : s.vm.findClass RX9 = some m.cls := hown
  obtain ⟨av9, hav9⟩ : ∃ a9 : Array Value, a9 = ([.ref (ad 40 0), .int (jI x), .int (jI k)] : List Value).toArray := ⟨_, rfl⟩
  rw [← hav9] at hts ⊢
  obtain ⟨Q9, hQ9⟩ : ∃ q9Q : State → Prop, q9Q = MQ below (QL D tc base (fun z u => ∃ X1 : Nat → Int → Int → Int, u = (ad, cnt, X1, Y, ln) ∧ Rng X1 ∧ Frm [4001] X X1 ∧ MInv X1 ∧ (-9223372036854775808 ≤ z ∧ z ≤ 9223372036854775807) ∧ ((¬ (0 ≤ x ∧ x < X 40 0 13) ∧ z = 0 ∧ X1 40 0 0 = 1) ∨ ((0 ≤ x ∧ x < X 40 0 13) ∧ ¬ (0 ≤ x ∧ x < X 40 0 13 ∧ 0 ≤ k ∧ k < X 44 0 (X 55 0 x)) ∧ z = 0 ∧ X1 40 0 0 = 2) ∨ ((0 ≤ x ∧ x < X 40 0 13 ∧ 0 ≤ k ∧ k < X 44 0 (X 55 0 x)) ∧ (X 46 0 (5 * X 55 0 x + k) < 3 ∨ X 56 0 (5 * x + k) < 0) ∧ z = X 56 0 (5 * x + k) ∧ X1 40 0 0 = 0) ∨ ((0 ≤ x ∧ x < X 40 0 13 ∧ 0 ≤ k ∧ k < X 44 0 (X 55 0 x)) ∧ 3 ≤ X 46 0 (5 * X 55 0 x + k) ∧ 0 ≤ X 56 0 (5 * x + k) ∧ z = X 58 0 (X 56 0 (5 * x + k)) ∧ X1 40 0 0 = 0)))) av9 s 0 0 (frA base) := ⟨_, rfl⟩
  rw [← hQ9]
  have hi9 : ∀ w ∈ wsX90, w ∈ wsX9_at := fun w h => List.mem_cons_of_mem _ (List.mem_append_right _ h)
  have hf9 : fctx s m _ RX9 wsX9_at D tc RX9 TX9 51 9 := ⟨hts, hi9, hown, hK.1, rfl⟩
  have lk48 := hts (.fieldLink RX9 48 (TX9 15).1 (TX9 15).2.1 (TX9 15).2.2.1) (gj_X9_at_0 _ (gp_1 gp_h))
  have lk54 := hts (.fieldLink RX9 54 (TX9 17).1 (TX9 17).2.1 (TX9 17).2.2.1) (gj_X9_at_0 _ (gp_1 (gp_1 gp_h)))
  have lk145 := hts (.fieldLink RX9 145 (TX9 0).1 (TX9 0).2.1 (TX9 0).2.2.1) (gj_X9_at_0 _ (gp_h))
  have hc40 : cnt 40 = 1 := hFx.at 40 1 (by decide)
  have hc56 : cnt 56 = 1 := hFx.at 56 1 (by decide)
  have hc58 : cnt 58 = 1 := hFx.at 58 1 (by decide)
  have hl : lv_has ls 5 [(0, .ref (ad 40 0)), (1, .int (jI x)), (2, .int (jI k))] := hl
  have fstypes : 0 ≤ X 40 0 2 ∧ X 40 0 2 ≤ 8 := hR 40 0 2
  have fsthings : 0 ≤ X 40 0 13 ∧ X 40 0 13 ≤ 30 := hR 40 0 13
  have fsmarks : 0 ≤ X 40 0 20 ∧ X 40 0 20 ≤ 4 := hR 40 0 20
  have fsnotes : 0 ≤ X 40 0 22 ∧ X 40 0 22 ≤ 80 := hR 40 0 22
  refine lv_aload_n hx hb dX9_at_0 rfl (lv_at hl 0 rfl) ?_
  refine lv_iconst (v := jI 0) hx hb dX9_at_1 rfl ?_
  refine x_puti (jz := 0) hx hb hf9 ⟨tyX9_ok, nmX9⟩ hw hS (by first | exact Int.le_refl 0 | omega) (by first | exact zlt hc40 | omega) sl_40_0 rfl lk145 rfl (tyX9_ok 0 (by decide)) rfl rfl dX9_at_2 (fun H locs hw hS => ?_)
  obtain ⟨X1, hX1⟩ : ∃ Xq, Xq = u3 X 40 0 0 0 := ⟨_, rfl⟩
  rw [← hX1] at hw
  have hRX1 : Rng X1 := by rw [hX1]; exact rng_set hR (show (-2147483648) ≤ 0 ∧ 0 ≤ 2147483647 by omega)
  have hVX1 : X1 40 0 0 = 0 := by rw [hX1]; exact u3_s _ _ _ _ _
  have hFX1 : Frm [4001] X X1 := by rw [hX1]; exact Frm.set Frm.rf (show 4001 ∈ [4001] by first | exact nlm_in rfl | decide)
  refine lv_aload_n hx hb dX9_at_5 rfl (lv_at hl 0 rfl) ?_
  refine lv_iload_n hx hb dX9_at_6 rfl (lv_at hl 1 rfl) ?_
  refine gos_i (run_V (As := [.int (jI x)]) (rest := []) hx hb hml hown hts (c_X9_isThing l D tc base ad cnt X1 Y ln hRX1 hFx x (by omega)) (cwV 1 hts gX9_at_X9_isThing rfl rfl rfl (by first | exact hd_X9_isThing | decide +kernel) ⟨Nat.le_of_ble_eq_true rfl, Nat.le_of_ble_eq_true rfl⟩) hK hw (by first | exact Int.le_refl 0 | omega) (by first | exact zlt hc40 | omega) sl_40_0 rfl rfl hl.1 rfl (Nat.le_of_ble_eq_true rfl) dX9_at_7 ⟨Nat.le_of_ble_eq_true rfl, Nat.le_of_ble_eq_true rfl⟩) hS (fun z2 u3 H locs p4 hw hS => ?_)
  obtain ⟨eu3, p4⟩ := p4
  subst eu3
  have e5 : X1 40 0 13 = X 40 0 13 := by rw [hX1, u3_j _ _ _ _ (by decide)]
  simp only [e5] at p4
  have q900032 : Frm [4001] X X1 := by rw [hX1]; exact Frm.set Frm.rf (show 4001 ∈ [4001] by first | exact nlm_in rfl | decide)
  rcases p4 with ⟨ez2, p4⟩ | ⟨ez2, p4⟩
  · subst ez2
    refine x_if_neT (tgt := 20) hx hb (by omega) (by decide) dX9_at_10 (by decide) ?_
    refine lv_aload_n hx hb dX9_at_20 rfl (lv_at hl 0 rfl) ?_
    refine lv_iload_n hx hb dX9_at_21 rfl (lv_at hl 1 rfl) ?_
    refine lv_iload_n hx hb dX9_at_22 rfl (lv_at hl 2 rfl) ?_
    refine gos_i (run_V (As := [.int (jI x), .int (jI k)]) (rest := []) hx hb hml hown hts (c_X9_isField l D tc base ad cnt X1 Y ln hRX1 hFx x k (by omega) (by omega)) (cwV 2 hts gX9_at_X9_isField rfl rfl rfl (by first | exact hd_X9_isField | decide +kernel) ⟨Nat.le_of_ble_eq_true rfl, Nat.le_of_ble_eq_true rfl⟩) hK hw (by first | exact Int.le_refl 0 | omega) (by first | exact zlt hc40 | omega) sl_40_0 rfl rfl hl.1 rfl (Nat.le_of_ble_eq_true rfl) dX9_at_23 ⟨Nat.le_of_ble_eq_true rfl, Nat.le_of_ble_eq_true rfl⟩) hS (fun z6 u7 H locs p8 hw hS => ?_)
    obtain ⟨eu7, p8⟩ := p8
    subst eu7
    have e9 : X1 40 0 13 = X 40 0 13 := by rw [hX1, u3_j _ _ _ _ (by decide)]
    have e10 : ∀ j : Int, X1 55 0 j = X 55 0 j := fun j => by rw [hX1, u3_k _ _ _ _ (by first | exact Nat.ne_of_beq_eq_false rfl | decide)]
    have e11 : ∀ j : Int, X1 44 0 j = X 44 0 j := fun j => by rw [hX1, u3_k _ _ _ _ (by first | exact Nat.ne_of_beq_eq_false rfl | decide)]
    simp only [e9, e10, e11] at p8
    rcases p8 with ⟨ez6, p8⟩ | ⟨ez6, p8⟩
    · subst ez6
      refine x_if_neT (tgt := 36) hx hb (by omega) (by decide) dX9_at_26 (by decide) ?_
      refine lv_aload_n hx hb dX9_at_36 rfl (lv_at hl 0 rfl) ?_
      refine x_geto hx hb hf9 hw (by first | exact Int.le_refl 0 | omega) (by first | exact zlt hc40 | omega) sl_40_15 lk48 dX9_at_37 ?_
      refine lv_iconst (v := jI 5) hx hb dX9_at_40 rfl ?_
      refine lv_iload_n hx hb dX9_at_41 rfl (lv_at hl 1 rfl) ?_
      refine x_imul hx hb dX9_at_42 ?_
      refine lv_iload_n hx hb dX9_at_43 rfl (lv_at hl 2 rfl) ?_
      refine x_iadd hx hb dX9_at_44 ?_
      obtain ⟨hy1, hy2, hy3⟩ := hMI.1 x k (by omega) (by omega) (by omega) (by omega)
      refine x_lald hx hb hK.1 hw (by first | exact Int.le_refl 0 | omega) (by first | exact zlt hc56 | omega) ar_56 (len_E ar_56 (by first | exact Nat.ne_of_beq_eq_false rfl | decide)) (by omega) (by omega) (by omega) dX9_at_45 ?_
      have e12 : ∀ p9 q9 : Int, X1 56 p9 q9 = X 56 p9 q9 := fun p9 q9 => by rw [hX1, u3_k _ _ _ _ (by first | exact Nat.ne_of_beq_eq_false rfl | decide)]
      rw [e12 0 ((5 * x) + k)]
      have f13 : (-9223372036854775808) ≤ X 56 0 ((5 * x) + k) ∧ X 56 0 ((5 * x) + k) ≤ 9223372036854775807 := hR 56 0 ((5 * x) + k)
      refine lv_lstore_n (lv' := [(3, .long (jL (X 56 0 ((5 * x) + k)))), (0, .ref (ad 40 0)), (1, .int (jI x)), (2, .int (jI k))]) hx hb dX9_at_46 rfl hl (by decide) rfl (fun ls hl => ?_)
      refine lv_aload_n hx hb dX9_at_47 rfl (lv_at hl 1 rfl) ?_
      refine lv_iload_n hx hb dX9_at_48 rfl (lv_at hl 2 rfl) ?_
      refine lv_iload_n hx hb dX9_at_49 rfl (lv_at hl 3 rfl) ?_
      refine gos_i (run_V (As := [.int (jI x), .int (jI k)]) (rest := []) hx hb hml hown hts (c_X9_lane l D tc base ad cnt X1 Y ln hRX1 hFx x k (by omega) (by omega)) (cwV 2 hts gX9_at_X9_lane rfl rfl rfl (by first | exact hd_X9_lane | decide +kernel) ⟨Nat.le_of_ble_eq_true rfl, Nat.le_of_ble_eq_true rfl⟩) hK hw (by first | exact Int.le_refl 0 | omega) (by first | exact zlt hc40 | omega) sl_40_0 rfl rfl hl.1 rfl (Nat.le_of_ble_eq_true rfl) dX9_at_50 ⟨Nat.le_of_ble_eq_true rfl, Nat.le_of_ble_eq_true rfl⟩) hS (fun z14 u15 H locs p16 hw hS => ?_)
      obtain ⟨eu15, p16⟩ := p16
      subst eu15
      have e17 : ∀ j : Int, X1 55 0 j = X 55 0 j := fun j => by rw [hX1, u3_k _ _ _ _ (by first | exact Nat.ne_of_beq_eq_false rfl | decide)]
      have e18 : ∀ j : Int, X1 46 0 j = X 46 0 j := fun j => by rw [hX1, u3_k _ _ _ _ (by first | exact Nat.ne_of_beq_eq_false rfl | decide)]
      simp only [e17, e18] at p16
      refine lv_iconst (v := jI 3) hx hb dX9_at_53 rfl ?_
      refine x_icmp_lt (tgt := 63) hx hb (by omega) (by omega) dX9_at_54 (by decide) (fun c19 => ?_) (fun c19 => ?_)
      · refine lv_lload_n hx hb dX9_at_63 rfl (lv_at hl 0 rfl) ?_
        refine lv_goto (tgt := 75) hx hb dX9_at_64 (by decide) ?_
        rw [hQ9]
        refine ret_l (mc := 0) (ms := 0) hx hb hr hlocks hw hS (by first | exact Nat.le_of_ble_eq_true rfl | omega) (by first | exact Nat.le_of_ble_eq_true rfl | omega) dX9_at_75 ?_
        have hMq20 : MInv X1 := minv_frm hMI q900032 (by decide)
        have e22 : X1 40 0 0 = 0 := (by exact hVX1)
        exact ⟨X1, rfl, hRX1, hFX1, hMq20, by omega, (by (try delta Hid at *); first | exact Or.inr (Or.inr (Or.inl ⟨(by omega), (by omega), by omega, by omega⟩)) | exact Or.inr (Or.inr (Or.inr (⟨(by omega), by omega, by omega, by omega, by omega⟩))) | exact Or.inl ⟨(fun q => by omega), by omega, by omega⟩ | exact Or.inr (Or.inl ⟨(by omega), (fun q => by omega), by omega, by omega⟩))⟩
      · refine lv_lload_n hx hb dX9_at_57 rfl (lv_at hl 0 rfl) ?_
        refine lv_lconst (v := jL 0) hx hb dX9_at_58 (by decide) ?_
        refine x_lcmp hx hb (by omega) (by omega) dX9_at_59 ?_
        obtain ⟨z23, ez23⟩ : ∃ y : Int, y = cmpZ (X 56 0 ((5 * x) + k)) 0 := ⟨_, rfl⟩
        rw [← ez23]
        have gz23 : (z23 < 0 ↔ ((X 56 0 ((5 * x) + k)) : Int) < 0) ∧ (z23 = 0 ↔ ((X 56 0 ((5 * x) + k)) : Int) = 0) ∧ -1 ≤ z23 ∧ z23 ≤ 1 := by rw [ez23]; exact ⟨cmpZ_lt, cmpZ_eq, (cmpZ_r _ _).1, (cmpZ_r _ _).2⟩
        clear ez23
        refine x_if_ge (tgt := 67) hx hb (by omega) dX9_at_60 (by decide) (fun c24 => ?_) (fun c24 => ?_)
        · replace c24 := cz_geT gz23 c24
          clear gz23
          refine lv_aload_n hx hb dX9_at_67 rfl (lv_at hl 1 rfl) ?_
          refine x_geto hx hb hf9 hw (by first | exact Int.le_refl 0 | omega) (by first | exact zlt hc40 | omega) sl_40_17 lk54 dX9_at_68 ?_
          refine lv_lload_n hx hb dX9_at_71 rfl (lv_at hl 0 rfl) ?_
          refine x_l2i hx hb dX9_at_72 ?_
          refine x_iald hx hb hK.1 hw (by first | exact Int.le_refl 0 | omega) (by first | exact zlt hc58 | omega) ar_58 (len_E ar_58 (by first | exact Nat.ne_of_beq_eq_false rfl | decide)) (by omega) (by omega) (by omega) dX9_at_73 ?_
          have e25 : ∀ p9 q9 : Int, X1 58 p9 q9 = X 58 p9 q9 := fun p9 q9 => by rw [hX1, u3_k _ _ _ _ (by first | exact Nat.ne_of_beq_eq_false rfl | decide)]
          rw [e25 0 (X 56 0 ((5 * x) + k))]
          have f26 : 0 ≤ X 58 0 (X 56 0 ((5 * x) + k)) ∧ X 58 0 (X 56 0 ((5 * x) + k)) ≤ 12 := hR 58 0 (X 56 0 ((5 * x) + k))
          refine x_i2l hx hb (by omega) dX9_at_74 ?_
          rw [hQ9]
          refine ret_l (mc := 0) (ms := 0) hx hb hr hlocks hw hS (by first | exact Nat.le_of_ble_eq_true rfl | omega) (by first | exact Nat.le_of_ble_eq_true rfl | omega) dX9_at_75 ?_
          have hMq27 : MInv X1 := minv_frm hMI q900032 (by decide)
          have e29 : X1 40 0 0 = 0 := (by exact hVX1)
          exact ⟨X1, rfl, hRX1, hFX1, hMq27, by omega, (by (try delta Hid at *); first | exact Or.inr (Or.inr (Or.inr (⟨(by omega), by omega, by omega, by omega, by omega⟩))) | exact Or.inr (Or.inr (Or.inl ⟨(by omega), (by omega), by omega, by omega⟩)) | exact Or.inl ⟨(fun q => by omega), by omega, by omega⟩ | exact Or.inr (Or.inl ⟨(by omega), (fun q => by omega), by omega, by omega⟩))⟩
        · replace c24 := cz_geF gz23 c24
          clear gz23
          refine lv_lload_n hx hb dX9_at_63 rfl (lv_at hl 0 rfl) ?_
          refine lv_goto (tgt := 75) hx hb dX9_at_64 (by decide) ?_
          rw [hQ9]
          refine ret_l (mc := 0) (ms := 0) hx hb hr hlocks hw hS (by first | exact Nat.le_of_ble_eq_true rfl | omega) (by first | exact Nat.le_of_ble_eq_true rfl | omega) dX9_at_75 ?_
          have hMq30 : MInv X1 := minv_frm hMI q900032 (by decide)
          have e32 : X1 40 0 0 = 0 := (by exact hVX1)
          exact ⟨X1, rfl, hRX1, hFX1, hMq30, by omega, (by (try delta Hid at *); first | exact Or.inr (Or.inr (Or.inl ⟨(by omega), (by omega), by omega, by omega⟩)) | exact Or.inr (Or.inr (Or.inr (⟨(by omega), by omega, by omega, by omega, by omega⟩))) | exact Or.inl ⟨(fun q => by omega), by omega, by omega⟩ | exact Or.inr (Or.inl ⟨(by omega), (fun q => by omega), by omega, by omega⟩))⟩
    · subst ez6
      refine x_if_neF (tgt := 36) hx hb (by omega) (by decide) dX9_at_26 (by decide) ?_
      refine lv_aload_n hx hb dX9_at_29 rfl (lv_at hl 0 rfl) ?_
      refine lv_iconst (v := jI 2) hx hb dX9_at_30 rfl ?_
      refine x_puti (jz := 0) hx hb hf9 ⟨tyX9_ok, nmX9⟩ hw hS (by first | exact Int.le_refl 0 | omega) (by first | exact zlt hc40 | omega) sl_40_0 rfl lk145 rfl (tyX9_ok 0 (by decide)) rfl rfl dX9_at_31 (fun H locs hw hS => ?_)
      obtain ⟨X33, hX33⟩ : ∃ Xq, Xq = u3 X1 40 0 0 2 := ⟨_, rfl⟩
      rw [← hX33] at hw
      have hRX33 : Rng X33 := by rw [hX33]; exact rng_set hRX1 (show (-2147483648) ≤ 2 ∧ 2 ≤ 2147483647 by omega)
      have hVX33 : X33 40 0 0 = 2 := by rw [hX33]; exact u3_s _ _ _ _ _
      have hFX33 : Frm [4001] X X33 := by rw [hX33]; exact Frm.set hFX1 (show 4001 ∈ [4001] by first | exact nlm_in rfl | decide)
      refine lv_lconst (v := jL 0) hx hb dX9_at_34 (by decide) ?_
      rw [hQ9]
      refine ret_l (mc := 0) (ms := 0) hx hb hr hlocks hw hS (by first | exact Nat.le_of_ble_eq_true rfl | omega) (by first | exact Nat.le_of_ble_eq_true rfl | omega) dX9_at_35 ?_
      have hMq34 : MInv X33 := minv_frm hMI hFX33 (by decide)
      have e37 : X33 40 0 0 = 2 := (by exact hVX33)
      exact ⟨X33, rfl, hRX33, hFX33, hMq34, by omega, (by (try delta Hid at *); first | exact Or.inl ⟨(fun q => by omega), by omega, by omega⟩ | exact Or.inr (Or.inl ⟨(by omega), (fun q => by omega), by omega, by omega⟩) | exact Or.inr (Or.inr (Or.inl ⟨(by omega), (by omega), by omega, by omega⟩)) | exact Or.inr (Or.inr (Or.inr (⟨(by omega), by omega, by omega, by omega, by omega⟩))))⟩
  · subst ez2
    refine x_if_neF (tgt := 20) hx hb (by omega) (by decide) dX9_at_10 (by decide) ?_
    refine lv_aload_n hx hb dX9_at_13 rfl (lv_at hl 0 rfl) ?_
    refine lv_iconst (v := jI 1) hx hb dX9_at_14 rfl ?_
    refine x_puti (jz := 0) hx hb hf9 ⟨tyX9_ok, nmX9⟩ hw hS (by first | exact Int.le_refl 0 | omega) (by first | exact zlt hc40 | omega) sl_40_0 rfl lk145 rfl (tyX9_ok 0 (by decide)) rfl rfl dX9_at_15 (fun H locs hw hS => ?_)
    obtain ⟨X38, hX38⟩ : ∃ Xq, Xq = u3 X1 40 0 0 1 := ⟨_, rfl⟩
    rw [← hX38] at hw
    have hRX38 : Rng X38 := by rw [hX38]; exact rng_set hRX1 (show (-2147483648) ≤ 1 ∧ 1 ≤ 2147483647 by omega)
    have hVX38 : X38 40 0 0 = 1 := by rw [hX38]; exact u3_s _ _ _ _ _
    have hFX38 : Frm [4001] X X38 := by rw [hX38]; exact Frm.set hFX1 (show 4001 ∈ [4001] by first | exact nlm_in rfl | decide)
    refine lv_lconst (v := jL 0) hx hb dX9_at_18 (by decide) ?_
    rw [hQ9]
    refine ret_l (mc := 0) (ms := 0) hx hb hr hlocks hw hS (by first | exact Nat.le_of_ble_eq_true rfl | omega) (by first | exact Nat.le_of_ble_eq_true rfl | omega) dX9_at_19 ?_
    have hMq39 : MInv X38 := minv_frm hMI hFX38 (by decide)
    have e42 : X38 40 0 0 = 1 := (by exact hVX38)
    exact ⟨X38, rfl, hRX38, hFX38, hMq39, by omega, (by (try delta Hid at *); first | exact Or.inl ⟨(fun q => by omega), by omega, by omega⟩ | exact Or.inr (Or.inl ⟨(by omega), (fun q => by omega), by omega, by omega⟩) | exact Or.inr (Or.inr (Or.inl ⟨(by omega), (by omega), by omega, by omega⟩)) | exact Or.inr (Or.inr (Or.inr (⟨(by omega), by omega, by omega, by omega, by omega⟩))))⟩

set_option maxHeartbeats 4000000 in
set_option maxRecDepth 100000 in
theorem c_X9_itemAt (l : Launch) (D : va_G) (tc : Nat → ClassId) (base : Nat) (ad : Nat → Int → Nat) (cnt : Nat → Int) (X : Nat → Int → Int → Int) (Y : Nat → Int → Int → Option Int) (ln : Int → Int) (hR : Rng X) (hFx : Fx cnt) (hMI : MInv X) (x k i : Int) (hx : -2147483648 ≤ x ∧ x ≤ 2147483647) (hk : -2147483648 ≤ k ∧ k ≤ 2147483647) (hi : -2147483648 ≤ i ∧ i ≤ 2147483647) : KL l D tc base yX9_itemAt wsX9_itemAt ({ frames := 2, cells := 0, slots := 0, locals := 43 } : Room) [.ref (ad 40 0), .int (jI x), .int (jI k), .int (jI i)] (ad, cnt, X, Y, ln) 0 0 (fun z u => ∃ X1 : Nat → Int → Int → Int, u = (ad, cnt, X1, Y, ln) ∧ Rng X1 ∧ Frm [4001] X X1 ∧ MInv X1 ∧ (-9223372036854775808 ≤ z ∧ z ≤ 9223372036854775807) ∧ ((¬ (0 ≤ x ∧ x < X 40 0 13) ∧ z = 0 ∧ X1 40 0 0 = 1) ∨ ((0 ≤ x ∧ x < X 40 0 13) ∧ ¬ (0 ≤ x ∧ x < X 40 0 13 ∧ 0 ≤ k ∧ k < X 44 0 (X 55 0 x)) ∧ z = 0 ∧ X1 40 0 0 = 3) ∨ ((0 ≤ x ∧ x < X 40 0 13 ∧ 0 ≤ k ∧ k < X 44 0 (X 55 0 x)) ∧ (X 46 0 (5 * X 55 0 x + k) < 3 ∨ X 56 0 (5 * x + k) < 0) ∧ z = 0 ∧ X1 40 0 0 = 2) ∨ ((0 ≤ x ∧ x < X 40 0 13 ∧ 0 ≤ k ∧ k < X 44 0 (X 55 0 x)) ∧ 3 ≤ X 46 0 (5 * X 55 0 x + k) ∧ 0 ≤ X 56 0 (5 * x + k) ∧ ¬ (0 ≤ i ∧ i < X 58 0 (X 56 0 (5 * x + k))) ∧ z = 0 ∧ X1 40 0 0 = 3) ∨ ((0 ≤ x ∧ x < X 40 0 13 ∧ 0 ≤ k ∧ k < X 44 0 (X 55 0 x)) ∧ 3 ≤ X 46 0 (5 * X 55 0 x + k) ∧ 0 ≤ X 56 0 (5 * x + k) ∧ (0 ≤ i ∧ i < X 58 0 (X 56 0 (5 * x + k))) ∧ z = X 59 0 (12 * X 56 0 (5 * x + k) + i) ∧ X1 40 0 0 = 0))) := by
  refine K_of (cc := cX9_itemAt) (maxL := 5) (ret := (some .long)) (by decide) rfl (Nat.le_of_ble_eq_true rfl) ?_
  intro p e s m below meth c ls hx hb hr hml hown hts hlocks hl hK hw hS
  have hown : s.vm.findClass RX9 = some m.cls := hown
  obtain ⟨av9, hav9⟩ : ∃ a9 : Array Value, a9 = ([.ref (ad 40 0), .int (jI x), .int (jI k), .int (jI i)] : List Value).toArray := ⟨_, rfl⟩
  rw [← hav9] at hts ⊢
  obtain ⟨Q9, hQ9⟩ : ∃ q9Q : State → Prop, q9Q = MQ below (QL D tc base (fun z u => ∃ X1 : Nat → Int → Int → Int, u = (ad, cnt, X1, Y, ln) ∧ Rng X1 ∧ Frm [4001] X X1 ∧ MInv X1 ∧ (-9223372036854775808 ≤ z ∧ z ≤ 9223372036854775807) ∧ ((¬ (0 ≤ x ∧ x < X 40 0 13) ∧ z = 0 ∧ X1 40 0 0 = 1) ∨ ((0 ≤ x ∧ x < X 40 0 13) ∧ ¬ (0 ≤ x ∧ x < X 40 0 13 ∧ 0 ≤ k ∧ k < X 44 0 (X 55 0 x)) ∧ z = 0 ∧ X1 40 0 0 = 3) ∨ ((0 ≤ x ∧ x < X 40 0 13 ∧ 0 ≤ k ∧ k < X 44 0 (X 55 0 x)) ∧ (X 46 0 (5 * X 55 0 x + k) < 3 ∨ X 56 0 (5 * x + k) < 0) ∧ z = 0 ∧ X1 40 0 0 = 2) ∨ ((0 ≤ x ∧ x < X 40 0 13 ∧ 0 ≤ k ∧ k < X 44 0 (X 55 0 x)) ∧ 3 ≤ X 46 0 (5 * X 55 0 x + k) ∧ 0 ≤ X 56 0 (5 * x + k) ∧ ¬ (0 ≤ i ∧ i < X 58 0 (X 56 0 (5 * x + k))) ∧ z = 0 ∧ X1 40 0 0 = 3) ∨ ((0 ≤ x ∧ x < X 40 0 13 ∧ 0 ≤ k ∧ k < X 44 0 (X 55 0 x)) ∧ 3 ≤ X 46 0 (5 * X 55 0 x + k) ∧ 0 ≤ X 56 0 (5 * x + k) ∧ (0 ≤ i ∧ i < X 58 0 (X 56 0 (5 * x + k))) ∧ z = X 59 0 (12 * X 56 0 (5 * x + k) + i) ∧ X1 40 0 0 = 0)))) av9 s 0 0 (frA base) := ⟨_, rfl⟩
  rw [← hQ9]
  have hi9 : ∀ w ∈ wsX90, w ∈ wsX9_itemAt := fun w h => List.mem_cons_of_mem _ (List.mem_append_right _ h)
  have hf9 : fctx s m _ RX9 wsX9_itemAt D tc RX9 TX9 51 9 := ⟨hts, hi9, hown, hK.1, rfl⟩
  have lk48 := hts (.fieldLink RX9 48 (TX9 15).1 (TX9 15).2.1 (TX9 15).2.2.1) (gj_X9_itemAt_0 _ (gp_1 gp_h))
  have lk54 := hts (.fieldLink RX9 54 (TX9 17).1 (TX9 17).2.1 (TX9 17).2.2.1) (gj_X9_itemAt_0 _ (gp_1 (gp_1 gp_h)))
  have lk57 := hts (.fieldLink RX9 57 (TX9 18).1 (TX9 18).2.1 (TX9 18).2.2.1) (gj_X9_itemAt_0 _ (gp_1 (gp_1 (gp_1 gp_h))))
  have lk145 := hts (.fieldLink RX9 145 (TX9 0).1 (TX9 0).2.1 (TX9 0).2.2.1) (gj_X9_itemAt_0 _ (gp_h))
  have hc40 : cnt 40 = 1 := hFx.at 40 1 (by decide)
  have hc56 : cnt 56 = 1 := hFx.at 56 1 (by decide)
  have hc58 : cnt 58 = 1 := hFx.at 58 1 (by decide)
  have hc59 : cnt 59 = 1 := hFx.at 59 1 (by decide)
  have hl : lv_has ls 5 [(0, .ref (ad 40 0)), (1, .int (jI x)), (2, .int (jI k)), (3, .int (jI i))] := hl
  have fstypes : 0 ≤ X 40 0 2 ∧ X 40 0 2 ≤ 8 := hR 40 0 2
  have fsthings : 0 ≤ X 40 0 13 ∧ X 40 0 13 ≤ 30 := hR 40 0 13
  have fsmarks : 0 ≤ X 40 0 20 ∧ X 40 0 20 ≤ 4 := hR 40 0 20
  have fsnotes : 0 ≤ X 40 0 22 ∧ X 40 0 22 ≤ 80 := hR 40 0 22
  refine lv_aload_n hx hb dX9_itemAt_0 rfl (lv_at hl 0 rfl) ?_
  refine lv_iconst (v := jI 0) hx hb dX9_itemAt_1 rfl ?_
  refine x_puti (jz := 0) hx hb hf9 ⟨tyX9_ok, nmX9⟩ hw hS (by first | exact Int.le_refl 0 | omega) (by first | exact zlt hc40 | omega) sl_40_0 rfl lk145 rfl (tyX9_ok 0 (by decide)) rfl rfl dX9_itemAt_2 (fun H locs hw hS => ?_)
  obtain ⟨X1, hX1⟩ : ∃ Xq, Xq = u3 X 40 0 0 0 := ⟨_, rfl⟩
  rw [← hX1] at hw
  have hRX1 : Rng X1 := by rw [hX1]; exact rng_set hR (show (-2147483648) ≤ 0 ∧ 0 ≤ 2147483647 by omega)
  have hVX1 : X1 40 0 0 = 0 := by rw [hX1]; exact u3_s _ _ _ _ _
  have hFX1 : Frm [4001] X X1 := by rw [hX1]; exact Frm.set Frm.rf (show 4001 ∈ [4001] by first | exact nlm_in rfl | decide)
  refine lv_aload_n hx hb dX9_itemAt_5 rfl (lv_at hl 0 rfl) ?_
  refine lv_iload_n hx hb dX9_itemAt_6 rfl (lv_at hl 1 rfl) ?_
  refine gos_i (run_V (As := [.int (jI x)]) (rest := []) hx hb hml hown hts (c_X9_isThing l D tc base ad cnt X1 Y ln hRX1 hFx x (by omega)) (cwV 1 hts gX9_itemAt_X9_isThing rfl rfl rfl (by first | exact hd_X9_isThing | decide +kernel) ⟨Nat.le_of_ble_eq_true rfl, Nat.le_of_ble_eq_true rfl⟩) hK hw (by first | exact Int.le_refl 0 | omega) (by first | exact zlt hc40 | omega) sl_40_0 rfl rfl hl.1 rfl (Nat.le_of_ble_eq_true rfl) dX9_itemAt_7 ⟨Nat.le_of_ble_eq_true rfl, Nat.le_of_ble_eq_true rfl⟩) hS (fun z2 u3 H locs p4 hw hS => ?_)
  obtain ⟨eu3, p4⟩ := p4
  subst eu3
  have e5 : X1 40 0 13 = X 40 0 13 := by rw [hX1, u3_j _ _ _ _ (by decide)]
  simp only [e5] at p4
  have q900037 : Frm [4001] X X1 := by rw [hX1]; exact Frm.set Frm.rf (show 4001 ∈ [4001] by first | exact nlm_in rfl | decide)
  rcases p4 with ⟨ez2, p4⟩ | ⟨ez2, p4⟩
  · subst ez2
    refine x_if_neT (tgt := 20) hx hb (by omega) (by decide) dX9_itemAt_10 (by decide) ?_
    refine lv_aload_n hx hb dX9_itemAt_20 rfl (lv_at hl 0 rfl) ?_
    refine lv_iload_n hx hb dX9_itemAt_21 rfl (lv_at hl 1 rfl) ?_
    refine lv_iload_n hx hb dX9_itemAt_22 rfl (lv_at hl 2 rfl) ?_
    refine gos_i (run_V (As := [.int (jI x), .int (jI k)]) (rest := []) hx hb hml hown hts (c_X9_isField l D tc base ad cnt X1 Y ln hRX1 hFx x k (by omega) (by omega)) (cwV 2 hts gX9_itemAt_X9_isField rfl rfl rfl (by first | exact hd_X9_isField | decide +kernel) ⟨Nat.le_of_ble_eq_true rfl, Nat.le_of_ble_eq_true rfl⟩) hK hw (by first | exact Int.le_refl 0 | omega) (by first | exact zlt hc40 | omega) sl_40_0 rfl rfl hl.1 rfl (Nat.le_of_ble_eq_true rfl) dX9_itemAt_23 ⟨Nat.le_of_ble_eq_true rfl, Nat.le_of_ble_eq_true rfl⟩) hS (fun z6 u7 H locs p8 hw hS => ?_)
    obtain ⟨eu7, p8⟩ := p8
    subst eu7
    have e9 : X1 40 0 13 = X 40 0 13 := by rw [hX1, u3_j _ _ _ _ (by decide)]
    have e10 : ∀ j : Int, X1 55 0 j = X 55 0 j := fun j => by rw [hX1, u3_k _ _ _ _ (by first | exact Nat.ne_of_beq_eq_false rfl | decide)]
    have e11 : ∀ j : Int, X1 44 0 j = X 44 0 j := fun j => by rw [hX1, u3_k _ _ _ _ (by first | exact Nat.ne_of_beq_eq_false rfl | decide)]
    simp only [e9, e10, e11] at p8
    rcases p8 with ⟨ez6, p8⟩ | ⟨ez6, p8⟩
    · subst ez6
      refine x_if_neT (tgt := 36) hx hb (by omega) (by decide) dX9_itemAt_26 (by decide) ?_
      refine lv_aload_n hx hb dX9_itemAt_36 rfl (lv_at hl 0 rfl) ?_
      refine lv_iload_n hx hb dX9_itemAt_37 rfl (lv_at hl 1 rfl) ?_
      refine lv_iload_n hx hb dX9_itemAt_38 rfl (lv_at hl 2 rfl) ?_
      refine gos_i (run_V (As := [.int (jI x), .int (jI k)]) (rest := []) hx hb hml hown hts (c_X9_lane l D tc base ad cnt X1 Y ln hRX1 hFx x k (by omega) (by omega)) (cwV 2 hts gX9_itemAt_X9_lane rfl rfl rfl (by first | exact hd_X9_lane | decide +kernel) ⟨Nat.le_of_ble_eq_true rfl, Nat.le_of_ble_eq_true rfl⟩) hK hw (by first | exact Int.le_refl 0 | omega) (by first | exact zlt hc40 | omega) sl_40_0 rfl rfl hl.1 rfl (Nat.le_of_ble_eq_true rfl) dX9_itemAt_39 ⟨Nat.le_of_ble_eq_true rfl, Nat.le_of_ble_eq_true rfl⟩) hS (fun z12 u13 H locs p14 hw hS => ?_)
      obtain ⟨eu13, p14⟩ := p14
      subst eu13
      have e15 : ∀ j : Int, X1 55 0 j = X 55 0 j := fun j => by rw [hX1, u3_k _ _ _ _ (by first | exact Nat.ne_of_beq_eq_false rfl | decide)]
      have e16 : ∀ j : Int, X1 46 0 j = X 46 0 j := fun j => by rw [hX1, u3_k _ _ _ _ (by first | exact Nat.ne_of_beq_eq_false rfl | decide)]
      simp only [e15, e16] at p14
      refine lv_iconst (v := jI 3) hx hb dX9_itemAt_42 rfl ?_
      refine x_icmp_ge (tgt := 50) hx hb (by omega) (by omega) dX9_itemAt_43 (by decide) (fun c17 => ?_) (fun c17 => ?_)
      · refine lv_aload_n hx hb dX9_itemAt_50 rfl (lv_at hl 0 rfl) ?_
        refine x_geto hx hb hf9 hw (by first | exact Int.le_refl 0 | omega) (by first | exact zlt hc40 | omega) sl_40_15 lk48 dX9_itemAt_51 ?_
        refine lv_iconst (v := jI 5) hx hb dX9_itemAt_54 rfl ?_
        refine lv_iload_n hx hb dX9_itemAt_55 rfl (lv_at hl 1 rfl) ?_
        refine x_imul hx hb dX9_itemAt_56 ?_
        refine lv_iload_n hx hb dX9_itemAt_57 rfl (lv_at hl 2 rfl) ?_
        refine x_iadd hx hb dX9_itemAt_58 ?_
        obtain ⟨hy1, hy2, hy3⟩ := hMI.1 x k (by omega) (by omega) (by omega) (by omega)
        refine x_lald hx hb hK.1 hw (by first | exact Int.le_refl 0 | omega) (by first | exact zlt hc56 | omega) ar_56 (len_E ar_56 (by first | exact Nat.ne_of_beq_eq_false rfl | decide)) (by omega) (by omega) (by omega) dX9_itemAt_59 ?_
        have e18 : ∀ p9 q9 : Int, X1 56 p9 q9 = X 56 p9 q9 := fun p9 q9 => by rw [hX1, u3_k _ _ _ _ (by first | exact Nat.ne_of_beq_eq_false rfl | decide)]
        rw [e18 0 ((5 * x) + k)]
        have f19 : (-9223372036854775808) ≤ X 56 0 ((5 * x) + k) ∧ X 56 0 ((5 * x) + k) ≤ 9223372036854775807 := hR 56 0 ((5 * x) + k)
        refine x_l2i hx hb dX9_itemAt_60 ?_
        refine lv_istore (lv' := [(4, .int (jI (X 56 0 ((5 * x) + k)))), (0, .ref (ad 40 0)), (1, .int (jI x)), (2, .int (jI k)), (3, .int (jI i))]) hx hb dX9_itemAt_61 hl (by decide) rfl (fun ls hl => ?_)
        refine lv_iload hx hb dX9_itemAt_63 (lv_at hl 0 rfl) ?_
        refine x_if_ge (tgt := 75) hx hb (by omega) dX9_itemAt_65 (by decide) (fun c20 => ?_) (fun c20 => ?_)
        · refine lv_iload_n hx hb dX9_itemAt_75 rfl (lv_at hl 4 rfl) ?_
          refine x_if_lt (tgt := 90) hx hb (by omega) dX9_itemAt_76 (by decide) (fun c21 => ?_) (fun c21 => ?_)
          · refine lv_aload_n hx hb dX9_itemAt_90 rfl (lv_at hl 1 rfl) ?_
            refine lv_iconst (v := jI 3) hx hb dX9_itemAt_91 rfl ?_
            refine x_puti (jz := 0) hx hb hf9 ⟨tyX9_ok, nmX9⟩ hw hS (by first | exact Int.le_refl 0 | omega) (by first | exact zlt hc40 | omega) sl_40_0 rfl lk145 rfl (tyX9_ok 0 (by decide)) rfl rfl dX9_itemAt_92 (fun H locs hw hS => ?_)
            obtain ⟨X22, hX22⟩ : ∃ Xq, Xq = u3 X1 40 0 0 3 := ⟨_, rfl⟩
            rw [← hX22] at hw
            have hRX22 : Rng X22 := by rw [hX22]; exact rng_set hRX1 (show (-2147483648) ≤ 3 ∧ 3 ≤ 2147483647 by omega)
            have hVX22 : X22 40 0 0 = 3 := by rw [hX22]; exact u3_s _ _ _ _ _
            have hFX22 : Frm [4001] X X22 := by rw [hX22]; exact Frm.set hFX1 (show 4001 ∈ [4001] by first | exact nlm_in rfl | decide)
            refine lv_lconst (v := jL 0) hx hb dX9_itemAt_95 (by decide) ?_
            rw [hQ9]
            refine ret_l (mc := 0) (ms := 0) hx hb hr hlocks hw hS (by first | exact Nat.le_of_ble_eq_true rfl | omega) (by first | exact Nat.le_of_ble_eq_true rfl | omega) dX9_itemAt_96 ?_
            have hMq23 : MInv X22 := minv_frm hMI hFX22 (by decide)
            have e26 : X22 40 0 0 = 3 := (by exact hVX22)
            exact ⟨X22, rfl, hRX22, hFX22, hMq23, by omega, (by (try delta Hid at *); first | exact Or.inl ⟨(fun q => by omega), by omega, by omega⟩ | exact Or.inr (Or.inl ⟨(by omega), (fun q => by omega), by omega, by omega⟩) | exact Or.inr (Or.inr (Or.inl ⟨(by omega), (by omega), by omega, by omega⟩)) | exact Or.inr (Or.inr (Or.inr (Or.inl ⟨(by omega), by omega, by omega, (fun q => by omega), by omega, by omega⟩))) | exact Or.inr (Or.inr (Or.inr (Or.inr (⟨(by omega), by omega, by omega, (by omega), by omega, by omega⟩)))))⟩
          · refine lv_iload_n hx hb dX9_itemAt_79 rfl (lv_at hl 4 rfl) ?_
            refine lv_aload_n hx hb dX9_itemAt_80 rfl (lv_at hl 1 rfl) ?_
            refine x_geto hx hb hf9 hw (by first | exact Int.le_refl 0 | omega) (by first | exact zlt hc40 | omega) sl_40_17 lk54 dX9_itemAt_81 ?_
            refine lv_iload hx hb dX9_itemAt_84 (lv_at hl 0 rfl) ?_
            refine x_iald hx hb hK.1 hw (by first | exact Int.le_refl 0 | omega) (by first | exact zlt hc58 | omega) ar_58 (len_E ar_58 (by first | exact Nat.ne_of_beq_eq_false rfl | decide)) (by omega) (by omega) (by omega) dX9_itemAt_86 ?_
            have e27 : ∀ p9 q9 : Int, X1 58 p9 q9 = X 58 p9 q9 := fun p9 q9 => by rw [hX1, u3_k _ _ _ _ (by first | exact Nat.ne_of_beq_eq_false rfl | decide)]
            rw [e27 0 (X 56 0 ((5 * x) + k))]
            have f28 : 0 ≤ X 58 0 (X 56 0 ((5 * x) + k)) ∧ X 58 0 (X 56 0 ((5 * x) + k)) ≤ 12 := hR 58 0 (X 56 0 ((5 * x) + k))
            refine x_icmp_lt (tgt := 97) hx hb (by omega) (by omega) dX9_itemAt_87 (by decide) (fun c29 => ?_) (fun c29 => ?_)
            · refine lv_aload_n hx hb dX9_itemAt_97 rfl (lv_at hl 1 rfl) ?_
              refine x_geto hx hb hf9 hw (by first | exact Int.le_refl 0 | omega) (by first | exact zlt hc40 | omega) sl_40_18 lk57 dX9_itemAt_98 ?_
              refine lv_bipush (v := jI 12) hx hb dX9_itemAt_101 (by decide) ?_
              refine lv_iload hx hb dX9_itemAt_103 (lv_at hl 0 rfl) ?_
              refine x_imul hx hb dX9_itemAt_105 ?_
              refine lv_iload_n hx hb dX9_itemAt_106 rfl (lv_at hl 4 rfl) ?_
              refine x_iadd hx hb dX9_itemAt_107 ?_
              refine x_lald hx hb hK.1 hw (by first | exact Int.le_refl 0 | omega) (by first | exact zlt hc59 | omega) ar_59 (len_E ar_59 (by first | exact Nat.ne_of_beq_eq_false rfl | decide)) (by omega) (by omega) (by omega) dX9_itemAt_108 ?_
              have e30 : ∀ p9 q9 : Int, X1 59 p9 q9 = X 59 p9 q9 := fun p9 q9 => by rw [hX1, u3_k _ _ _ _ (by first | exact Nat.ne_of_beq_eq_false rfl | decide)]
              rw [e30 0 ((12 * (X 56 0 ((5 * x) + k))) + i)]
              have f31 : (-9223372036854775808) ≤ X 59 0 ((12 * (X 56 0 ((5 * x) + k))) + i) ∧ X 59 0 ((12 * (X 56 0 ((5 * x) + k))) + i) ≤ 9223372036854775807 := hR 59 0 ((12 * (X 56 0 ((5 * x) + k))) + i)
              rw [hQ9]
              refine ret_l (mc := 0) (ms := 0) hx hb hr hlocks hw hS (by first | exact Nat.le_of_ble_eq_true rfl | omega) (by first | exact Nat.le_of_ble_eq_true rfl | omega) dX9_itemAt_109 ?_
              have hMq32 : MInv X1 := minv_frm hMI q900037 (by decide)
              have e34 : X1 40 0 0 = 0 := (by exact hVX1)
              exact ⟨X1, rfl, hRX1, hFX1, hMq32, by omega, (by (try delta Hid at *); first | exact Or.inr (Or.inr (Or.inr (Or.inr (⟨(by omega), by omega, by omega, (by omega), by omega, by omega⟩)))) | exact Or.inl ⟨(fun q => by omega), by omega, by omega⟩ | exact Or.inr (Or.inl ⟨(by omega), (fun q => by omega), by omega, by omega⟩) | exact Or.inr (Or.inr (Or.inl ⟨(by omega), (by omega), by omega, by omega⟩)) | exact Or.inr (Or.inr (Or.inr (Or.inl ⟨(by omega), by omega, by omega, (fun q => by omega), by omega, by omega⟩))))⟩
            · refine lv_aload_n hx hb dX9_itemAt_90 rfl (lv_at hl 1 rfl) ?_
              refine lv_iconst (v := jI 3) hx hb dX9_itemAt_91 rfl ?_
              refine x_puti (jz := 0) hx hb hf9 ⟨tyX9_ok, nmX9⟩ hw hS (by first | exact Int.le_refl 0 | omega) (by first | exact zlt hc40 | omega) sl_40_0 rfl lk145 rfl (tyX9_ok 0 (by decide)) rfl rfl dX9_itemAt_92 (fun H locs hw hS => ?_)
              obtain ⟨X35, hX35⟩ : ∃ Xq, Xq = u3 X1 40 0 0 3 := ⟨_, rfl⟩
              rw [← hX35] at hw
              have hRX35 : Rng X35 := by rw [hX35]; exact rng_set hRX1 (show (-2147483648) ≤ 3 ∧ 3 ≤ 2147483647 by omega)
              have hVX35 : X35 40 0 0 = 3 := by rw [hX35]; exact u3_s _ _ _ _ _
              have hFX35 : Frm [4001] X X35 := by rw [hX35]; exact Frm.set hFX1 (show 4001 ∈ [4001] by first | exact nlm_in rfl | decide)
              refine lv_lconst (v := jL 0) hx hb dX9_itemAt_95 (by decide) ?_
              rw [hQ9]
              refine ret_l (mc := 0) (ms := 0) hx hb hr hlocks hw hS (by first | exact Nat.le_of_ble_eq_true rfl | omega) (by first | exact Nat.le_of_ble_eq_true rfl | omega) dX9_itemAt_96 ?_
              have hMq36 : MInv X35 := minv_frm hMI hFX35 (by decide)
              have e39 : X35 40 0 0 = 3 := (by exact hVX35)
              exact ⟨X35, rfl, hRX35, hFX35, hMq36, by omega, (by (try delta Hid at *); first | exact Or.inl ⟨(fun q => by omega), by omega, by omega⟩ | exact Or.inr (Or.inl ⟨(by omega), (fun q => by omega), by omega, by omega⟩) | exact Or.inr (Or.inr (Or.inl ⟨(by omega), (by omega), by omega, by omega⟩)) | exact Or.inr (Or.inr (Or.inr (Or.inl ⟨(by omega), by omega, by omega, (fun q => by omega), by omega, by omega⟩))) | exact Or.inr (Or.inr (Or.inr (Or.inr (⟨(by omega), by omega, by omega, (by omega), by omega, by omega⟩)))))⟩
        · refine lv_aload_n hx hb dX9_itemAt_68 rfl (lv_at hl 1 rfl) ?_
          refine lv_iconst (v := jI 2) hx hb dX9_itemAt_69 rfl ?_
          refine x_puti (jz := 0) hx hb hf9 ⟨tyX9_ok, nmX9⟩ hw hS (by first | exact Int.le_refl 0 | omega) (by first | exact zlt hc40 | omega) sl_40_0 rfl lk145 rfl (tyX9_ok 0 (by decide)) rfl rfl dX9_itemAt_70 (fun H locs hw hS => ?_)
          obtain ⟨X40, hX40⟩ : ∃ Xq, Xq = u3 X1 40 0 0 2 := ⟨_, rfl⟩
          rw [← hX40] at hw
          have hRX40 : Rng X40 := by rw [hX40]; exact rng_set hRX1 (show (-2147483648) ≤ 2 ∧ 2 ≤ 2147483647 by omega)
          have hVX40 : X40 40 0 0 = 2 := by rw [hX40]; exact u3_s _ _ _ _ _
          have hFX40 : Frm [4001] X X40 := by rw [hX40]; exact Frm.set hFX1 (show 4001 ∈ [4001] by first | exact nlm_in rfl | decide)
          refine lv_lconst (v := jL 0) hx hb dX9_itemAt_73 (by decide) ?_
          rw [hQ9]
          refine ret_l (mc := 0) (ms := 0) hx hb hr hlocks hw hS (by first | exact Nat.le_of_ble_eq_true rfl | omega) (by first | exact Nat.le_of_ble_eq_true rfl | omega) dX9_itemAt_74 ?_
          have hMq41 : MInv X40 := minv_frm hMI hFX40 (by decide)
          have e44 : X40 40 0 0 = 2 := (by exact hVX40)
          exact ⟨X40, rfl, hRX40, hFX40, hMq41, by omega, (by (try delta Hid at *); first | exact Or.inl ⟨(fun q => by omega), by omega, by omega⟩ | exact Or.inr (Or.inl ⟨(by omega), (fun q => by omega), by omega, by omega⟩) | exact Or.inr (Or.inr (Or.inl ⟨(by omega), (by omega), by omega, by omega⟩)) | exact Or.inr (Or.inr (Or.inr (Or.inl ⟨(by omega), by omega, by omega, (fun q => by omega), by omega, by omega⟩))) | exact Or.inr (Or.inr (Or.inr (Or.inr (⟨(by omega), by omega, by omega, (by omega), by omega, by omega⟩)))))⟩
      · refine lv_iconst (v := jI (-1)) hx hb dX9_itemAt_46 rfl ?_
        refine lv_goto (tgt := 61) hx hb dX9_itemAt_47 (by decide) ?_
        refine lv_istore (lv' := [(4, .int (jI (-1))), (0, .ref (ad 40 0)), (1, .int (jI x)), (2, .int (jI k)), (3, .int (jI i))]) hx hb dX9_itemAt_61 hl (by decide) rfl (fun ls hl => ?_)
        refine lv_iload hx hb dX9_itemAt_63 (lv_at hl 0 rfl) ?_
        refine x_if_ge (tgt := 75) hx hb (by omega) dX9_itemAt_65 (by decide) (fun c45 => ?_) (fun c45 => ?_)
        · refine lv_iload_n hx hb dX9_itemAt_75 rfl (lv_at hl 4 rfl) ?_
          refine x_if_lt (tgt := 90) hx hb (by omega) dX9_itemAt_76 (by decide) (fun c46 => ?_) (fun c46 => ?_)
          · refine lv_aload_n hx hb dX9_itemAt_90 rfl (lv_at hl 1 rfl) ?_
            refine lv_iconst (v := jI 3) hx hb dX9_itemAt_91 rfl ?_
            refine x_puti (jz := 0) hx hb hf9 ⟨tyX9_ok, nmX9⟩ hw hS (by first | exact Int.le_refl 0 | omega) (by first | exact zlt hc40 | omega) sl_40_0 rfl lk145 rfl (tyX9_ok 0 (by decide)) rfl rfl dX9_itemAt_92 (fun H locs hw hS => ?_)
            obtain ⟨X47, hX47⟩ : ∃ Xq, Xq = u3 X1 40 0 0 3 := ⟨_, rfl⟩
            rw [← hX47] at hw
            have hRX47 : Rng X47 := by rw [hX47]; exact rng_set hRX1 (show (-2147483648) ≤ 3 ∧ 3 ≤ 2147483647 by omega)
            have hVX47 : X47 40 0 0 = 3 := by rw [hX47]; exact u3_s _ _ _ _ _
            have hFX47 : Frm [4001] X X47 := by rw [hX47]; exact Frm.set hFX1 (show 4001 ∈ [4001] by first | exact nlm_in rfl | decide)
            refine lv_lconst (v := jL 0) hx hb dX9_itemAt_95 (by decide) ?_
            rw [hQ9]
            refine ret_l (mc := 0) (ms := 0) hx hb hr hlocks hw hS (by first | exact Nat.le_of_ble_eq_true rfl | omega) (by first | exact Nat.le_of_ble_eq_true rfl | omega) dX9_itemAt_96 ?_
            have hMq48 : MInv X47 := minv_frm hMI hFX47 (by decide)
            have e51 : X47 40 0 0 = 3 := (by exact hVX47)
            exact ⟨X47, rfl, hRX47, hFX47, hMq48, by omega, (by (try delta Hid at *); first | exact Or.inl ⟨(fun q => by omega), by omega, by omega⟩ | exact Or.inr (Or.inl ⟨(by omega), (fun q => by omega), by omega, by omega⟩) | exact Or.inr (Or.inr (Or.inl ⟨(by omega), (by omega), by omega, by omega⟩)) | exact Or.inr (Or.inr (Or.inr (Or.inl ⟨(by omega), by omega, by omega, (fun q => by omega), by omega, by omega⟩))) | exact Or.inr (Or.inr (Or.inr (Or.inr (⟨(by omega), by omega, by omega, (by omega), by omega, by omega⟩)))))⟩
          · refine lv_iload_n hx hb dX9_itemAt_79 rfl (lv_at hl 4 rfl) ?_
            refine lv_aload_n hx hb dX9_itemAt_80 rfl (lv_at hl 1 rfl) ?_
            refine x_geto hx hb hf9 hw (by first | exact Int.le_refl 0 | omega) (by first | exact zlt hc40 | omega) sl_40_17 lk54 dX9_itemAt_81 ?_
            refine lv_iload hx hb dX9_itemAt_84 (lv_at hl 0 rfl) ?_
            refine x_iald hx hb hK.1 hw (by first | exact Int.le_refl 0 | omega) (by first | exact zlt hc58 | omega) ar_58 (len_E ar_58 (by first | exact Nat.ne_of_beq_eq_false rfl | decide)) (by omega) (by omega) (by omega) dX9_itemAt_86 ?_
            have e52 : ∀ p9 q9 : Int, X1 58 p9 q9 = X 58 p9 q9 := fun p9 q9 => by rw [hX1, u3_k _ _ _ _ (by first | exact Nat.ne_of_beq_eq_false rfl | decide)]
            rw [e52 0 (-1)]
            have f53 : 0 ≤ X 58 0 (-1) ∧ X 58 0 (-1) ≤ 12 := hR 58 0 (-1)
            refine x_icmp_lt (tgt := 97) hx hb (by omega) (by omega) dX9_itemAt_87 (by decide) (fun c54 => ?_) (fun c54 => ?_)
            · refine lv_aload_n hx hb dX9_itemAt_97 rfl (lv_at hl 1 rfl) ?_
              refine x_geto hx hb hf9 hw (by first | exact Int.le_refl 0 | omega) (by first | exact zlt hc40 | omega) sl_40_18 lk57 dX9_itemAt_98 ?_
              refine lv_bipush (v := jI 12) hx hb dX9_itemAt_101 (by decide) ?_
              refine lv_iload hx hb dX9_itemAt_103 (lv_at hl 0 rfl) ?_
              refine x_imul hx hb dX9_itemAt_105 ?_
              refine lv_iload_n hx hb dX9_itemAt_106 rfl (lv_at hl 4 rfl) ?_
              refine x_iadd hx hb dX9_itemAt_107 ?_
              refine x_lald hx hb hK.1 hw (by first | exact Int.le_refl 0 | omega) (by first | exact zlt hc59 | omega) ar_59 (len_E ar_59 (by first | exact Nat.ne_of_beq_eq_false rfl | decide)) (by omega) (by omega) (by omega) dX9_itemAt_108 ?_
              have e55 : ∀ p9 q9 : Int, X1 59 p9 q9 = X 59 p9 q9 := fun p9 q9 => by rw [hX1, u3_k _ _ _ _ (by first | exact Nat.ne_of_beq_eq_false rfl | decide)]
              rw [e55 0 ((12 * (-1)) + i)]
              have f56 : (-9223372036854775808) ≤ X 59 0 ((12 * (-1)) + i) ∧ X 59 0 ((12 * (-1)) + i) ≤ 9223372036854775807 := hR 59 0 ((12 * (-1)) + i)
              rw [hQ9]
              refine ret_l (mc := 0) (ms := 0) hx hb hr hlocks hw hS (by first | exact Nat.le_of_ble_eq_true rfl | omega) (by first | exact Nat.le_of_ble_eq_true rfl | omega) dX9_itemAt_109 ?_
              have hMq57 : MInv X1 := minv_frm hMI q900037 (by decide)
              have e59 : X1 40 0 0 = 0 := (by exact hVX1)
              exact ⟨X1, rfl, hRX1, hFX1, hMq57, by omega, (by (try delta Hid at *); first | (have h9z : ((X 59 0 ((12 * (-1)) + i)) : Int) = 0 := (by omega); exact Or.inl ⟨(fun q => by omega), by omega, by omega⟩) | (have h9z : ((X 59 0 ((12 * (-1)) + i)) : Int) = 0 := (by omega); exact Or.inr (Or.inl ⟨(by omega), (fun q => by omega), by omega, by omega⟩)) | (have h9z : ((X 59 0 ((12 * (-1)) + i)) : Int) = 0 := (by omega); exact Or.inr (Or.inr (Or.inl ⟨(by omega), (by omega), by omega, by omega⟩))) | (have h9z : ((X 59 0 ((12 * (-1)) + i)) : Int) = 0 := (by omega); exact Or.inr (Or.inr (Or.inr (Or.inl ⟨(by omega), by omega, by omega, (fun q => by omega), by omega, by omega⟩)))) | exact Or.inr (Or.inr (Or.inr (Or.inr (⟨(by omega), by omega, by omega, (by omega), by omega, by omega⟩)))) | exact Or.inl ⟨(fun q => by omega), by omega, by omega⟩ | exact Or.inr (Or.inl ⟨(by omega), (fun q => by omega), by omega, by omega⟩) | exact Or.inr (Or.inr (Or.inl ⟨(by omega), (by omega), by omega, by omega⟩)) | exact Or.inr (Or.inr (Or.inr (Or.inl ⟨(by omega), by omega, by omega, (fun q => by omega), by omega, by omega⟩))))⟩
            · refine lv_aload_n hx hb dX9_itemAt_90 rfl (lv_at hl 1 rfl) ?_
              refine lv_iconst (v := jI 3) hx hb dX9_itemAt_91 rfl ?_
              refine x_puti (jz := 0) hx hb hf9 ⟨tyX9_ok, nmX9⟩ hw hS (by first | exact Int.le_refl 0 | omega) (by first | exact zlt hc40 | omega) sl_40_0 rfl lk145 rfl (tyX9_ok 0 (by decide)) rfl rfl dX9_itemAt_92 (fun H locs hw hS => ?_)
              obtain ⟨X60, hX60⟩ : ∃ Xq, Xq = u3 X1 40 0 0 3 := ⟨_, rfl⟩
              rw [← hX60] at hw
              have hRX60 : Rng X60 := by rw [hX60]; exact rng_set hRX1 (show (-2147483648) ≤ 3 ∧ 3 ≤ 2147483647 by omega)
              have hVX60 : X60 40 0 0 = 3 := by rw [hX60]; exact u3_s _ _ _ _ _
              have hFX60 : Frm [4001] X X60 := by rw [hX60]; exact Frm.set hFX1 (show 4001 ∈ [4001] by first | exact nlm_in rfl | decide)
              refine lv_lconst (v := jL 0) hx hb dX9_itemAt_95 (by decide) ?_
              rw [hQ9]
              refine ret_l (mc := 0) (ms := 0) hx hb hr hlocks hw hS (by first | exact Nat.le_of_ble_eq_true rfl | omega) (by first | exact Nat.le_of_ble_eq_true rfl | omega) dX9_itemAt_96 ?_
              have hMq61 : MInv X60 := minv_frm hMI hFX60 (by decide)
              have e64 : X60 40 0 0 = 3 := (by exact hVX60)
              exact ⟨X60, rfl, hRX60, hFX60, hMq61, by omega, (by (try delta Hid at *); first | exact Or.inl ⟨(fun q => by omega), by omega, by omega⟩ | exact Or.inr (Or.inl ⟨(by omega), (fun q => by omega), by omega, by omega⟩) | exact Or.inr (Or.inr (Or.inl ⟨(by omega), (by omega), by omega, by omega⟩)) | exact Or.inr (Or.inr (Or.inr (Or.inl ⟨(by omega), by omega, by omega, (fun q => by omega), by omega, by omega⟩))) | exact Or.inr (Or.inr (Or.inr (Or.inr (⟨(by omega), by omega, by omega, (by omega), by omega, by omega⟩)))))⟩
        · refine lv_aload_n hx hb dX9_itemAt_68 rfl (lv_at hl 1 rfl) ?_
          refine lv_iconst (v := jI 2) hx hb dX9_itemAt_69 rfl ?_
          refine x_puti (jz := 0) hx hb hf9 ⟨tyX9_ok, nmX9⟩ hw hS (by first | exact Int.le_refl 0 | omega) (by first | exact zlt hc40 | omega) sl_40_0 rfl lk145 rfl (tyX9_ok 0 (by decide)) rfl rfl dX9_itemAt_70 (fun H locs hw hS => ?_)
          obtain ⟨X65, hX65⟩ : ∃ Xq, Xq = u3 X1 40 0 0 2 := ⟨_, rfl⟩
          rw [← hX65] at hw
          have hRX65 : Rng X65 := by rw [hX65]; exact rng_set hRX1 (show (-2147483648) ≤ 2 ∧ 2 ≤ 2147483647 by omega)
          have hVX65 : X65 40 0 0 = 2 := by rw [hX65]; exact u3_s _ _ _ _ _
          have hFX65 : Frm [4001] X X65 := by rw [hX65]; exact Frm.set hFX1 (show 4001 ∈ [4001] by first | exact nlm_in rfl | decide)
          refine lv_lconst (v := jL 0) hx hb dX9_itemAt_73 (by decide) ?_
          rw [hQ9]
          refine ret_l (mc := 0) (ms := 0) hx hb hr hlocks hw hS (by first | exact Nat.le_of_ble_eq_true rfl | omega) (by first | exact Nat.le_of_ble_eq_true rfl | omega) dX9_itemAt_74 ?_
          have hMq66 : MInv X65 := minv_frm hMI hFX65 (by decide)
          have e69 : X65 40 0 0 = 2 := (by exact hVX65)
          exact ⟨X65, rfl, hRX65, hFX65, hMq66, by omega, (by (try delta Hid at *); first | exact Or.inl ⟨(fun q => by omega), by omega, by omega⟩ | exact Or.inr (Or.inl ⟨(by omega), (fun q => by omega), by omega, by omega⟩) | exact Or.inr (Or.inr (Or.inl ⟨(by omega), (by omega), by omega, by omega⟩)) | exact Or.inr (Or.inr (Or.inr (Or.inl ⟨(by omega), by omega, by omega, (fun q => by omega), by omega, by omega⟩))) | exact Or.inr (Or.inr (Or.inr (Or.inr (⟨(by omega), by omega, by omega, (by omega), by omega, by omega⟩)))))⟩
    · subst ez6
      refine x_if_neF (tgt := 36) hx hb (by omega) (by decide) dX9_itemAt_26 (by decide) ?_
      refine lv_aload_n hx hb dX9_itemAt_29 rfl (lv_at hl 0 rfl) ?_
      refine lv_iconst (v := jI 3) hx hb dX9_itemAt_30 rfl ?_
      refine x_puti (jz := 0) hx hb hf9 ⟨tyX9_ok, nmX9⟩ hw hS (by first | exact Int.le_refl 0 | omega) (by first | exact zlt hc40 | omega) sl_40_0 rfl lk145 rfl (tyX9_ok 0 (by decide)) rfl rfl dX9_itemAt_31 (fun H locs hw hS => ?_)
      obtain ⟨X70, hX70⟩ : ∃ Xq, Xq = u3 X1 40 0 0 3 := ⟨_, rfl⟩
      rw [← hX70] at hw
      have hRX70 : Rng X70 := by rw [hX70]; exact rng_set hRX1 (show (-2147483648) ≤ 3 ∧ 3 ≤ 2147483647 by omega)
      have hVX70 : X70 40 0 0 = 3 := by rw [hX70]; exact u3_s _ _ _ _ _
      have hFX70 : Frm [4001] X X70 := by rw [hX70]; exact Frm.set hFX1 (show 4001 ∈ [4001] by first | exact nlm_in rfl | decide)
      refine lv_lconst (v := jL 0) hx hb dX9_itemAt_34 (by decide) ?_
      rw [hQ9]
      refine ret_l (mc := 0) (ms := 0) hx hb hr hlocks hw hS (by first | exact Nat.le_of_ble_eq_true rfl | omega) (by first | exact Nat.le_of_ble_eq_true rfl | omega) dX9_itemAt_35 ?_
      have hMq71 : MInv X70 := minv_frm hMI hFX70 (by decide)
      have e74 : X70 40 0 0 = 3 := (by exact hVX70)
      exact ⟨X70, rfl, hRX70, hFX70, hMq71, by omega, (by (try delta Hid at *); first | exact Or.inl ⟨(fun q => by omega), by omega, by omega⟩ | exact Or.inr (Or.inl ⟨(by omega), (fun q => by omega), by omega, by omega⟩) | exact Or.inr (Or.inr (Or.inl ⟨(by omega), (by omega), by omega, by omega⟩)) | exact Or.inr (Or.inr (Or.inr (Or.inl ⟨(by omega), by omega, by omega, (fun q => by omega), by omega, by omega⟩))) | exact Or.inr (Or.inr (Or.inr (Or.inr (⟨(by omega), by omega, by omega, (by omega), by omega, by omega⟩)))))⟩
  · subst ez2
    refine x_if_neF (tgt := 20) hx hb (by omega) (by decide) dX9_itemAt_10 (by decide) ?_
    refine lv_aload_n hx hb dX9_itemAt_13 rfl (lv_at hl 0 rfl) ?_
    refine lv_iconst (v := jI 1) hx hb dX9_itemAt_14 rfl ?_
    refine x_puti (jz := 0) hx hb hf9 ⟨tyX9_ok, nmX9⟩ hw hS (by first | exact Int.le_refl 0 | omega) (by first | exact zlt hc40 | omega) sl_40_0 rfl lk145 rfl (tyX9_ok 0 (by decide)) rfl rfl dX9_itemAt_15 (fun H locs hw hS => ?_)
    obtain ⟨X75, hX75⟩ : ∃ Xq, Xq = u3 X1 40 0 0 1 := ⟨_, rfl⟩
    rw [← hX75] at hw
    have hRX75 : Rng X75 := by rw [hX75]; exact rng_set hRX1 (show (-2147483648) ≤ 1 ∧ 1 ≤ 2147483647 by omega)
    have hVX75 : X75 40 0 0 = 1 := by rw [hX75]; exact u3_s _ _ _ _ _
    have hFX75 : Frm [4001] X X75 := by rw [hX75]; exact Frm.set hFX1 (show 4001 ∈ [4001] by first | exact nlm_in rfl | decide)
    refine lv_lconst (v := jL 0) hx hb dX9_itemAt_18 (by decide) ?_
    rw [hQ9]
    refine ret_l (mc := 0) (ms := 0) hx hb hr hlocks hw hS (by first | exact Nat.le_of_ble_eq_true rfl | omega) (by first | exact Nat.le_of_ble_eq_true rfl | omega) dX9_itemAt_19 ?_
    have hMq76 : MInv X75 := minv_frm hMI hFX75 (by decide)
    have e79 : X75 40 0 0 = 1 := (by exact hVX75)
    exact ⟨X75, rfl, hRX75, hFX75, hMq76, by omega, (by (try delta Hid at *); first | exact Or.inl ⟨(fun q => by omega), by omega, by omega⟩ | exact Or.inr (Or.inl ⟨(by omega), (fun q => by omega), by omega, by omega⟩) | exact Or.inr (Or.inr (Or.inl ⟨(by omega), (by omega), by omega, by omega⟩)) | exact Or.inr (Or.inr (Or.inr (Or.inl ⟨(by omega), by omega, by omega, (fun q => by omega), by omega, by omega⟩))) | exact Or.inr (Or.inr (Or.inr (Or.inr (⟨(by omega), by omega, by omega, (by omega), by omega, by omega⟩)))))⟩

set_option maxHeartbeats 4000000 in
set_option maxRecDepth 100000 in
theorem c_X9_drop (l : Launch) (D : va_G) (tc : Nat → ClassId) (base : Nat) (ad : Nat → Int → Nat) (cnt : Nat → Int) (X : Nat → Int → Int → Int) (Y : Nat → Int → Int → Option Int) (ln : Int → Int) (hR : Rng X) (hFx : Fx cnt) (hMI : MInv X) (t k : Int) (ht : -2147483648 ≤ t ∧ t ≤ 2147483647) (hk : -2147483648 ≤ k ∧ k ≤ 2147483647) : KI l D tc base yX9_drop wsX9_drop ({ frames := 1, cells := 0, slots := 0, locals := 21 } : Room) [.ref (ad 40 0), .int (jI t), .int (jI k)] (ad, cnt, X, Y, ln) 0 0 (fun z u => ∃ X1 : Nat → Int → Int → Int, u = (ad, cnt, X1, Y, ln) ∧ Rng X1 ∧ Frm [4001, 4500, 4600, 4700, 4800, 4400, 5600] X X1 ∧ MInv X1 ∧ (-2147483648 ≤ z ∧ z ≤ 2147483647) ∧ ((¬ (0 ≤ t ∧ t < X 40 0 2 ∧ 0 ≤ k ∧ k < X 44 0 t) ∧ z = -1 ∧ X1 44 0 t = X 44 0 t) ∨ (0 ≤ t ∧ t < X 40 0 2 ∧ 0 ≤ k ∧ k < X 44 0 t ∧ 0 < X 40 0 20 ∧ z = -3 ∧ X1 44 0 t = X 44 0 t) ∨ (0 ≤ t ∧ t < X 40 0 2 ∧ 0 ≤ k ∧ k < X 44 0 t ∧ X 40 0 20 = 0 ∧ z = X 44 0 t - 1 ∧ X1 44 0 t = X 44 0 t - 1)) ∧ (0 ≤ z → Sh 45 X X1 0 (5 * t + k) (5 * t + (X 44 0 t - 1)) ∧ Sh 46 X X1 0 (5 * t + k) (5 * t + (X 44 0 t - 1)) ∧ Sh 47 X X1 0 (5 * t + k) (5 * t + (X 44 0 t - 1)) ∧ Sh 48 X X1 0 (5 * t + k) (5 * t + (X 44 0 t - 1))) ∧ (z < 0 → ∀ y, X1 45 0 y = X 45 0 y ∧ X1 46 0 y = X 46 0 y ∧ X1 47 0 y = X 47 0 y ∧ X1 48 0 y = X 48 0 y) ∧ (∀ y, y ≠ t → X1 44 0 y = X 44 0 y) ∧ (0 ≤ z → (∀ y j, 0 ≤ y → y < X 40 0 13 → X 55 0 y = t → k ≤ j → j < X 44 0 t - 1 → X1 56 0 (5 * y + j) = X 56 0 (5 * y + j + 1)) ∧ ∀ y j, 0 ≤ y → y < X 40 0 13 → 0 ≤ j → j ≤ 4 → ¬ (X 55 0 y = t ∧ k ≤ j) → X1 56 0 (5 * y + j) = X 56 0 (5 * y + j)) ∧ (z < 0 → Frm [4001] X X1)) := by
  refine K_of (cc := cX9_drop) (maxL := 5) (ret := (some .int)) (by decide) rfl (Nat.le_of_ble_eq_true rfl) ?_
  intro p e s m below meth c ls hx hb hr hml hown hts hlocks hl hK hw hS
  have hown : s.vm.findClass RX9 = some m.cls := hown
  obtain ⟨av9, hav9⟩ : ∃ a9 : Array Value, a9 = ([.ref (ad 40 0), .int (jI t), .int (jI k)] : List Value).toArray := ⟨_, rfl⟩
  rw [← hav9] at hts ⊢
  obtain ⟨Q9, hQ9⟩ : ∃ q9Q : State → Prop, q9Q = MQ below (QI D tc base (fun z u => ∃ X1 : Nat → Int → Int → Int, u = (ad, cnt, X1, Y, ln) ∧ Rng X1 ∧ Frm [4001, 4500, 4600, 4700, 4800, 4400, 5600] X X1 ∧ MInv X1 ∧ (-2147483648 ≤ z ∧ z ≤ 2147483647) ∧ ((¬ (0 ≤ t ∧ t < X 40 0 2 ∧ 0 ≤ k ∧ k < X 44 0 t) ∧ z = -1 ∧ X1 44 0 t = X 44 0 t) ∨ (0 ≤ t ∧ t < X 40 0 2 ∧ 0 ≤ k ∧ k < X 44 0 t ∧ 0 < X 40 0 20 ∧ z = -3 ∧ X1 44 0 t = X 44 0 t) ∨ (0 ≤ t ∧ t < X 40 0 2 ∧ 0 ≤ k ∧ k < X 44 0 t ∧ X 40 0 20 = 0 ∧ z = X 44 0 t - 1 ∧ X1 44 0 t = X 44 0 t - 1)) ∧ (0 ≤ z → Sh 45 X X1 0 (5 * t + k) (5 * t + (X 44 0 t - 1)) ∧ Sh 46 X X1 0 (5 * t + k) (5 * t + (X 44 0 t - 1)) ∧ Sh 47 X X1 0 (5 * t + k) (5 * t + (X 44 0 t - 1)) ∧ Sh 48 X X1 0 (5 * t + k) (5 * t + (X 44 0 t - 1))) ∧ (z < 0 → ∀ y, X1 45 0 y = X 45 0 y ∧ X1 46 0 y = X 46 0 y ∧ X1 47 0 y = X 47 0 y ∧ X1 48 0 y = X 48 0 y) ∧ (∀ y, y ≠ t → X1 44 0 y = X 44 0 y) ∧ (0 ≤ z → (∀ y j, 0 ≤ y → y < X 40 0 13 → X 55 0 y = t → k ≤ j → j < X 44 0 t - 1 → X1 56 0 (5 * y + j) = X 56 0 (5 * y + j + 1)) ∧ ∀ y j, 0 ≤ y → y < X 40 0 13 → 0 ≤ j → j ≤ 4 → ¬ (X 55 0 y = t ∧ k ≤ j) → X1 56 0 (5 * y + j) = X 56 0 (5 * y + j)) ∧ (z < 0 → Frm [4001] X X1))) av9 s 0 0 (frA base) := ⟨_, rfl⟩
  rw [← hQ9]
  have hi9 : ∀ w ∈ wsX90, w ∈ wsX9_drop := fun w h => List.mem_cons_of_mem _ (List.mem_append_right _ h)
  have hf9 : fctx s m _ RX9 wsX9_drop D tc RX9 TX9 51 9 := ⟨hts, hi9, hown, hK.1, rfl⟩
  have lk13 := hts (.fieldLink RX9 13 (TX9 3).1 (TX9 3).2.1 (TX9 3).2.2.1) (gj_X9_drop_0 _ (gp_1 gp_h))
  have lk17 := hts (.fieldLink RX9 17 (TX9 4).1 (TX9 4).2.1 (TX9 4).2.2.1) (gj_X9_drop_0 _ (gp_1 (gp_1 (gp_1 gp_h))))
  have lk20 := hts (.fieldLink RX9 20 (TX9 5).1 (TX9 5).2.1 (TX9 5).2.2.1) (gj_X9_drop_0 _ (gp_4 gp_h))
  have lk23 := hts (.fieldLink RX9 23 (TX9 6).1 (TX9 6).2.1 (TX9 6).2.2.1) (gj_X9_drop_0 _ (gp_4 (gp_1 gp_h)))
  have lk27 := hts (.fieldLink RX9 27 (TX9 7).1 (TX9 7).2.1 (TX9 7).2.2.1) (gj_X9_drop_0 _ (gp_4 (gp_1 (gp_1 gp_h))))
  have lk45 := hts (.fieldLink RX9 45 (TX9 14).1 (TX9 14).2.1 (TX9 14).2.2.1) (gj_X9_drop_0 _ (gp_4 (gp_4 (gp_1 gp_h))))
  have lk48 := hts (.fieldLink RX9 48 (TX9 15).1 (TX9 15).2.1 (TX9 15).2.2.1) (gj_X9_drop_0 _ (gp_4 (gp_4 gp_h)))
  have lk145 := hts (.fieldLink RX9 145 (TX9 0).1 (TX9 0).2.1 (TX9 0).2.2.1) (gj_X9_drop_0 _ (gp_h))
  have lk151 := hts (.fieldLink RX9 151 (TX9 13).1 (TX9 13).2.1 (TX9 13).2.2.1) (gj_X9_drop_0 _ (gp_4 (gp_1 (gp_1 (gp_1 gp_h)))))
  have lk165 := hts (.fieldLink RX9 165 (TX9 20).1 (TX9 20).2.1 (TX9 20).2.2.1) (gj_X9_drop_0 _ (gp_1 (gp_1 gp_h)))
  have hc40 : cnt 40 = 1 := hFx.at 40 1 (by decide)
  have hc44 : cnt 44 = 1 := hFx.at 44 1 (by decide)
  have hc45 : cnt 45 = 1 := hFx.at 45 1 (by decide)
  have hc46 : cnt 46 = 1 := hFx.at 46 1 (by decide)
  have hc47 : cnt 47 = 1 := hFx.at 47 1 (by decide)
  have hc48 : cnt 48 = 1 := hFx.at 48 1 (by decide)
  have hc55 : cnt 55 = 1 := hFx.at 55 1 (by decide)
  have hc56 : cnt 56 = 1 := hFx.at 56 1 (by decide)
  have hl : lv_has ls 5 [(0, .ref (ad 40 0)), (1, .int (jI t)), (2, .int (jI k))] := hl
  have fstypes : 0 ≤ X 40 0 2 ∧ X 40 0 2 ≤ 8 := hR 40 0 2
  have fsthings : 0 ≤ X 40 0 13 ∧ X 40 0 13 ≤ 30 := hR 40 0 13
  have fsmarks : 0 ≤ X 40 0 20 ∧ X 40 0 20 ≤ 4 := hR 40 0 20
  have fsnotes : 0 ≤ X 40 0 22 ∧ X 40 0 22 ≤ 80 := hR 40 0 22
  refine lv_aload_n hx hb dX9_drop_0 rfl (lv_at hl 0 rfl) ?_
  refine lv_iconst (v := jI 0) hx hb dX9_drop_1 rfl ?_
  refine x_puti (jz := 0) hx hb hf9 ⟨tyX9_ok, nmX9⟩ hw hS (by first | exact Int.le_refl 0 | omega) (by first | exact zlt hc40 | omega) sl_40_0 rfl lk145 rfl (tyX9_ok 0 (by decide)) rfl rfl dX9_drop_2 (fun H locs hw hS => ?_)
  obtain ⟨X1, hX1⟩ : ∃ Xq, Xq = u3 X 40 0 0 0 := ⟨_, rfl⟩
  rw [← hX1] at hw
  have hRX1 : Rng X1 := by rw [hX1]; exact rng_set hR (show (-2147483648) ≤ 0 ∧ 0 ≤ 2147483647 by omega)
  have hVX1 : X1 40 0 0 = 0 := by rw [hX1]; exact u3_s _ _ _ _ _
  have hFX1 : Frm [4001, 4500, 4600, 4700, 4800, 4400, 5600] X X1 := by rw [hX1]; exact Frm.set Frm.rf (show 4001 ∈ [4001, 4500, 4600, 4700, 4800, 4400, 5600] by first | exact nlm_in rfl | decide)
  refine lv_aload_n hx hb dX9_drop_5 rfl (lv_at hl 0 rfl) ?_
  refine lv_iload_n hx hb dX9_drop_6 rfl (lv_at hl 1 rfl) ?_
  refine gos_i (run_V (As := [.int (jI t)]) (rest := []) hx hb hml hown hts (c_X9_isType l D tc base ad cnt X1 Y ln hRX1 hFx t (by omega)) (cwV 1 hts gX9_drop_X9_isType rfl rfl rfl (by first | exact hd_X9_isType | decide +kernel) ⟨Nat.le_of_ble_eq_true rfl, Nat.le_of_ble_eq_true rfl⟩) hK hw (by first | exact Int.le_refl 0 | omega) (by first | exact zlt hc40 | omega) sl_40_0 rfl rfl hl.1 rfl (Nat.le_of_ble_eq_true rfl) dX9_drop_7 ⟨Nat.le_of_ble_eq_true rfl, Nat.le_of_ble_eq_true rfl⟩) hS (fun z2 u3 H locs p4 hw hS => ?_)
  obtain ⟨eu3, p4⟩ := p4
  subst eu3
  have e5 : X1 40 0 2 = X 40 0 2 := by rw [hX1, u3_j _ _ _ _ (by decide)]
  simp only [e5] at p4
  have q900039 : Frm [4001] X X1 := by rw [hX1]; exact Frm.set Frm.rf (show 4001 ∈ [4001] by first | exact nlm_in rfl | decide)
  rcases p4 with ⟨ez2, p4⟩ | ⟨ez2, p4⟩
  · subst ez2
    refine x_if_eqF (tgt := 27) hx hb (by omega) (by decide) dX9_drop_10 (by decide) ?_
    refine lv_iload_n hx hb dX9_drop_13 rfl (lv_at hl 2 rfl) ?_
    refine x_if_lt (tgt := 27) hx hb (by omega) dX9_drop_14 (by decide) (fun c6 => ?_) (fun c6 => ?_)
    · refine lv_iconst (v := jI (-1)) hx hb dX9_drop_27 rfl ?_
      rw [hQ9]
      refine ret_i (mc := 0) (ms := 0) hx hb hr hlocks hw hS (by first | exact Nat.le_of_ble_eq_true rfl | omega) (by first | exact Nat.le_of_ble_eq_true rfl | omega) dX9_drop_28 ?_
      have q8 : Frm [4001] X X1 := by rw [hX1]; exact Frm.set Frm.rf (show 4001 ∈ [4001] by first | exact nlm_in rfl | decide)
      have hMq7 : MInv X1 := minv_frm hMI q8 (by decide)
      have e9 : X1 44 0 t = X 44 0 t := (by rw [hX1, u3_k _ _ _ _ (by first | exact Nat.ne_of_beq_eq_false rfl | decide)])
      have q10 : Frm [4001] X X1 := by rw [hX1]; exact Frm.set Frm.rf (show 4001 ∈ [4001] by first | exact nlm_in rfl | decide)
      exact ⟨X1, rfl, hRX1, hFX1, hMq7, by omega, (by (try delta Hid at *); first | exact Or.inl ⟨(fun q => by omega), by omega, by omega⟩ | exact Or.inr (Or.inr ((⟨by omega, by omega, by omega, by omega, by omega, by omega, by omega⟩))) | omega), fun h => (by exfalso; omega), fun _ y => ⟨(by rw [hX1, u3_k _ _ _ _ (by first | exact Nat.ne_of_beq_eq_false rfl | decide)]), (by rw [hX1, u3_k _ _ _ _ (by first | exact Nat.ne_of_beq_eq_false rfl | decide)]), (by rw [hX1, u3_k _ _ _ _ (by first | exact Nat.ne_of_beq_eq_false rfl | decide)]), (by rw [hX1, u3_k _ _ _ _ (by first | exact Nat.ne_of_beq_eq_false rfl | decide)])⟩, fun y h => (by rw [hX1, u3_k _ _ _ _ (by first | exact Nat.ne_of_beq_eq_false rfl | decide)]), fun q => (by exfalso; omega), fun _ => q10⟩
    · refine lv_iload_n hx hb dX9_drop_17 rfl (lv_at hl 2 rfl) ?_
      refine lv_aload_n hx hb dX9_drop_18 rfl (lv_at hl 0 rfl) ?_
      refine x_geto hx hb hf9 hw (by first | exact Int.le_refl 0 | omega) (by first | exact zlt hc40 | omega) sl_40_3 lk13 dX9_drop_19 ?_
      refine lv_iload_n hx hb dX9_drop_22 rfl (lv_at hl 1 rfl) ?_
      refine x_iald hx hb hK.1 hw (by first | exact Int.le_refl 0 | omega) (by first | exact zlt hc44 | omega) ar_44 (len_E ar_44 (by first | exact Nat.ne_of_beq_eq_false rfl | decide)) (by omega) (by omega) (by omega) dX9_drop_23 ?_
      have e11 : ∀ p9 q9 : Int, X1 44 p9 q9 = X 44 p9 q9 := fun p9 q9 => by rw [hX1, u3_k _ _ _ _ (by first | exact Nat.ne_of_beq_eq_false rfl | decide)]
      rw [e11 0 t]
      have f12 : 0 ≤ X 44 0 t ∧ X 44 0 t ≤ 5 := hR 44 0 t
      refine x_icmp_lt (tgt := 29) hx hb (by omega) (by omega) dX9_drop_24 (by decide) (fun c13 => ?_) (fun c13 => ?_)
      · refine lv_aload_n hx hb dX9_drop_29 rfl (lv_at hl 0 rfl) ?_
        refine x_geti (jz := 20) hx hb hf9 hw (by first | exact Int.le_refl 0 | omega) (by first | exact zlt hc40 | omega) sl_40_20 rfl lk165 dX9_drop_30 ?_
        have e14 : X1 40 0 20 = X 40 0 20 := by rw [hX1, u3_j _ _ _ _ (by decide)]
        rw [e14]
        have f15 : 0 ≤ X 40 0 20 ∧ X 40 0 20 ≤ 4 := hR 40 0 20
        refine x_if_le (tgt := 39) hx hb (by omega) dX9_drop_33 (by decide) (fun c16 => ?_) (fun c16 => ?_)
        · refine lv_iload_n hx hb dX9_drop_39 rfl (lv_at hl 2 rfl) ?_
          refine lv_istore_n (lv' := [(3, .int (jI k)), (0, .ref (ad 40 0)), (1, .int (jI t)), (2, .int (jI k))]) hx hb dX9_drop_40 rfl hl (by decide) rfl (fun ls hl => ?_)
          have lp41 : ∀ (nn : Nat) (j : Int) (Xa : Nat → Int → Int → Int) (H : Heap) (locs : List Loc) (ls : Array Slot), (5 - j) < (nn : Int) → (Rng Xa) → (Frm [4500, 4600, 4700, 4800, 5600] X1 Xa) → (0 ≤ j ∧ j ≤ 5 ∧ k ≤ j ∧ j ≤ X 44 0 t - 1) → (MInv Xa) → (Sh 45 X Xa 0 (5 * t + k) (5 * t + j)) → (Sh 46 X Xa 0 (5 * t + k) (5 * t + j)) → (Sh 47 X Xa 0 (5 * t + k) (5 * t + j)) → (Sh 48 X Xa 0 (5 * t + k) (5 * t + j)) → (DrI X Xa t k j 0) → wd D tc base (ad, cnt, Xa, Y, ln) H → va_S (frA base) s.heap H locs → lv_has ls 5 [(0, .ref (ad 40 0)), (1, .int (jI t)), (2, .int (jI k)), (3, .int (jI j))] → W p l e ({ frames := 1, cells := 0, slots := 0, locals := 21 } : Room) s m av9 below meth c H locs 0 0 Q9 (F0 m 41 ls []) := by
            intro nn
            induction nn with
            | zero => intro j Xa H locs ls hm hRXa hGXa hj hMIXa hs45 hs46 hs47 hs48 hDa hw hS hl; exfalso; omega
            | succ nn ih41 =>
              intro j Xa H locs ls hm hRXa hGXa hj hMIXa hs45 hs46 hs47 hs48 hDa hw hS hl
              have hFXa : Frm [4001, 4500, 4600, 4700, 4800, 4400, 5600] X Xa := Frm.tr hFX1 (Frm.mono hGXa (by first | exact nls_of rfl | decide))
              refine lv_iload_n hx hb dX9_drop_41 rfl (lv_at hl 3 rfl) ?_
              refine lv_iconst (v := jI 1) hx hb dX9_drop_42 rfl ?_
              refine x_iadd hx hb dX9_drop_43 ?_
              refine lv_aload_n hx hb dX9_drop_44 rfl (lv_at hl 0 rfl) ?_
              refine x_geto hx hb hf9 hw (by first | exact Int.le_refl 0 | omega) (by first | exact zlt hc40 | omega) sl_40_3 lk13 dX9_drop_45 ?_
              refine lv_iload_n hx hb dX9_drop_48 rfl (lv_at hl 1 rfl) ?_
              refine x_iald hx hb hK.1 hw (by first | exact Int.le_refl 0 | omega) (by first | exact zlt hc44 | omega) ar_44 (len_E ar_44 (by first | exact Nat.ne_of_beq_eq_false rfl | decide)) (by omega) (by omega) (by omega) dX9_drop_49 ?_
              have e17 : ∀ p9 q9 : Int, Xa 44 p9 q9 = X 44 p9 q9 := fun p9 q9 => by rw [hGXa 44 p9 q9 (show 4400 ∉ [4500, 4600, 4700, 4800, 5600] by first | exact nlm_ni rfl | decide), hX1, u3_k _ _ _ _ (by first | exact Nat.ne_of_beq_eq_false rfl | decide)]
              rw [e17 0 t]
              have f18 : 0 ≤ X 44 0 t ∧ X 44 0 t ≤ 5 := hR 44 0 t
              refine x_icmp_ge (tgt := 214) hx hb (by omega) (by omega) dX9_drop_50 (by decide) (fun c19 => ?_) (fun c19 => ?_)
              · refine lv_aload_n hx hb dX9_drop_214 rfl (lv_at hl 0 rfl) ?_
                refine x_geto hx hb hf9 hw (by first | exact Int.le_refl 0 | omega) (by first | exact zlt hc40 | omega) sl_40_3 lk13 dX9_drop_215 ?_
                refine lv_iload_n hx hb dX9_drop_218 rfl (lv_at hl 1 rfl) ?_
                refine lv_dup2_11 hx hb dX9_drop_219 rfl rfl ?_
                refine x_iald hx hb hK.1 hw (by first | exact Int.le_refl 0 | omega) (by first | exact zlt hc44 | omega) ar_44 (len_E ar_44 (by first | exact Nat.ne_of_beq_eq_false rfl | decide)) (by omega) (by omega) (by omega) dX9_drop_220 ?_
                have e20 : ∀ p9 q9 : Int, Xa 44 p9 q9 = X 44 p9 q9 := fun p9 q9 => by rw [hGXa 44 p9 q9 (show 4400 ∉ [4500, 4600, 4700, 4800, 5600] by first | exact nlm_ni rfl | decide), hX1, u3_k _ _ _ _ (by first | exact Nat.ne_of_beq_eq_false rfl | decide)]
                rw [e20 0 t]
                have f21 : 0 ≤ X 44 0 t ∧ X 44 0 t ≤ 5 := hR 44 0 t
                refine lv_iconst (v := jI 1) hx hb dX9_drop_221 rfl ?_
                refine x_isub hx hb dX9_drop_222 ?_
                refine x_iast hx hb hK.1 hw hS (by first | exact Int.le_refl 0 | omega) (by first | exact zlt hc44 | omega) ar_44 (len_E ar_44 (by first | exact Nat.ne_of_beq_eq_false rfl | decide)) (by omega) (by omega) (by omega) dX9_drop_223 (fun H locs hw hS => ?_)
                obtain ⟨X22, hX22⟩ : ∃ Xq, Xq = u3 Xa 44 0 t ((X 44 0 t) - 1) := ⟨_, rfl⟩
                rw [← hX22] at hw
                have hRX22 : Rng X22 := by rw [hX22]; exact rng_set hRXa (show 0 ≤ ((X 44 0 t) - 1) ∧ ((X 44 0 t) - 1) ≤ 5 by omega)
                have hVX22 : X22 44 0 t = ((X 44 0 t) - 1) := by rw [hX22]; exact u3_s _ _ _ _ _
                have hFX22 : Frm [4001, 4500, 4600, 4700, 4800, 4400, 5600] X X22 := by rw [hX22]; exact Frm.set hFXa (show 4400 ∈ [4001, 4500, 4600, 4700, 4800, 4400, 5600] by first | exact nlm_in rfl | decide)
                refine lv_aload_n hx hb dX9_drop_224 rfl (lv_at hl 0 rfl) ?_
                refine x_geto hx hb hf9 hw (by first | exact Int.le_refl 0 | omega) (by first | exact zlt hc40 | omega) sl_40_3 lk13 dX9_drop_225 ?_
                refine lv_iload_n hx hb dX9_drop_228 rfl (lv_at hl 1 rfl) ?_
                refine x_iald hx hb hK.1 hw (by first | exact Int.le_refl 0 | omega) (by first | exact zlt hc44 | omega) ar_44 (len_E ar_44 (by first | exact Nat.ne_of_beq_eq_false rfl | decide)) (by omega) (by omega) (by omega) dX9_drop_229 ?_
                rw [hVX22]
                rw [hQ9]
                refine ret_i (mc := 0) (ms := 0) hx hb hr hlocks hw hS (by first | exact Nat.le_of_ble_eq_true rfl | omega) (by first | exact Nat.le_of_ble_eq_true rfl | omega) dX9_drop_230 ?_
                have q23 : Frm [4400] Xa X22 := by rw [hX22]; exact Frm.set Frm.rf (show 4400 ∈ [4400] by first | exact nlm_in rfl | decide)
                have e24 : X22 44 0 t = X 44 0 t - 1 := (by rw [hVX22]; try rw [hGXa 44 0 t (show 4400 ∉ [4500, 4600, 4700, 4800, 5600] by first | exact nlm_ni rfl | decide), hX1, u3_k _ _ _ _ (by first | exact Nat.ne_of_beq_eq_false rfl | decide)])
                have hD25 := (DrI.of (Xb := X22) hDa (fun p => (by rw [hX22, u3_k _ _ _ _ (by first | exact Nat.ne_of_beq_eq_false rfl | decide)]))).fin
                exact ⟨X22, rfl, hRX22, hFX22, minv_fdown (t := t) hMIXa (by rw [hGXa 40 0 20 (show 4021 ∉ [4500, 4600, 4700, 4800, 5600] by first | exact nlm_ni rfl | decide), hX1, u3_j _ _ _ _ (by decide)]; omega) q23 (fun j hj => by rw [hX22, u3_j _ _ _ _ hj]) (by rw [hVX22, hGXa 44 0 t (show 4400 ∉ [4500, 4600, 4700, 4800, 5600] by first | exact nlm_ni rfl | decide), hX1, u3_k _ _ _ _ (by first | exact Nat.ne_of_beq_eq_false rfl | decide)]; omega), by omega, (by (try delta Hid at *); first | exact Or.inr (Or.inr ((⟨by omega, by omega, by omega, by omega, by omega, by omega, by omega⟩))) | omega), fun h => ⟨(by rw [show X 44 0 t - 1 = j by omega]; exact Sh.of hs45 (by rw [hX22, u3_k _ _ _ _ (by first | exact Nat.ne_of_beq_eq_false rfl | decide)])), (by rw [show X 44 0 t - 1 = j by omega]; exact Sh.of hs46 (by rw [hX22, u3_k _ _ _ _ (by first | exact Nat.ne_of_beq_eq_false rfl | decide)])), (by rw [show X 44 0 t - 1 = j by omega]; exact Sh.of hs47 (by rw [hX22, u3_k _ _ _ _ (by first | exact Nat.ne_of_beq_eq_false rfl | decide)])), (by rw [show X 44 0 t - 1 = j by omega]; exact Sh.of hs48 (by rw [hX22, u3_k _ _ _ _ (by first | exact Nat.ne_of_beq_eq_false rfl | decide)]))⟩, fun h => (by exfalso; omega), fun y h => (by rw [hX22, u3_j _ _ _ _ h, hGXa 44 0 y (show 4400 ∉ [4500, 4600, 4700, 4800, 5600] by first | exact nlm_ni rfl | decide), hX1, u3_k _ _ _ _ (by first | exact Nat.ne_of_beq_eq_false rfl | decide)]), fun _ => ⟨fun y j a b c d e => hD25.1 y j a b c d (by omega) (by omega) (by omega), fun y j a b c d e => hD25.2 y j a b c d e⟩, fun q => (by exfalso; omega)⟩
              · refine lv_aload_n hx hb dX9_drop_53 rfl (lv_at hl 0 rfl) ?_
                refine x_geto hx hb hf9 hw (by first | exact Int.le_refl 0 | omega) (by first | exact zlt hc40 | omega) sl_40_4 lk17 dX9_drop_54 ?_
                refine lv_iconst (v := jI 5) hx hb dX9_drop_57 rfl ?_
                refine lv_iload_n hx hb dX9_drop_58 rfl (lv_at hl 1 rfl) ?_
                refine x_imul hx hb dX9_drop_59 ?_
                refine lv_iload_n hx hb dX9_drop_60 rfl (lv_at hl 3 rfl) ?_
                refine x_iadd hx hb dX9_drop_61 ?_
                refine lv_aload_n hx hb dX9_drop_62 rfl (lv_at hl 0 rfl) ?_
                refine x_geto hx hb hf9 hw (by first | exact Int.le_refl 0 | omega) (by first | exact zlt hc40 | omega) sl_40_4 lk17 dX9_drop_63 ?_
                refine lv_iconst (v := jI 5) hx hb dX9_drop_66 rfl ?_
                refine lv_iload_n hx hb dX9_drop_67 rfl (lv_at hl 1 rfl) ?_
                refine x_imul hx hb dX9_drop_68 ?_
                refine lv_iload_n hx hb dX9_drop_69 rfl (lv_at hl 3 rfl) ?_
                refine x_iadd hx hb dX9_drop_70 ?_
                refine lv_iconst (v := jI 1) hx hb dX9_drop_71 rfl ?_
                refine x_iadd hx hb dX9_drop_72 ?_
                refine x_iald hx hb hK.1 hw (by first | exact Int.le_refl 0 | omega) (by first | exact zlt hc45 | omega) ar_45 (len_E ar_45 (by first | exact Nat.ne_of_beq_eq_false rfl | decide)) (by omega) (by omega) (by omega) dX9_drop_73 ?_
                have f26 : 0 ≤ Xa 45 0 (((5 * t) + j) + 1) ∧ Xa 45 0 (((5 * t) + j) + 1) ≤ 19 := hRXa 45 0 (((5 * t) + j) + 1)
                refine x_iast hx hb hK.1 hw hS (by first | exact Int.le_refl 0 | omega) (by first | exact zlt hc45 | omega) ar_45 (len_E ar_45 (by first | exact Nat.ne_of_beq_eq_false rfl | decide)) (by omega) (by omega) (by omega) dX9_drop_74 (fun H locs hw hS => ?_)
                obtain ⟨X27, hX27⟩ : ∃ Xq, Xq = u3 Xa 45 0 ((5 * t) + j) (Xa 45 0 (((5 * t) + j) + 1)) := ⟨_, rfl⟩
                rw [← hX27] at hw
                have hRX27 : Rng X27 := by rw [hX27]; exact rng_set hRXa (show 0 ≤ (Xa 45 0 (((5 * t) + j) + 1)) ∧ (Xa 45 0 (((5 * t) + j) + 1)) ≤ 19 by omega)
                have hVX27 : X27 45 0 ((5 * t) + j) = (Xa 45 0 (((5 * t) + j) + 1)) := by rw [hX27]; exact u3_s _ _ _ _ _
                have hFX27 : Frm [4001, 4500, 4600, 4700, 4800, 4400, 5600] X X27 := by rw [hX27]; exact Frm.set hFXa (show 4500 ∈ [4001, 4500, 4600, 4700, 4800, 4400, 5600] by first | exact nlm_in rfl | decide)
                refine lv_aload_n hx hb dX9_drop_75 rfl (lv_at hl 0 rfl) ?_
                refine x_geto hx hb hf9 hw (by first | exact Int.le_refl 0 | omega) (by first | exact zlt hc40 | omega) sl_40_5 lk20 dX9_drop_76 ?_
                refine lv_iconst (v := jI 5) hx hb dX9_drop_79 rfl ?_
                refine lv_iload_n hx hb dX9_drop_80 rfl (lv_at hl 1 rfl) ?_
                refine x_imul hx hb dX9_drop_81 ?_
                refine lv_iload_n hx hb dX9_drop_82 rfl (lv_at hl 3 rfl) ?_
                refine x_iadd hx hb dX9_drop_83 ?_
                refine lv_aload_n hx hb dX9_drop_84 rfl (lv_at hl 0 rfl) ?_
                refine x_geto hx hb hf9 hw (by first | exact Int.le_refl 0 | omega) (by first | exact zlt hc40 | omega) sl_40_5 lk20 dX9_drop_85 ?_
                refine lv_iconst (v := jI 5) hx hb dX9_drop_88 rfl ?_
                refine lv_iload_n hx hb dX9_drop_89 rfl (lv_at hl 1 rfl) ?_
                refine x_imul hx hb dX9_drop_90 ?_
                refine lv_iload_n hx hb dX9_drop_91 rfl (lv_at hl 3 rfl) ?_
                refine x_iadd hx hb dX9_drop_92 ?_
                refine lv_iconst (v := jI 1) hx hb dX9_drop_93 rfl ?_
                refine x_iadd hx hb dX9_drop_94 ?_
                refine x_iald hx hb hK.1 hw (by first | exact Int.le_refl 0 | omega) (by first | exact zlt hc46 | omega) ar_46 (len_E ar_46 (by first | exact Nat.ne_of_beq_eq_false rfl | decide)) (by omega) (by omega) (by omega) dX9_drop_95 ?_
                have e28 : ∀ p9 q9 : Int, X27 46 p9 q9 = Xa 46 p9 q9 := fun p9 q9 => by rw [hX27, u3_k _ _ _ _ (by first | exact Nat.ne_of_beq_eq_false rfl | decide)]
                rw [e28 0 (((5 * t) + j) + 1)]
                have f29 : 0 ≤ Xa 46 0 (((5 * t) + j) + 1) ∧ Xa 46 0 (((5 * t) + j) + 1) ≤ 5 := hRXa 46 0 (((5 * t) + j) + 1)
                refine x_iast hx hb hK.1 hw hS (by first | exact Int.le_refl 0 | omega) (by first | exact zlt hc46 | omega) ar_46 (len_E ar_46 (by first | exact Nat.ne_of_beq_eq_false rfl | decide)) (by omega) (by omega) (by omega) dX9_drop_96 (fun H locs hw hS => ?_)
                obtain ⟨X30, hX30⟩ : ∃ Xq, Xq = u3 X27 46 0 ((5 * t) + j) (Xa 46 0 (((5 * t) + j) + 1)) := ⟨_, rfl⟩
                rw [← hX30] at hw
                have hRX30 : Rng X30 := by rw [hX30]; exact rng_set hRX27 (show 0 ≤ (Xa 46 0 (((5 * t) + j) + 1)) ∧ (Xa 46 0 (((5 * t) + j) + 1)) ≤ 5 by omega)
                have hVX30 : X30 46 0 ((5 * t) + j) = (Xa 46 0 (((5 * t) + j) + 1)) := by rw [hX30]; exact u3_s _ _ _ _ _
                have hFX30 : Frm [4001, 4500, 4600, 4700, 4800, 4400, 5600] X X30 := by rw [hX30]; exact Frm.set hFX27 (show 4600 ∈ [4001, 4500, 4600, 4700, 4800, 4400, 5600] by first | exact nlm_in rfl | decide)
                refine lv_aload_n hx hb dX9_drop_97 rfl (lv_at hl 0 rfl) ?_
                refine x_geto hx hb hf9 hw (by first | exact Int.le_refl 0 | omega) (by first | exact zlt hc40 | omega) sl_40_6 lk23 dX9_drop_98 ?_
                refine lv_iconst (v := jI 5) hx hb dX9_drop_101 rfl ?_
                refine lv_iload_n hx hb dX9_drop_102 rfl (lv_at hl 1 rfl) ?_
                refine x_imul hx hb dX9_drop_103 ?_
                refine lv_iload_n hx hb dX9_drop_104 rfl (lv_at hl 3 rfl) ?_
                refine x_iadd hx hb dX9_drop_105 ?_
                refine lv_aload_n hx hb dX9_drop_106 rfl (lv_at hl 0 rfl) ?_
                refine x_geto hx hb hf9 hw (by first | exact Int.le_refl 0 | omega) (by first | exact zlt hc40 | omega) sl_40_6 lk23 dX9_drop_107 ?_
                refine lv_iconst (v := jI 5) hx hb dX9_drop_110 rfl ?_
                refine lv_iload_n hx hb dX9_drop_111 rfl (lv_at hl 1 rfl) ?_
                refine x_imul hx hb dX9_drop_112 ?_
                refine lv_iload_n hx hb dX9_drop_113 rfl (lv_at hl 3 rfl) ?_
                refine x_iadd hx hb dX9_drop_114 ?_
                refine lv_iconst (v := jI 1) hx hb dX9_drop_115 rfl ?_
                refine x_iadd hx hb dX9_drop_116 ?_
                refine x_lald hx hb hK.1 hw (by first | exact Int.le_refl 0 | omega) (by first | exact zlt hc47 | omega) ar_47 (len_E ar_47 (by first | exact Nat.ne_of_beq_eq_false rfl | decide)) (by omega) (by omega) (by omega) dX9_drop_117 ?_
                have e31 : ∀ p9 q9 : Int, X30 47 p9 q9 = Xa 47 p9 q9 := fun p9 q9 => by rw [hX30, u3_k _ _ _ _ (by first | exact Nat.ne_of_beq_eq_false rfl | decide), hX27, u3_k _ _ _ _ (by first | exact Nat.ne_of_beq_eq_false rfl | decide)]
                rw [e31 0 (((5 * t) + j) + 1)]
                have f32 : (-9223372036854775808) ≤ Xa 47 0 (((5 * t) + j) + 1) ∧ Xa 47 0 (((5 * t) + j) + 1) ≤ 9223372036854775807 := hRXa 47 0 (((5 * t) + j) + 1)
                refine x_last hx hb hK.1 hw hS (by first | exact Int.le_refl 0 | omega) (by first | exact zlt hc47 | omega) ar_47 (len_E ar_47 (by first | exact Nat.ne_of_beq_eq_false rfl | decide)) (by omega) (by omega) (by omega) dX9_drop_118 (fun H locs hw hS => ?_)
                obtain ⟨X33, hX33⟩ : ∃ Xq, Xq = u3 X30 47 0 ((5 * t) + j) (Xa 47 0 (((5 * t) + j) + 1)) := ⟨_, rfl⟩
                rw [← hX33] at hw
                have hRX33 : Rng X33 := by rw [hX33]; exact rng_set hRX30 (show (-9223372036854775808) ≤ (Xa 47 0 (((5 * t) + j) + 1)) ∧ (Xa 47 0 (((5 * t) + j) + 1)) ≤ 9223372036854775807 by omega)
                have hVX33 : X33 47 0 ((5 * t) + j) = (Xa 47 0 (((5 * t) + j) + 1)) := by rw [hX33]; exact u3_s _ _ _ _ _
                have hFX33 : Frm [4001, 4500, 4600, 4700, 4800, 4400, 5600] X X33 := by rw [hX33]; exact Frm.set hFX30 (show 4700 ∈ [4001, 4500, 4600, 4700, 4800, 4400, 5600] by first | exact nlm_in rfl | decide)
                refine lv_aload_n hx hb dX9_drop_119 rfl (lv_at hl 0 rfl) ?_
                refine x_geto hx hb hf9 hw (by first | exact Int.le_refl 0 | omega) (by first | exact zlt hc40 | omega) sl_40_7 lk27 dX9_drop_120 ?_
                refine lv_iconst (v := jI 5) hx hb dX9_drop_123 rfl ?_
                refine lv_iload_n hx hb dX9_drop_124 rfl (lv_at hl 1 rfl) ?_
                refine x_imul hx hb dX9_drop_125 ?_
                refine lv_iload_n hx hb dX9_drop_126 rfl (lv_at hl 3 rfl) ?_
                refine x_iadd hx hb dX9_drop_127 ?_
                refine lv_aload_n hx hb dX9_drop_128 rfl (lv_at hl 0 rfl) ?_
                refine x_geto hx hb hf9 hw (by first | exact Int.le_refl 0 | omega) (by first | exact zlt hc40 | omega) sl_40_7 lk27 dX9_drop_129 ?_
                refine lv_iconst (v := jI 5) hx hb dX9_drop_132 rfl ?_
                refine lv_iload_n hx hb dX9_drop_133 rfl (lv_at hl 1 rfl) ?_
                refine x_imul hx hb dX9_drop_134 ?_
                refine lv_iload_n hx hb dX9_drop_135 rfl (lv_at hl 3 rfl) ?_
                refine x_iadd hx hb dX9_drop_136 ?_
                refine lv_iconst (v := jI 1) hx hb dX9_drop_137 rfl ?_
                refine x_iadd hx hb dX9_drop_138 ?_
                refine x_zald hx hb hK.1 hw (by first | exact Int.le_refl 0 | omega) (by first | exact zlt hc48 | omega) ar_48 (len_E ar_48 (by first | exact Nat.ne_of_beq_eq_false rfl | decide)) (by omega) (by omega) (by omega) dX9_drop_139 ?_
                have e34 : ∀ p9 q9 : Int, X33 48 p9 q9 = Xa 48 p9 q9 := fun p9 q9 => by rw [hX33, u3_k _ _ _ _ (by first | exact Nat.ne_of_beq_eq_false rfl | decide), hX30, u3_k _ _ _ _ (by first | exact Nat.ne_of_beq_eq_false rfl | decide), hX27, u3_k _ _ _ _ (by first | exact Nat.ne_of_beq_eq_false rfl | decide)]
                rw [e34 0 (((5 * t) + j) + 1)]
                have f35 : 0 ≤ Xa 48 0 (((5 * t) + j) + 1) ∧ Xa 48 0 (((5 * t) + j) + 1) ≤ 1 := hRXa 48 0 (((5 * t) + j) + 1)
                refine x_zast hx hb hK.1 hw hS (by first | exact Int.le_refl 0 | omega) (by first | exact zlt hc48 | omega) ar_48 (len_E ar_48 (by first | exact Nat.ne_of_beq_eq_false rfl | decide)) (by omega) (by omega) (by omega) (by omega) (by omega) dX9_drop_140 (fun H locs hw hS => ?_)
                obtain ⟨X36, hX36⟩ : ∃ Xq, Xq = u3 X33 48 0 ((5 * t) + j) (Xa 48 0 (((5 * t) + j) + 1)) := ⟨_, rfl⟩
                rw [← hX36] at hw
                have hRX36 : Rng X36 := by rw [hX36]; exact rng_set hRX33 (show 0 ≤ (Xa 48 0 (((5 * t) + j) + 1)) ∧ (Xa 48 0 (((5 * t) + j) + 1)) ≤ 1 by omega)
                have hVX36 : X36 48 0 ((5 * t) + j) = (Xa 48 0 (((5 * t) + j) + 1)) := by rw [hX36]; exact u3_s _ _ _ _ _
                have hFX36 : Frm [4001, 4500, 4600, 4700, 4800, 4400, 5600] X X36 := by rw [hX36]; exact Frm.set hFX33 (show 4800 ∈ [4001, 4500, 4600, 4700, 4800, 4400, 5600] by first | exact nlm_in rfl | decide)
                refine lv_iconst (v := jI 0) hx hb dX9_drop_141 rfl ?_
                refine lv_istore (lv' := [(4, .int (jI 0)), (0, .ref (ad 40 0)), (1, .int (jI t)), (2, .int (jI k)), (3, .int (jI j))]) hx hb dX9_drop_142 hl (by decide) rfl (fun ls hl => ?_)
                have lp144 : ∀ (nn : Nat) (x : Int) (Xb : Nat → Int → Int → Int) (H : Heap) (locs : List Loc) (ls : Array Slot), (30 - x) < (nn : Int) → (Rng Xb) → (Frm [5600] X36 Xb) → (0 ≤ x ∧ x ≤ 30) → (Fld Xb t j x) → (DrI X Xb t k j x) → wd D tc base (ad, cnt, Xb, Y, ln) H → va_S (frA base) s.heap H locs → lv_has ls 5 [(0, .ref (ad 40 0)), (1, .int (jI t)), (2, .int (jI k)), (3, .int (jI j)), (4, .int (jI x))] → W p l e ({ frames := 1, cells := 0, slots := 0, locals := 21 } : Room) s m av9 below meth c H locs 0 0 Q9 (F0 m 144 ls []) := by
                  intro nn
                  induction nn with
                  | zero => intro x Xb H locs ls hm hRXb hGXb hx4 hFl hDb hw hS hl; exfalso; omega
                  | succ nn ih144 =>
                    intro x Xb H locs ls hm hRXb hGXb hx4 hFl hDb hw hS hl
                    have hFXb : Frm [4001, 4500, 4600, 4700, 4800, 4400, 5600] X Xb := Frm.tr hFX36 (Frm.mono hGXb (by first | exact nls_of rfl | decide))
                    refine lv_iload hx hb dX9_drop_144 (lv_at hl 4 rfl) ?_
                    refine lv_aload_n hx hb dX9_drop_146 rfl (lv_at hl 0 rfl) ?_
                    refine x_geti (jz := 13) hx hb hf9 hw (by first | exact Int.le_refl 0 | omega) (by first | exact zlt hc40 | omega) sl_40_13 rfl lk151 dX9_drop_147 ?_
                    have e37 : Xb 40 0 13 = X 40 0 13 := by rw [hGXb 40 0 13 (show 4014 ∉ [5600] by first | exact nlm_ni rfl | decide), hX36, u3_k _ _ _ _ (by first | exact Nat.ne_of_beq_eq_false rfl | decide), hX33, u3_k _ _ _ _ (by first | exact Nat.ne_of_beq_eq_false rfl | decide), hX30, u3_k _ _ _ _ (by first | exact Nat.ne_of_beq_eq_false rfl | decide), hX27, u3_k _ _ _ _ (by first | exact Nat.ne_of_beq_eq_false rfl | decide), hGXa 40 0 13 (show 4014 ∉ [4500, 4600, 4700, 4800, 5600] by first | exact nlm_ni rfl | decide), hX1, u3_j _ _ _ _ (by decide)]
                    rw [e37]
                    have f38 : 0 ≤ X 40 0 13 ∧ X 40 0 13 ≤ 30 := hR 40 0 13
                    refine x_icmp_ge (tgt := 208) hx hb (by omega) (by omega) dX9_drop_150 (by decide) (fun c39 => ?_) (fun c39 => ?_)
                    · refine lv_iinc (v := jI (j + 1)) (lv' := [(3, .int (jI (j + 1))), (0, .ref (ad 40 0)), (1, .int (jI t)), (2, .int (jI k)), (4, .int (jI x))]) hx hb dX9_drop_208 hl (k := 3) rfl (jI_add _ _) (by decide) rfl (fun ls hl => ?_)
                      refine lv_goto (tgt := 41) hx hb dX9_drop_211 (by decide) ?_
                      have q40 : Frm [4500, 4600, 4700, 4800, 5600] X1 Xa := Frm.tr Frm.rf (Frm.mono hGXa (by first | exact nls_of rfl | decide))
                      have q41 : Frm [4500, 4600, 4700, 4800, 5600] X1 X27 := by rw [hX27]; exact Frm.set q40 (show 4500 ∈ [4500, 4600, 4700, 4800, 5600] by first | exact nlm_in rfl | decide)
                      have q42 : Frm [4500, 4600, 4700, 4800, 5600] X1 X30 := by rw [hX30]; exact Frm.set q41 (show 4600 ∈ [4500, 4600, 4700, 4800, 5600] by first | exact nlm_in rfl | decide)
                      have q43 : Frm [4500, 4600, 4700, 4800, 5600] X1 X33 := by rw [hX33]; exact Frm.set q42 (show 4700 ∈ [4500, 4600, 4700, 4800, 5600] by first | exact nlm_in rfl | decide)
                      have q44 : Frm [4500, 4600, 4700, 4800, 5600] X1 X36 := by rw [hX36]; exact Frm.set q43 (show 4800 ∈ [4500, 4600, 4700, 4800, 5600] by first | exact nlm_in rfl | decide)
                      have q45 : Frm [4500, 4600, 4700, 4800, 5600] X1 Xb := Frm.tr q44 (Frm.mono hGXb (by first | exact nls_of rfl | decide))
                      exact ih41 (j + 1) Xb _ _ _ (by omega) hRXb q45 (by omega) (hFl.out (by rw [hGXb 40 0 13 (show 4014 ∉ [5600] by first | exact nlm_ni rfl | decide), hX36, u3_k _ _ _ _ (by first | exact Nat.ne_of_beq_eq_false rfl | decide), hX33, u3_k _ _ _ _ (by first | exact Nat.ne_of_beq_eq_false rfl | decide), hX30, u3_k _ _ _ _ (by first | exact Nat.ne_of_beq_eq_false rfl | decide), hX27, u3_k _ _ _ _ (by first | exact Nat.ne_of_beq_eq_false rfl | decide), hGXa 40 0 13 (show 4014 ∉ [4500, 4600, 4700, 4800, 5600] by first | exact nlm_ni rfl | decide), hX1, u3_j _ _ _ _ (by decide)]; omega)) (by rw [show 5 * t + (j + 1) = 5 * t + j + 1 by omega]; exact Sh.step (Xc := Xa) hs45 (by omega) rfl (by rw [(funext fun y9 => funext fun j9 => hGXb 45 y9 j9 (show 4500 ∉ [5600] by first | exact nlm_ni rfl | decide) : Xb 45 = X36 45), hX36, u3_k _ _ _ _ (by first | exact Nat.ne_of_beq_eq_false rfl | decide), hX33, u3_k _ _ _ _ (by first | exact Nat.ne_of_beq_eq_false rfl | decide), hX30, u3_k _ _ _ _ (by first | exact Nat.ne_of_beq_eq_false rfl | decide), hX27]) (by first | rfl | (congr 1))) (by rw [show 5 * t + (j + 1) = 5 * t + j + 1 by omega]; exact Sh.step (Xc := X27) hs46 (by omega) (by rw [hX27, u3_k _ _ _ _ (by first | exact Nat.ne_of_beq_eq_false rfl | decide)]) (by rw [(funext fun y9 => funext fun j9 => hGXb 46 y9 j9 (show 4600 ∉ [5600] by first | exact nlm_ni rfl | decide) : Xb 46 = X36 46), hX36, u3_k _ _ _ _ (by first | exact Nat.ne_of_beq_eq_false rfl | decide), hX33, u3_k _ _ _ _ (by first | exact Nat.ne_of_beq_eq_false rfl | decide), hX30]) (by first | rfl | (congr 1))) (by rw [show 5 * t + (j + 1) = 5 * t + j + 1 by omega]; exact Sh.step (Xc := X30) hs47 (by omega) (by rw [hX30, u3_k _ _ _ _ (by first | exact Nat.ne_of_beq_eq_false rfl | decide), hX27, u3_k _ _ _ _ (by first | exact Nat.ne_of_beq_eq_false rfl | decide)]) (by rw [(funext fun y9 => funext fun j9 => hGXb 47 y9 j9 (show 4700 ∉ [5600] by first | exact nlm_ni rfl | decide) : Xb 47 = X36 47), hX36, u3_k _ _ _ _ (by first | exact Nat.ne_of_beq_eq_false rfl | decide), hX33]) (by first | rfl | (congr 1))) (by rw [show 5 * t + (j + 1) = 5 * t + j + 1 by omega]; exact Sh.step (Xc := X33) hs48 (by omega) (by rw [hX33, u3_k _ _ _ _ (by first | exact Nat.ne_of_beq_eq_false rfl | decide), hX30, u3_k _ _ _ _ (by first | exact Nat.ne_of_beq_eq_false rfl | decide), hX27, u3_k _ _ _ _ (by first | exact Nat.ne_of_beq_eq_false rfl | decide)]) (by rw [(funext fun y9 => funext fun j9 => hGXb 48 y9 j9 (show 4800 ∉ [5600] by first | exact nlm_ni rfl | decide) : Xb 48 = X36 48), hX36]) (by first | rfl | (congr 1))) (DrI.out hDb (by omega)) hw hS (lv_sub hl [1, 2, 3, 0] rfl)
                    · refine lv_aload_n hx hb dX9_drop_153 rfl (lv_at hl 0 rfl) ?_
                      refine x_geto hx hb hf9 hw (by first | exact Int.le_refl 0 | omega) (by first | exact zlt hc40 | omega) sl_40_15 lk48 dX9_drop_154 ?_
                      refine lv_iconst (v := jI 5) hx hb dX9_drop_157 rfl ?_
                      refine lv_iload hx hb dX9_drop_158 (lv_at hl 4 rfl) ?_
                      refine x_imul hx hb dX9_drop_160 ?_
                      refine lv_iload_n hx hb dX9_drop_161 rfl (lv_at hl 3 rfl) ?_
                      refine x_iadd hx hb dX9_drop_162 ?_
                      refine lv_aload_n hx hb dX9_drop_163 rfl (lv_at hl 0 rfl) ?_
                      refine x_geto hx hb hf9 hw (by first | exact Int.le_refl 0 | omega) (by first | exact zlt hc40 | omega) sl_40_14 lk45 dX9_drop_164 ?_
                      refine lv_iload hx hb dX9_drop_167 (lv_at hl 4 rfl) ?_
                      refine x_iald hx hb hK.1 hw (by first | exact Int.le_refl 0 | omega) (by first | exact zlt hc55 | omega) ar_55 (len_E ar_55 (by first | exact Nat.ne_of_beq_eq_false rfl | decide)) (by omega) (by omega) (by omega) dX9_drop_169 ?_
                      have e46 : ∀ p9 q9 : Int, Xb 55 p9 q9 = X 55 p9 q9 := fun p9 q9 => by rw [hGXb 55 p9 q9 (show 5500 ∉ [5600] by first | exact nlm_ni rfl | decide), hX36, u3_k _ _ _ _ (by first | exact Nat.ne_of_beq_eq_false rfl | decide), hX33, u3_k _ _ _ _ (by first | exact Nat.ne_of_beq_eq_false rfl | decide), hX30, u3_k _ _ _ _ (by first | exact Nat.ne_of_beq_eq_false rfl | decide), hX27, u3_k _ _ _ _ (by first | exact Nat.ne_of_beq_eq_false rfl | decide), hGXa 55 p9 q9 (show 5500 ∉ [4500, 4600, 4700, 4800, 5600] by first | exact nlm_ni rfl | decide), hX1, u3_k _ _ _ _ (by first | exact Nat.ne_of_beq_eq_false rfl | decide)]
                      rw [e46 0 x]
                      have f47 : 0 ≤ X 55 0 x ∧ X 55 0 x ≤ 7 := hR 55 0 x
                      refine lv_iload_n hx hb dX9_drop_170 rfl (lv_at hl 1 rfl) ?_
                      refine x_icmp_ne (tgt := 190) hx hb (by omega) (by omega) dX9_drop_171 (by decide) (fun c48 => ?_) (fun c48 => ?_)
                      · refine lv_aload_n hx hb dX9_drop_190 rfl (lv_at hl 0 rfl) ?_
                        refine x_geto hx hb hf9 hw (by first | exact Int.le_refl 0 | omega) (by first | exact zlt hc40 | omega) sl_40_15 lk48 dX9_drop_191 ?_
                        refine lv_iconst (v := jI 5) hx hb dX9_drop_194 rfl ?_
                        refine lv_iload hx hb dX9_drop_195 (lv_at hl 4 rfl) ?_
                        refine x_imul hx hb dX9_drop_197 ?_
                        refine lv_iload_n hx hb dX9_drop_198 rfl (lv_at hl 3 rfl) ?_
                        refine x_iadd hx hb dX9_drop_199 ?_
                        refine x_lald hx hb hK.1 hw (by first | exact Int.le_refl 0 | omega) (by first | exact zlt hc56 | omega) ar_56 (len_E ar_56 (by first | exact Nat.ne_of_beq_eq_false rfl | decide)) (by omega) (by omega) (by omega) dX9_drop_200 ?_
                        have f49 : (-9223372036854775808) ≤ Xb 56 0 ((5 * x) + j) ∧ Xb 56 0 ((5 * x) + j) ≤ 9223372036854775807 := hRXb 56 0 ((5 * x) + j)
                        refine x_last hx hb hK.1 hw hS (by first | exact Int.le_refl 0 | omega) (by first | exact zlt hc56 | omega) ar_56 (len_E ar_56 (by first | exact Nat.ne_of_beq_eq_false rfl | decide)) (by omega) (by omega) (by omega) dX9_drop_201 (fun H locs hw hS => ?_)
                        obtain ⟨X50, hX50⟩ : ∃ Xq, Xq = u3 Xb 56 0 ((5 * x) + j) (Xb 56 0 ((5 * x) + j)) := ⟨_, rfl⟩
                        rw [← hX50] at hw
                        have hRX50 : Rng X50 := by rw [hX50]; exact rng_set hRXb (show (-9223372036854775808) ≤ (Xb 56 0 ((5 * x) + j)) ∧ (Xb 56 0 ((5 * x) + j)) ≤ 9223372036854775807 by omega)
                        have hVX50 : X50 56 0 ((5 * x) + j) = (Xb 56 0 ((5 * x) + j)) := by rw [hX50]; exact u3_s _ _ _ _ _
                        have hFX50 : Frm [4001, 4500, 4600, 4700, 4800, 4400, 5600] X X50 := by rw [hX50]; exact Frm.set hFXb (show 5600 ∈ [4001, 4500, 4600, 4700, 4800, 4400, 5600] by first | exact nlm_in rfl | decide)
                        refine lv_iinc (v := jI (x + 1)) (lv' := [(4, .int (jI (x + 1))), (0, .ref (ad 40 0)), (1, .int (jI t)), (2, .int (jI k)), (3, .int (jI j))]) hx hb dX9_drop_202 hl (k := 4) rfl (jI_add _ _) (by decide) rfl (fun ls hl => ?_)
                        refine lv_goto (tgt := 144) hx hb dX9_drop_205 (by decide) ?_
                        have q51 : Frm [5600] X36 Xb := Frm.tr Frm.rf (Frm.mono hGXb (by first | exact nls_of rfl | decide))
                        have q52 : Frm [5600] X36 X50 := by rw [hX50]; exact Frm.set q51 (show 5600 ∈ [5600] by first | exact nlm_in rfl | decide)
                        exact ih144 (x + 1) X50 _ _ _ (by omega) hRX50 q52 (by omega) ((by first | (rw [hX50, u3_id]; exact hFl.skip (by rw [hGXb 55 0 x (show 5500 ∉ [5600] by first | exact nlm_ni rfl | decide), hX36, u3_k _ _ _ _ (by first | exact Nat.ne_of_beq_eq_false rfl | decide), hX33, u3_k _ _ _ _ (by first | exact Nat.ne_of_beq_eq_false rfl | decide), hX30, u3_k _ _ _ _ (by first | exact Nat.ne_of_beq_eq_false rfl | decide), hX27, u3_k _ _ _ _ (by first | exact Nat.ne_of_beq_eq_false rfl | decide), hGXa 55 0 x (show 5500 ∉ [4500, 4600, 4700, 4800, 5600] by first | exact nlm_ni rfl | decide), hX1, u3_k _ _ _ _ (by first | exact Nat.ne_of_beq_eq_false rfl | decide)]; omega)) | (rw [hX50]; exact hFl.step_drop hRXb ⟨by omega, (by rw [hGXb 40 0 13 (show 4014 ∉ [5600] by first | exact nlm_ni rfl | decide), hX36, u3_k _ _ _ _ (by first | exact Nat.ne_of_beq_eq_false rfl | decide), hX33, u3_k _ _ _ _ (by first | exact Nat.ne_of_beq_eq_false rfl | decide), hX30, u3_k _ _ _ _ (by first | exact Nat.ne_of_beq_eq_false rfl | decide), hX27, u3_k _ _ _ _ (by first | exact Nat.ne_of_beq_eq_false rfl | decide), hGXa 40 0 13 (show 4014 ∉ [4500, 4600, 4700, 4800, 5600] by first | exact nlm_ni rfl | decide), hX1, u3_j _ _ _ _ (by decide)]; omega)⟩ (by rw [hGXb 55 0 x (show 5500 ∉ [5600] by first | exact nlm_ni rfl | decide), hX36, u3_k _ _ _ _ (by first | exact Nat.ne_of_beq_eq_false rfl | decide), hX33, u3_k _ _ _ _ (by first | exact Nat.ne_of_beq_eq_false rfl | decide), hX30, u3_k _ _ _ _ (by first | exact Nat.ne_of_beq_eq_false rfl | decide), hX27, u3_k _ _ _ _ (by first | exact Nat.ne_of_beq_eq_false rfl | decide), hGXa 55 0 x (show 5500 ∉ [4500, 4600, 4700, 4800, 5600] by first | exact nlm_ni rfl | decide), hX1, u3_k _ _ _ _ (by first | exact Nat.ne_of_beq_eq_false rfl | decide)]; omega) ⟨by omega, (by rw [hGXb 44 0 t (show 4400 ∉ [5600] by first | exact nlm_ni rfl | decide), hX36, u3_k _ _ _ _ (by first | exact Nat.ne_of_beq_eq_false rfl | decide), hX33, u3_k _ _ _ _ (by first | exact Nat.ne_of_beq_eq_false rfl | decide), hX30, u3_k _ _ _ _ (by first | exact Nat.ne_of_beq_eq_false rfl | decide), hX27, u3_k _ _ _ _ (by first | exact Nat.ne_of_beq_eq_false rfl | decide), hGXa 44 0 t (show 4400 ∉ [4500, 4600, 4700, 4800, 5600] by first | exact nlm_ni rfl | decide), hX1, u3_k _ _ _ _ (by first | exact Nat.ne_of_beq_eq_false rfl | decide)]; omega)⟩ (by rw [show Xb 46 0 (5 * t + j) = Xa 46 0 (5 * t + (j + 1)) from (by rw [hGXb 46 0 (5 * t + j) (show 4600 ∉ [5600] by first | exact nlm_ni rfl | decide), hX36, u3_k _ _ _ _ (by first | exact Nat.ne_of_beq_eq_false rfl | decide), hX33, u3_k _ _ _ _ (by first | exact Nat.ne_of_beq_eq_false rfl | decide)]; rw [hVX30, Int.add_assoc]), show Xb 46 0 (5 * t + (j + 1)) = Xa 46 0 (5 * t + (j + 1)) from (by rw [hGXb 46 0 (5 * t + (j + 1)) (show 4600 ∉ [5600] by first | exact nlm_ni rfl | decide), hX36, u3_k _ _ _ _ (by first | exact Nat.ne_of_beq_eq_false rfl | decide), hX33, u3_k _ _ _ _ (by first | exact Nat.ne_of_beq_eq_false rfl | decide), hX30, u3_j _ _ _ _ (by omega), hX27, u3_k _ _ _ _ (by first | exact Nat.ne_of_beq_eq_false rfl | decide)])])))) ((by first | exact DrI.no hDb (fun q => by omega) hX50 | exact DrI.yes (v := (Xb 56 0 ((5 * x) + j))) hDb ⟨by omega, by omega⟩ ⟨by omega, by omega⟩ (by omega) (by omega) hX50 rfl)) hw hS (lv_sub hl [1, 2, 3, 4, 0] rfl)
                      · refine lv_aload_n hx hb dX9_drop_174 rfl (lv_at hl 0 rfl) ?_
                        refine x_geto hx hb hf9 hw (by first | exact Int.le_refl 0 | omega) (by first | exact zlt hc40 | omega) sl_40_15 lk48 dX9_drop_175 ?_
                        refine lv_iconst (v := jI 5) hx hb dX9_drop_178 rfl ?_
                        refine lv_iload hx hb dX9_drop_179 (lv_at hl 4 rfl) ?_
                        refine x_imul hx hb dX9_drop_181 ?_
                        refine lv_iload_n hx hb dX9_drop_182 rfl (lv_at hl 3 rfl) ?_
                        refine x_iadd hx hb dX9_drop_183 ?_
                        refine lv_iconst (v := jI 1) hx hb dX9_drop_184 rfl ?_
                        refine x_iadd hx hb dX9_drop_185 ?_
                        refine x_lald hx hb hK.1 hw (by first | exact Int.le_refl 0 | omega) (by first | exact zlt hc56 | omega) ar_56 (len_E ar_56 (by first | exact Nat.ne_of_beq_eq_false rfl | decide)) (by omega) (by omega) (by omega) dX9_drop_186 ?_
                        have f53 : (-9223372036854775808) ≤ Xb 56 0 (((5 * x) + j) + 1) ∧ Xb 56 0 (((5 * x) + j) + 1) ≤ 9223372036854775807 := hRXb 56 0 (((5 * x) + j) + 1)
                        refine lv_goto (tgt := 201) hx hb dX9_drop_187 (by decide) ?_
                        refine x_last hx hb hK.1 hw hS (by first | exact Int.le_refl 0 | omega) (by first | exact zlt hc56 | omega) ar_56 (len_E ar_56 (by first | exact Nat.ne_of_beq_eq_false rfl | decide)) (by omega) (by omega) (by omega) dX9_drop_201 (fun H locs hw hS => ?_)
                        obtain ⟨X54, hX54⟩ : ∃ Xq, Xq = u3 Xb 56 0 ((5 * x) + j) (Xb 56 0 (((5 * x) + j) + 1)) := ⟨_, rfl⟩
                        rw [← hX54] at hw
                        have hRX54 : Rng X54 := by rw [hX54]; exact rng_set hRXb (show (-9223372036854775808) ≤ (Xb 56 0 (((5 * x) + j) + 1)) ∧ (Xb 56 0 (((5 * x) + j) + 1)) ≤ 9223372036854775807 by omega)
                        have hVX54 : X54 56 0 ((5 * x) + j) = (Xb 56 0 (((5 * x) + j) + 1)) := by rw [hX54]; exact u3_s _ _ _ _ _
                        have hFX54 : Frm [4001, 4500, 4600, 4700, 4800, 4400, 5600] X X54 := by rw [hX54]; exact Frm.set hFXb (show 5600 ∈ [4001, 4500, 4600, 4700, 4800, 4400, 5600] by first | exact nlm_in rfl | decide)
                        refine lv_iinc (v := jI (x + 1)) (lv' := [(4, .int (jI (x + 1))), (0, .ref (ad 40 0)), (1, .int (jI t)), (2, .int (jI k)), (3, .int (jI j))]) hx hb dX9_drop_202 hl (k := 4) rfl (jI_add _ _) (by decide) rfl (fun ls hl => ?_)
                        refine lv_goto (tgt := 144) hx hb dX9_drop_205 (by decide) ?_
                        have q55 : Frm [5600] X36 Xb := Frm.tr Frm.rf (Frm.mono hGXb (by first | exact nls_of rfl | decide))
                        have q56 : Frm [5600] X36 X54 := by rw [hX54]; exact Frm.set q55 (show 5600 ∈ [5600] by first | exact nlm_in rfl | decide)
                        exact ih144 (x + 1) X54 _ _ _ (by omega) hRX54 q56 (by omega) ((by first | (rw [hX54, u3_id]; exact hFl.skip (by rw [hGXb 55 0 x (show 5500 ∉ [5600] by first | exact nlm_ni rfl | decide), hX36, u3_k _ _ _ _ (by first | exact Nat.ne_of_beq_eq_false rfl | decide), hX33, u3_k _ _ _ _ (by first | exact Nat.ne_of_beq_eq_false rfl | decide), hX30, u3_k _ _ _ _ (by first | exact Nat.ne_of_beq_eq_false rfl | decide), hX27, u3_k _ _ _ _ (by first | exact Nat.ne_of_beq_eq_false rfl | decide), hGXa 55 0 x (show 5500 ∉ [4500, 4600, 4700, 4800, 5600] by first | exact nlm_ni rfl | decide), hX1, u3_k _ _ _ _ (by first | exact Nat.ne_of_beq_eq_false rfl | decide)]; omega)) | (rw [hX54]; exact hFl.step_drop hRXb ⟨by omega, (by rw [hGXb 40 0 13 (show 4014 ∉ [5600] by first | exact nlm_ni rfl | decide), hX36, u3_k _ _ _ _ (by first | exact Nat.ne_of_beq_eq_false rfl | decide), hX33, u3_k _ _ _ _ (by first | exact Nat.ne_of_beq_eq_false rfl | decide), hX30, u3_k _ _ _ _ (by first | exact Nat.ne_of_beq_eq_false rfl | decide), hX27, u3_k _ _ _ _ (by first | exact Nat.ne_of_beq_eq_false rfl | decide), hGXa 40 0 13 (show 4014 ∉ [4500, 4600, 4700, 4800, 5600] by first | exact nlm_ni rfl | decide), hX1, u3_j _ _ _ _ (by decide)]; omega)⟩ (by rw [hGXb 55 0 x (show 5500 ∉ [5600] by first | exact nlm_ni rfl | decide), hX36, u3_k _ _ _ _ (by first | exact Nat.ne_of_beq_eq_false rfl | decide), hX33, u3_k _ _ _ _ (by first | exact Nat.ne_of_beq_eq_false rfl | decide), hX30, u3_k _ _ _ _ (by first | exact Nat.ne_of_beq_eq_false rfl | decide), hX27, u3_k _ _ _ _ (by first | exact Nat.ne_of_beq_eq_false rfl | decide), hGXa 55 0 x (show 5500 ∉ [4500, 4600, 4700, 4800, 5600] by first | exact nlm_ni rfl | decide), hX1, u3_k _ _ _ _ (by first | exact Nat.ne_of_beq_eq_false rfl | decide)]; omega) ⟨by omega, (by rw [hGXb 44 0 t (show 4400 ∉ [5600] by first | exact nlm_ni rfl | decide), hX36, u3_k _ _ _ _ (by first | exact Nat.ne_of_beq_eq_false rfl | decide), hX33, u3_k _ _ _ _ (by first | exact Nat.ne_of_beq_eq_false rfl | decide), hX30, u3_k _ _ _ _ (by first | exact Nat.ne_of_beq_eq_false rfl | decide), hX27, u3_k _ _ _ _ (by first | exact Nat.ne_of_beq_eq_false rfl | decide), hGXa 44 0 t (show 4400 ∉ [4500, 4600, 4700, 4800, 5600] by first | exact nlm_ni rfl | decide), hX1, u3_k _ _ _ _ (by first | exact Nat.ne_of_beq_eq_false rfl | decide)]; omega)⟩ (by rw [show Xb 46 0 (5 * t + j) = Xa 46 0 (5 * t + (j + 1)) from (by rw [hGXb 46 0 (5 * t + j) (show 4600 ∉ [5600] by first | exact nlm_ni rfl | decide), hX36, u3_k _ _ _ _ (by first | exact Nat.ne_of_beq_eq_false rfl | decide), hX33, u3_k _ _ _ _ (by first | exact Nat.ne_of_beq_eq_false rfl | decide)]; rw [hVX30, Int.add_assoc]), show Xb 46 0 (5 * t + (j + 1)) = Xa 46 0 (5 * t + (j + 1)) from (by rw [hGXb 46 0 (5 * t + (j + 1)) (show 4600 ∉ [5600] by first | exact nlm_ni rfl | decide), hX36, u3_k _ _ _ _ (by first | exact Nat.ne_of_beq_eq_false rfl | decide), hX33, u3_k _ _ _ _ (by first | exact Nat.ne_of_beq_eq_false rfl | decide), hX30, u3_j _ _ _ _ (by omega), hX27, u3_k _ _ _ _ (by first | exact Nat.ne_of_beq_eq_false rfl | decide)])])))) ((by first | exact DrI.no hDb (fun q => by omega) hX54 | exact DrI.yes (v := (Xb 56 0 (((5 * x) + j) + 1))) hDb ⟨by omega, by omega⟩ ⟨by omega, by omega⟩ (by omega) (by omega) hX54 rfl)) hw hS (lv_sub hl [1, 2, 3, 4, 0] rfl)
                have q57 : Frm [4500, 4600, 4700, 4800] Xa X27 := by rw [hX27]; exact Frm.set Frm.rf (show 4500 ∈ [4500, 4600, 4700, 4800] by first | exact nlm_in rfl | decide)
                have q58 : Frm [4500, 4600, 4700, 4800] Xa X30 := by rw [hX30]; exact Frm.set q57 (show 4600 ∈ [4500, 4600, 4700, 4800] by first | exact nlm_in rfl | decide)
                have q59 : Frm [4500, 4600, 4700, 4800] Xa X33 := by rw [hX33]; exact Frm.set q58 (show 4700 ∈ [4500, 4600, 4700, 4800] by first | exact nlm_in rfl | decide)
                have q60 : Frm [4500, 4600, 4700, 4800] Xa X36 := by rw [hX36]; exact Frm.set q59 (show 4800 ∈ [4500, 4600, 4700, 4800] by first | exact nlm_in rfl | decide)
                exact lp144 (30 - 0 : Int).toNat.succ 0 X36 _ _ _ (by omega) hRX36 Frm.rf (by omega) (Fld.in_drop hMIXa hRXa (by rw [hGXa 40 0 20 (show 4021 ∉ [4500, 4600, 4700, 4800, 5600] by first | exact nlm_ni rfl | decide), hX1, u3_j _ _ _ _ (by decide)]; omega) (by omega) ⟨by omega, (by rw [hGXa 44 0 t (show 4400 ∉ [4500, 4600, 4700, 4800, 5600] by first | exact nlm_ni rfl | decide), hX1, u3_k _ _ _ _ (by first | exact Nat.ne_of_beq_eq_false rfl | decide)]; omega)⟩ q60 (fun q hq => ⟨(by rw [hX36, u3_k _ _ _ _ (by first | exact Nat.ne_of_beq_eq_false rfl | decide), hX33, u3_k _ _ _ _ (by first | exact Nat.ne_of_beq_eq_false rfl | decide), hX30, u3_j _ _ _ _ hq, hX27, u3_k _ _ _ _ (by first | exact Nat.ne_of_beq_eq_false rfl | decide)]), (by rw [hX36, u3_k _ _ _ _ (by first | exact Nat.ne_of_beq_eq_false rfl | decide), hX33, u3_j _ _ _ _ hq, hX30, u3_k _ _ _ _ (by first | exact Nat.ne_of_beq_eq_false rfl | decide), hX27, u3_k _ _ _ _ (by first | exact Nat.ne_of_beq_eq_false rfl | decide)])⟩) ⟨(by rw [hX36, u3_k _ _ _ _ (by first | exact Nat.ne_of_beq_eq_false rfl | decide), hX33, u3_k _ _ _ _ (by first | exact Nat.ne_of_beq_eq_false rfl | decide)]; rw [hVX30, Int.add_assoc]), (by rw [hX36, u3_k _ _ _ _ (by first | exact Nat.ne_of_beq_eq_false rfl | decide)]; rw [hVX33, Int.add_assoc])⟩) (DrI.of hDa (fun p => (by rw [hX36, u3_k _ _ _ _ (by first | exact Nat.ne_of_beq_eq_false rfl | decide), hX33, u3_k _ _ _ _ (by first | exact Nat.ne_of_beq_eq_false rfl | decide), hX30, u3_k _ _ _ _ (by first | exact Nat.ne_of_beq_eq_false rfl | decide), hX27, u3_k _ _ _ _ (by first | exact Nat.ne_of_beq_eq_false rfl | decide)]))) hw hS (lv_sub hl [1, 2, 3, 4, 0] rfl)
          have hMq61 : MInv X1 := minv_frm hMI q900039 (by decide)
          exact lp41 (5 - k : Int).toNat.succ k X1 _ _ _ (by omega) hRX1 Frm.rf (by omega) (hMq61) (Sh.in_ (by rw [hX1, u3_k _ _ _ _ (by first | exact Nat.ne_of_beq_eq_false rfl | decide)])) (Sh.in_ (by rw [hX1, u3_k _ _ _ _ (by first | exact Nat.ne_of_beq_eq_false rfl | decide)])) (Sh.in_ (by rw [hX1, u3_k _ _ _ _ (by first | exact Nat.ne_of_beq_eq_false rfl | decide)])) (Sh.in_ (by rw [hX1, u3_k _ _ _ _ (by first | exact Nat.ne_of_beq_eq_false rfl | decide)])) (DrI.in_ (fun p => (by rw [hX1, u3_k _ _ _ _ (by first | exact Nat.ne_of_beq_eq_false rfl | decide)]))) hw hS (lv_sub hl [1, 2, 3, 0] rfl)
        · refine lv_bipush (v := jI (-3)) hx hb dX9_drop_36 (by decide) ?_
          rw [hQ9]
          refine ret_i (mc := 0) (ms := 0) hx hb hr hlocks hw hS (by first | exact Nat.le_of_ble_eq_true rfl | omega) (by first | exact Nat.le_of_ble_eq_true rfl | omega) dX9_drop_38 ?_
          have hMq63 : MInv X1 := minv_frm hMI q900039 (by decide)
          have e65 : X1 44 0 t = X 44 0 t := (by rw [hX1, u3_k _ _ _ _ (by first | exact Nat.ne_of_beq_eq_false rfl | decide)])
          exact ⟨X1, rfl, hRX1, hFX1, hMq63, by omega, (by (try delta Hid at *); first | exact Or.inr (Or.inl ⟨by omega, by omega, by omega, by omega, by omega, by omega, by omega⟩) | exact Or.inr (Or.inr ((⟨by omega, by omega, by omega, by omega, by omega, by omega, by omega⟩))) | omega), fun h => (by exfalso; omega), fun _ y => ⟨(by rw [hX1, u3_k _ _ _ _ (by first | exact Nat.ne_of_beq_eq_false rfl | decide)]), (by rw [hX1, u3_k _ _ _ _ (by first | exact Nat.ne_of_beq_eq_false rfl | decide)]), (by rw [hX1, u3_k _ _ _ _ (by first | exact Nat.ne_of_beq_eq_false rfl | decide)]), (by rw [hX1, u3_k _ _ _ _ (by first | exact Nat.ne_of_beq_eq_false rfl | decide)])⟩, fun y h => (by rw [hX1, u3_k _ _ _ _ (by first | exact Nat.ne_of_beq_eq_false rfl | decide)]), fun q => (by exfalso; omega), fun _ => q900039⟩
      · refine lv_iconst (v := jI (-1)) hx hb dX9_drop_27 rfl ?_
        rw [hQ9]
        refine ret_i (mc := 0) (ms := 0) hx hb hr hlocks hw hS (by first | exact Nat.le_of_ble_eq_true rfl | omega) (by first | exact Nat.le_of_ble_eq_true rfl | omega) dX9_drop_28 ?_
        have hMq67 : MInv X1 := minv_frm hMI q900039 (by decide)
        have e69 : X1 44 0 t = X 44 0 t := (by rw [hX1, u3_k _ _ _ _ (by first | exact Nat.ne_of_beq_eq_false rfl | decide)])
        exact ⟨X1, rfl, hRX1, hFX1, hMq67, by omega, (by (try delta Hid at *); first | exact Or.inl ⟨(fun q => by omega), by omega, by omega⟩ | exact Or.inr (Or.inr ((⟨by omega, by omega, by omega, by omega, by omega, by omega, by omega⟩))) | omega), fun h => (by exfalso; omega), fun _ y => ⟨(by rw [hX1, u3_k _ _ _ _ (by first | exact Nat.ne_of_beq_eq_false rfl | decide)]), (by rw [hX1, u3_k _ _ _ _ (by first | exact Nat.ne_of_beq_eq_false rfl | decide)]), (by rw [hX1, u3_k _ _ _ _ (by first | exact Nat.ne_of_beq_eq_false rfl | decide)]), (by rw [hX1, u3_k _ _ _ _ (by first | exact Nat.ne_of_beq_eq_false rfl | decide)])⟩, fun y h => (by rw [hX1, u3_k _ _ _ _ (by first | exact Nat.ne_of_beq_eq_false rfl | decide)]), fun q => (by exfalso; omega), fun _ => q900039⟩
  · subst ez2
    refine x_if_eqT (tgt := 27) hx hb (by omega) (by decide) dX9_drop_10 (by decide) ?_
    refine lv_iconst (v := jI (-1)) hx hb dX9_drop_27 rfl ?_
    rw [hQ9]
    refine ret_i (mc := 0) (ms := 0) hx hb hr hlocks hw hS (by first | exact Nat.le_of_ble_eq_true rfl | omega) (by first | exact Nat.le_of_ble_eq_true rfl | omega) dX9_drop_28 ?_
    have hMq71 : MInv X1 := minv_frm hMI q900039 (by decide)
    have e73 : X1 44 0 t = X 44 0 t := (by rw [hX1, u3_k _ _ _ _ (by first | exact Nat.ne_of_beq_eq_false rfl | decide)])
    exact ⟨X1, rfl, hRX1, hFX1, hMq71, by omega, (by (try delta Hid at *); first | exact Or.inl ⟨(fun q => by omega), by omega, by omega⟩ | exact Or.inr (Or.inr ((⟨by omega, by omega, by omega, by omega, by omega, by omega, by omega⟩))) | omega), fun h => (by exfalso; omega), fun _ y => ⟨(by rw [hX1, u3_k _ _ _ _ (by first | exact Nat.ne_of_beq_eq_false rfl | decide)]), (by rw [hX1, u3_k _ _ _ _ (by first | exact Nat.ne_of_beq_eq_false rfl | decide)]), (by rw [hX1, u3_k _ _ _ _ (by first | exact Nat.ne_of_beq_eq_false rfl | decide)]), (by rw [hX1, u3_k _ _ _ _ (by first | exact Nat.ne_of_beq_eq_false rfl | decide)])⟩, fun y h => (by rw [hX1, u3_k _ _ _ _ (by first | exact Nat.ne_of_beq_eq_false rfl | decide)]), fun q => (by exfalso; omega), fun _ => q900039⟩
end
section
set_option maxHeartbeats 4000000 in
set_option maxRecDepth 100000 in
theorem c_X9_newRow (l : Launch) (D : va_G) (tc : Nat → ClassId) (base : Nat) (ad : Nat → Int → Nat) (cnt : Nat → Int) (X : Nat → Int → Int → Int) (Y : Nat → Int → Int → Option Int) (ln : Int → Int) (hR : Rng X) (hFx : Fx cnt) (hMI : MInv X) (lane n : Int) (hlane : 0 ≤ lane ∧ lane ≤ 5) (hn : 0 ≤ n ∧ n ≤ 12) : KI l D tc base yX9_newRow wsX9_newRow ({ frames := 1, cells := 0, slots := 0, locals := 22 } : Room) [.ref (ad 40 0), .int (jI lane), .int (jI n)] (ad, cnt, X, Y, ln) 0 0 (fun z u => ∃ X1 : Nat → Int → Int → Int, u = (ad, cnt, X1, Y, ln) ∧ Rng X1 ∧ Frm [6000, 5700, 5800, 5900] X X1 ∧ MInv X1 ∧ (0 ≤ z ∧ z ≤ 399) ∧ nwM X X1 lane n z) := by
  refine K_of (cc := cX9_newRow) (maxL := 5) (ret := (some .int)) (by decide) rfl (Nat.le_of_ble_eq_true rfl) ?_
  intro p e s m below meth c ls hx hb hr hml hown hts hlocks hl hK hw hS
  have hown : s.vm.findClass RX9 = some m.cls := hown
  obtain ⟨av9, hav9⟩ : ∃ a9 : Array Value, a9 = ([.ref (ad 40 0), .int (jI lane), .int (jI n)] : List Value).toArray := ⟨_, rfl⟩
  rw [← hav9] at hts ⊢
  obtain ⟨Q9, hQ9⟩ : ∃ q9Q : State → Prop, q9Q = MQ below (QI D tc base (fun z u => ∃ X1 : Nat → Int → Int → Int, u = (ad, cnt, X1, Y, ln) ∧ Rng X1 ∧ Frm [6000, 5700, 5800, 5900] X X1 ∧ MInv X1 ∧ (0 ≤ z ∧ z ≤ 399) ∧ nwM X X1 lane n z)) av9 s 0 0 (frA base) := ⟨_, rfl⟩
  rw [← hQ9]
  have hi9 : ∀ w ∈ wsX90, w ∈ wsX9_newRow := fun w h => List.mem_cons_of_mem _ (List.mem_append_right _ h)
  have hf9 : fctx s m _ RX9 wsX9_newRow D tc RX9 TX9 51 9 := ⟨hts, hi9, hown, hK.1, rfl⟩
  have lk13 := hts (.fieldLink RX9 13 (TX9 3).1 (TX9 3).2.1 (TX9 3).2.2.1) (gj_X9_newRow_0 _ (gp_1 (gp_1 gp_h)))
  have lk45 := hts (.fieldLink RX9 45 (TX9 14).1 (TX9 14).2.1 (TX9 14).2.2.1) (gj_X9_newRow_0 _ (gp_1 (gp_1 (gp_1 gp_h))))
  have lk48 := hts (.fieldLink RX9 48 (TX9 15).1 (TX9 15).2.1 (TX9 15).2.2.1) (gj_X9_newRow_0 _ (gp_4 gp_h))
  have lk51 := hts (.fieldLink RX9 51 (TX9 16).1 (TX9 16).2.1 (TX9 16).2.2.1) (gj_X9_newRow_0 _ (gp_4 (gp_1 (gp_1 (gp_1 gp_h)))))
  have lk54 := hts (.fieldLink RX9 54 (TX9 17).1 (TX9 17).2.1 (TX9 17).2.2.1) (gj_X9_newRow_0 _ (gp_4 (gp_4 gp_h)))
  have lk57 := hts (.fieldLink RX9 57 (TX9 18).1 (TX9 18).2.1 (TX9 18).2.2.1) (gj_X9_newRow_0 _ (gp_4 (gp_4 (gp_1 gp_h))))
  have lk60 := hts (.fieldLink RX9 60 (TX9 19).1 (TX9 19).2.1 (TX9 19).2.2.1) (gj_X9_newRow_0 _ (gp_h))
  have lk72 := hts (.fieldLink RX9 72 (TX9 25).1 (TX9 25).2.1 (TX9 25).2.2.1) (gj_X9_newRow_0 _ (gp_4 (gp_1 (gp_1 gp_h))))
  have lk151 := hts (.fieldLink RX9 151 (TX9 13).1 (TX9 13).2.1 (TX9 13).2.2.1) (gj_X9_newRow_0 _ (gp_1 gp_h))
  have lk173 := hts (.fieldLink RX9 173 (TX9 22).1 (TX9 22).2.1 (TX9 22).2.2.1) (gj_X9_newRow_0 _ (gp_4 (gp_1 gp_h)))
  have hc40 : cnt 40 = 1 := hFx.at 40 1 (by decide)
  have hc44 : cnt 44 = 1 := hFx.at 44 1 (by decide)
  have hc55 : cnt 55 = 1 := hFx.at 55 1 (by decide)
  have hc56 : cnt 56 = 1 := hFx.at 56 1 (by decide)
  have hc57 : cnt 57 = 1 := hFx.at 57 1 (by decide)
  have hc58 : cnt 58 = 1 := hFx.at 58 1 (by decide)
  have hc59 : cnt 59 = 1 := hFx.at 59 1 (by decide)
  have hc60 : cnt 60 = 1 := hFx.at 60 1 (by decide)
  have hc66 : cnt 66 = 1 := hFx.at 66 1 (by decide)
  have hl : lv_has ls 5 [(0, .ref (ad 40 0)), (1, .int (jI lane)), (2, .int (jI n))] := hl
  have fstypes : 0 ≤ X 40 0 2 ∧ X 40 0 2 ≤ 8 := hR 40 0 2
  have fsthings : 0 ≤ X 40 0 13 ∧ X 40 0 13 ≤ 30 := hR 40 0 13
  have fsmarks : 0 ≤ X 40 0 20 ∧ X 40 0 20 ≤ 4 := hR 40 0 20
  have fsnotes : 0 ≤ X 40 0 22 ∧ X 40 0 22 ≤ 80 := hR 40 0 22
  refine lv_iconst (v := jI 0) hx hb dX9_newRow_0 rfl ?_
  refine lv_istore_n (lv' := [(3, .int (jI 0)), (0, .ref (ad 40 0)), (1, .int (jI lane)), (2, .int (jI n))]) hx hb dX9_newRow_1 rfl hl (by decide) rfl (fun ls hl => ?_)
  have lp2 : ∀ (nn : Nat) (k : Int) (Xa : Nat → Int → Int → Int) (H : Heap) (locs : List Loc) (ls : Array Slot), (400 - k) < (nn : Int) → (Rng Xa) → (Frm [6000] X Xa) → (0 ≤ k ∧ k ≤ 400) → (∀ j, 0 ≤ j → j < k → Xa 60 0 j = 0) → wd D tc base (ad, cnt, Xa, Y, ln) H → va_S (frA base) s.heap H locs → lv_has ls 5 [(0, .ref (ad 40 0)), (1, .int (jI lane)), (2, .int (jI n)), (3, .int (jI k))] → W p l e ({ frames := 1, cells := 0, slots := 0, locals := 22 } : Room) s m av9 below meth c H locs 0 0 Q9 (F0 m 2 ls []) := by
    intro nn
    induction nn with
    | zero => intro k Xa H locs ls hm hRXa hGXa hk hz hw hS hl; exfalso; omega
    | succ nn ih2 =>
      intro k Xa H locs ls hm hRXa hGXa hk hz hw hS hl
      have hFXa : Frm [6000, 5700, 5800, 5900] X Xa := Frm.tr Frm.rf (Frm.mono hGXa (by first | exact nls_of rfl | decide))
      refine lv_iload_n hx hb dX9_newRow_2 rfl (lv_at hl 3 rfl) ?_
      refine lv_sipush (v := jI 400) hx hb dX9_newRow_3 (by decide) ?_
      refine x_icmp_ge (tgt := 22) hx hb (by omega) (by omega) dX9_newRow_6 (by decide) (fun c1 => ?_) (fun c1 => ?_)
      · refine lv_iconst (v := jI 0) hx hb dX9_newRow_22 rfl ?_
        refine lv_istore_n (lv' := [(3, .int (jI 0)), (0, .ref (ad 40 0)), (1, .int (jI lane)), (2, .int (jI n))]) hx hb dX9_newRow_23 rfl hl (by decide) rfl (fun ls hl => ?_)
        have lp24 : ∀ (nn : Nat) (x : Int) (Xb : Nat → Int → Int → Int) (H : Heap) (locs : List Loc) (ls : Array Slot), (30 - x) < (nn : Int) → (Rng Xb) → (Frm [6000] Xa Xb) → (0 ≤ x ∧ x ≤ 30) → (Ucov Xb (5 * x)) → (∀ y j, 0 ≤ y → y < x → 0 ≤ j → j < X 44 0 (X 55 0 y) → 3 ≤ X 46 0 (5 * X 55 0 y + j) → 0 ≤ X 56 0 (5 * y + j) → Xb 60 0 (X 56 0 (5 * y + j)) = 1) → wd D tc base (ad, cnt, Xb, Y, ln) H → va_S (frA base) s.heap H locs → lv_has ls 5 [(0, .ref (ad 40 0)), (1, .int (jI lane)), (2, .int (jI n)), (3, .int (jI x))] → W p l e ({ frames := 1, cells := 0, slots := 0, locals := 22 } : Room) s m av9 below meth c H locs 0 0 Q9 (F0 m 24 ls []) := by
          intro nn
          induction nn with
          | zero => intro x Xb H locs ls hm hRXb hGXb hx3 hU hPb hw hS hl; exfalso; omega
          | succ nn ih24 =>
            intro x Xb H locs ls hm hRXb hGXb hx3 hU hPb hw hS hl
            have hFXb : Frm [6000, 5700, 5800, 5900] X Xb := Frm.tr hFXa (Frm.mono hGXb (by first | exact nls_of rfl | decide))
            refine lv_iload_n hx hb dX9_newRow_24 rfl (lv_at hl 3 rfl) ?_
            refine lv_aload_n hx hb dX9_newRow_25 rfl (lv_at hl 0 rfl) ?_
            refine x_geti (jz := 13) hx hb hf9 hw (by first | exact Int.le_refl 0 | omega) (by first | exact zlt hc40 | omega) sl_40_13 rfl lk151 dX9_newRow_26 ?_
            have e2 : Xb 40 0 13 = X 40 0 13 := by rw [hGXb 40 0 13 (show 4014 ∉ [6000] by first | exact nlm_ni rfl | decide), hGXa 40 0 13 (show 4014 ∉ [6000] by first | exact nlm_ni rfl | decide)]
            rw [e2]
            have f3 : 0 ≤ X 40 0 13 ∧ X 40 0 13 ≤ 30 := hR 40 0 13
            refine x_icmp_ge (tgt := 108) hx hb (by omega) (by omega) dX9_newRow_29 (by decide) (fun c4 => ?_) (fun c4 => ?_)
            · refine lv_iconst (v := jI 0) hx hb dX9_newRow_108 rfl ?_
              refine lv_istore_n (lv' := [(3, .int (jI 0)), (0, .ref (ad 40 0)), (1, .int (jI lane)), (2, .int (jI n))]) hx hb dX9_newRow_109 rfl hl (by decide) rfl (fun ls hl => ?_)
              have lp110 : ∀ (nn : Nat) (k : Int) (Xd : Nat → Int → Int → Int) (H : Heap) (locs : List Loc) (ls : Array Slot), (80 - k) < (nn : Int) → (Rng Xd) → (Frm [6000] Xb Xd) → (0 ≤ k ∧ k ≤ 80) → (Ucov Xd (150 + k)) → (∀ y j, 0 ≤ y → y < X 40 0 13 → 0 ≤ j → j < X 44 0 (X 55 0 y) → 3 ≤ X 46 0 (5 * X 55 0 y + j) → 0 ≤ X 56 0 (5 * y + j) → Xd 60 0 (X 56 0 (5 * y + j)) = 1) → (∀ m, 0 ≤ m → m < k → 0 ≤ X 66 0 m → Xd 60 0 (X 66 0 m) = 1) → wd D tc base (ad, cnt, Xd, Y, ln) H → va_S (frA base) s.heap H locs → lv_has ls 5 [(0, .ref (ad 40 0)), (1, .int (jI lane)), (2, .int (jI n)), (3, .int (jI k))] → W p l e ({ frames := 1, cells := 0, slots := 0, locals := 22 } : Room) s m av9 below meth c H locs 0 0 Q9 (F0 m 110 ls []) := by
                intro nn
                induction nn with
                | zero => intro k Xd H locs ls hm hRXd hGXd hk hU hPd hNd hw hS hl; exfalso; omega
                | succ nn ih110 =>
                  intro k Xd H locs ls hm hRXd hGXd hk hU hPd hNd hw hS hl
                  have hFXd : Frm [6000, 5700, 5800, 5900] X Xd := Frm.tr hFXb (Frm.mono hGXd (by first | exact nls_of rfl | decide))
                  refine lv_iload_n hx hb dX9_newRow_110 rfl (lv_at hl 3 rfl) ?_
                  refine lv_aload_n hx hb dX9_newRow_111 rfl (lv_at hl 0 rfl) ?_
                  refine x_geti (jz := 22) hx hb hf9 hw (by first | exact Int.le_refl 0 | omega) (by first | exact zlt hc40 | omega) sl_40_22 rfl lk173 dX9_newRow_112 ?_
                  have e5 : Xd 40 0 22 = X 40 0 22 := by rw [hGXd 40 0 22 (show 4023 ∉ [6000] by first | exact nlm_ni rfl | decide), hGXb 40 0 22 (show 4023 ∉ [6000] by first | exact nlm_ni rfl | decide), hGXa 40 0 22 (show 4023 ∉ [6000] by first | exact nlm_ni rfl | decide)]
                  rw [e5]
                  have f6 : 0 ≤ X 40 0 22 ∧ X 40 0 22 ≤ 80 := hR 40 0 22
                  refine x_icmp_ge (tgt := 145) hx hb (by omega) (by omega) dX9_newRow_115 (by decide) (fun c7 => ?_) (fun c7 => ?_)
                  · refine lv_iconst (v := jI 0) hx hb dX9_newRow_145 rfl ?_
                    refine lv_istore_n (lv' := [(3, .int (jI 0)), (0, .ref (ad 40 0)), (1, .int (jI lane)), (2, .int (jI n))]) hx hb dX9_newRow_146 rfl hl (by decide) rfl (fun ls hl => ?_)
                    have lp147 : ∀ (nn : Nat) (r : Int) (H : Heap) (locs : List Loc) (ls : Array Slot), (230 - r) < (nn : Int) → (0 ≤ r ∧ r ≤ 230) → (∀ j, 0 ≤ j → j < r → Xd 60 0 j = 1) → wd D tc base (ad, cnt, Xd, Y, ln) H → va_S (frA base) s.heap H locs → lv_has ls 5 [(0, .ref (ad 40 0)), (1, .int (jI lane)), (2, .int (jI n)), (3, .int (jI r))] → W p l e ({ frames := 1, cells := 0, slots := 0, locals := 22 } : Room) s m av9 below meth c H locs 0 0 Q9 (F0 m 147 ls []) := by
                      intro nn
                      induction nn with
                      | zero => intro r H locs ls hm hr0 hu hw hS hl; exfalso; omega
                      | succ nn ih147 =>
                        intro r H locs ls hm hr0 hu hw hS hl
                        refine lv_aload_n hx hb dX9_newRow_147 rfl (lv_at hl 0 rfl) ?_
                        refine x_geto hx hb hf9 hw (by first | exact Int.le_refl 0 | omega) (by first | exact zlt hc40 | omega) sl_40_19 lk60 dX9_newRow_148 ?_
                        refine lv_iload_n hx hb dX9_newRow_151 rfl (lv_at hl 3 rfl) ?_
                        refine x_zald hx hb hK.1 hw (by first | exact Int.le_refl 0 | omega) (by first | exact zlt hc60 | omega) ar_60 (len_E ar_60 (by first | exact Nat.ne_of_beq_eq_false rfl | decide)) (by omega) (by omega) (by omega) dX9_newRow_152 ?_
                        have f8 : 0 ≤ Xd 60 0 r ∧ Xd 60 0 r ≤ 1 := hRXd 60 0 r
                        refine x_if_eq (tgt := 162) hx hb (by omega) dX9_newRow_153 (by decide) (fun c9 => ?_) (fun c9 => ?_)
                        · refine lv_aload_n hx hb dX9_newRow_162 rfl (lv_at hl 0 rfl) ?_
                          refine x_geto hx hb hf9 hw (by first | exact Int.le_refl 0 | omega) (by first | exact zlt hc40 | omega) sl_40_16 lk51 dX9_newRow_163 ?_
                          refine lv_iload_n hx hb dX9_newRow_166 rfl (lv_at hl 3 rfl) ?_
                          refine lv_iload_n hx hb dX9_newRow_167 rfl (lv_at hl 1 rfl) ?_
                          refine x_iast hx hb hK.1 hw hS (by first | exact Int.le_refl 0 | omega) (by first | exact zlt hc57 | omega) ar_57 (len_E ar_57 (by first | exact Nat.ne_of_beq_eq_false rfl | decide)) (by omega) (by omega) (by omega) dX9_newRow_168 (fun H locs hw hS => ?_)
                          obtain ⟨X10, hX10⟩ : ∃ Xq, Xq = u3 Xd 57 0 r lane := ⟨_, rfl⟩
                          rw [← hX10] at hw
                          have hRX10 : Rng X10 := by rw [hX10]; exact rng_set hRXd (show 0 ≤ lane ∧ lane ≤ 5 by omega)
                          have hVX10 : X10 57 0 r = lane := by rw [hX10]; exact u3_s _ _ _ _ _
                          have hFX10 : Frm [6000, 5700, 5800, 5900] X X10 := by rw [hX10]; exact Frm.set hFXd (show 5700 ∈ [6000, 5700, 5800, 5900] by first | exact nlm_in rfl | decide)
                          refine lv_aload_n hx hb dX9_newRow_169 rfl (lv_at hl 0 rfl) ?_
                          refine x_geto hx hb hf9 hw (by first | exact Int.le_refl 0 | omega) (by first | exact zlt hc40 | omega) sl_40_17 lk54 dX9_newRow_170 ?_
                          refine lv_iload_n hx hb dX9_newRow_173 rfl (lv_at hl 3 rfl) ?_
                          refine lv_iload_n hx hb dX9_newRow_174 rfl (lv_at hl 2 rfl) ?_
                          refine x_iast hx hb hK.1 hw hS (by first | exact Int.le_refl 0 | omega) (by first | exact zlt hc58 | omega) ar_58 (len_E ar_58 (by first | exact Nat.ne_of_beq_eq_false rfl | decide)) (by omega) (by omega) (by omega) dX9_newRow_175 (fun H locs hw hS => ?_)
                          obtain ⟨X11, hX11⟩ : ∃ Xq, Xq = u3 X10 58 0 r n := ⟨_, rfl⟩
                          rw [← hX11] at hw
                          have hRX11 : Rng X11 := by rw [hX11]; exact rng_set hRX10 (show 0 ≤ n ∧ n ≤ 12 by omega)
                          have hVX11 : X11 58 0 r = n := by rw [hX11]; exact u3_s _ _ _ _ _
                          have hFX11 : Frm [6000, 5700, 5800, 5900] X X11 := by rw [hX11]; exact Frm.set hFX10 (show 5800 ∈ [6000, 5700, 5800, 5900] by first | exact nlm_in rfl | decide)
                          refine lv_iconst (v := jI 0) hx hb dX9_newRow_176 rfl ?_
                          refine lv_istore (lv' := [(4, .int (jI 0)), (0, .ref (ad 40 0)), (1, .int (jI lane)), (2, .int (jI n)), (3, .int (jI r))]) hx hb dX9_newRow_177 hl (by decide) rfl (fun ls hl => ?_)
                          have lp179 : ∀ (nn : Nat) (k : Int) (Xe : Nat → Int → Int → Int) (H : Heap) (locs : List Loc) (ls : Array Slot), (12 - k) < (nn : Int) → (Rng Xe) → (Frm [5900] X11 Xe) → (0 ≤ k ∧ k ≤ 12) → (∀ j, 0 ≤ j → j < k → Xe 59 0 (12 * r + j) = 0) → (∀ p, ¬ (12 * r ≤ p ∧ p < 12 * r + 12) → Xe 59 0 p = X 59 0 p) → wd D tc base (ad, cnt, Xe, Y, ln) H → va_S (frA base) s.heap H locs → lv_has ls 5 [(0, .ref (ad 40 0)), (1, .int (jI lane)), (2, .int (jI n)), (3, .int (jI r)), (4, .int (jI k))] → W p l e ({ frames := 1, cells := 0, slots := 0, locals := 22 } : Room) s m av9 below meth c H locs 0 0 Q9 (F0 m 179 ls []) := by
                            intro nn
                            induction nn with
                            | zero => intro k Xe H locs ls hm hRXe hGXe hk hi12 hio hw hS hl; exfalso; omega
                            | succ nn ih179 =>
                              intro k Xe H locs ls hm hRXe hGXe hk hi12 hio hw hS hl
                              have hFXe : Frm [6000, 5700, 5800, 5900] X Xe := Frm.tr hFX11 (Frm.mono hGXe (by first | exact nls_of rfl | decide))
                              refine lv_iload hx hb dX9_newRow_179 (lv_at hl 4 rfl) ?_
                              refine lv_bipush (v := jI 12) hx hb dX9_newRow_181 (by decide) ?_
                              refine x_icmp_ge (tgt := 205) hx hb (by omega) (by omega) dX9_newRow_183 (by decide) (fun c12 => ?_) (fun c12 => ?_)
                              · refine lv_iload_n hx hb dX9_newRow_205 rfl (lv_at hl 3 rfl) ?_
                                rw [hQ9]
                                refine ret_i (mc := 0) (ms := 0) hx hb hr hlocks hw hS (by first | exact Nat.le_of_ble_eq_true rfl | omega) (by first | exact Nat.le_of_ble_eq_true rfl | omega) dX9_newRow_206 ?_
                                have q14 : Frm [5700, 5800, 5900, 6000] X Xa := Frm.tr Frm.rf (Frm.mono hGXa (by first | exact nls_of rfl | decide))
                                have q15 : Frm [5700, 5800, 5900, 6000] X Xb := Frm.tr q14 (Frm.mono hGXb (by first | exact nls_of rfl | decide))
                                have q16 : Frm [5700, 5800, 5900, 6000] X Xd := Frm.tr q15 (Frm.mono hGXd (by first | exact nls_of rfl | decide))
                                have q17 : Frm [5700, 5800, 5900, 6000] X X10 := by rw [hX10]; exact Frm.set q16 (show 5700 ∈ [5700, 5800, 5900, 6000] by first | exact nlm_in rfl | decide)
                                have q18 : Frm [5700, 5800, 5900, 6000] X X11 := by rw [hX11]; exact Frm.set q17 (show 5800 ∈ [5700, 5800, 5900, 6000] by first | exact nlm_in rfl | decide)
                                have q19 : Frm [5700, 5800, 5900, 6000] X Xe := Frm.tr q18 (Frm.mono hGXe (by first | exact nls_of rfl | decide))
                                have hMq13 : MInv Xe := minv_frm hMI q19 (by decide)
                                exact ⟨Xe, rfl, hRXe, hFXe, hMq13, by omega, ⟨fun y j a b c d l q => (by have h9 := hPd y j a (by omega) c d l (by omega); rw [q] at h9; omega), fun m a b q => (by have h9 := hNd m a (by omega) (by omega); rw [q] at h9; omega), (by rw [hGXe 57 0 r (show 5700 ∉ [5900] by first | exact nlm_ni rfl | decide), hX11, u3_k _ _ _ _ (by first | exact Nat.ne_of_beq_eq_false rfl | decide)]; exact hVX10), (by rw [hGXe 58 0 r (show 5800 ∉ [5900] by first | exact nlm_ni rfl | decide)]; exact hVX11), fun y hy => ⟨(by rw [hGXe 57 0 y (show 5700 ∉ [5900] by first | exact nlm_ni rfl | decide), hX11, u3_k _ _ _ _ (by first | exact Nat.ne_of_beq_eq_false rfl | decide), hX10, u3_j _ _ _ _ hy, hGXd 57 0 y (show 5700 ∉ [6000] by first | exact nlm_ni rfl | decide), hGXb 57 0 y (show 5700 ∉ [6000] by first | exact nlm_ni rfl | decide), hGXa 57 0 y (show 5700 ∉ [6000] by first | exact nlm_ni rfl | decide)]), (by rw [hGXe 58 0 y (show 5800 ∉ [5900] by first | exact nlm_ni rfl | decide), hX11, u3_j _ _ _ _ hy, hX10, u3_k _ _ _ _ (by first | exact Nat.ne_of_beq_eq_false rfl | decide), hGXd 58 0 y (show 5800 ∉ [6000] by first | exact nlm_ni rfl | decide), hGXb 58 0 y (show 5800 ∉ [6000] by first | exact nlm_ni rfl | decide), hGXa 58 0 y (show 5800 ∉ [6000] by first | exact nlm_ni rfl | decide)])⟩, fun j a b => hi12 j a (by omega), fun p hp9 => hio p hp9⟩⟩
                              · refine lv_aload_n hx hb dX9_newRow_186 rfl (lv_at hl 0 rfl) ?_
                                refine x_geto hx hb hf9 hw (by first | exact Int.le_refl 0 | omega) (by first | exact zlt hc40 | omega) sl_40_18 lk57 dX9_newRow_187 ?_
                                refine lv_bipush (v := jI 12) hx hb dX9_newRow_190 (by decide) ?_
                                refine lv_iload_n hx hb dX9_newRow_192 rfl (lv_at hl 3 rfl) ?_
                                refine x_imul hx hb dX9_newRow_193 ?_
                                refine lv_iload hx hb dX9_newRow_194 (lv_at hl 4 rfl) ?_
                                refine x_iadd hx hb dX9_newRow_196 ?_
                                refine lv_lconst (v := jL 0) hx hb dX9_newRow_197 (by decide) ?_
                                refine x_last hx hb hK.1 hw hS (by first | exact Int.le_refl 0 | omega) (by first | exact zlt hc59 | omega) ar_59 (len_E ar_59 (by first | exact Nat.ne_of_beq_eq_false rfl | decide)) (by omega) (by omega) (by omega) dX9_newRow_198 (fun H locs hw hS => ?_)
                                obtain ⟨X20, hX20⟩ : ∃ Xq, Xq = u3 Xe 59 0 ((12 * r) + k) 0 := ⟨_, rfl⟩
                                rw [← hX20] at hw
                                have hRX20 : Rng X20 := by rw [hX20]; exact rng_set hRXe (show (-9223372036854775808) ≤ 0 ∧ 0 ≤ 9223372036854775807 by omega)
                                have hVX20 : X20 59 0 ((12 * r) + k) = 0 := by rw [hX20]; exact u3_s _ _ _ _ _
                                have hFX20 : Frm [6000, 5700, 5800, 5900] X X20 := by rw [hX20]; exact Frm.set hFXe (show 5900 ∈ [6000, 5700, 5800, 5900] by first | exact nlm_in rfl | decide)
                                refine lv_iinc (v := jI (k + 1)) (lv' := [(4, .int (jI (k + 1))), (0, .ref (ad 40 0)), (1, .int (jI lane)), (2, .int (jI n)), (3, .int (jI r))]) hx hb dX9_newRow_199 hl (k := 4) rfl (jI_add _ _) (by decide) rfl (fun ls hl => ?_)
                                refine lv_goto (tgt := 179) hx hb dX9_newRow_202 (by decide) ?_
                                have q21 : Frm [5900] X11 Xe := Frm.tr Frm.rf (Frm.mono hGXe (by first | exact nls_of rfl | decide))
                                have q22 : Frm [5900] X11 X20 := by rw [hX20]; exact Frm.set q21 (show 5900 ∈ [5900] by first | exact nlm_in rfl | decide)
                                exact ih179 (k + 1) X20 _ _ _ (by omega) hRX20 q22 (by omega) (fun j a b => if hj : j = k then (by rw [hj]; exact hVX20) else (by rw [hX20, u3_j _ _ _ _ (by omega)]; exact hi12 j a (by omega))) (fun p hp9 => (by rw [hX20, u3_j _ _ _ _ (by omega)]; exact hio p hp9)) hw hS (lv_sub hl [1, 2, 3, 4, 0] rfl)
                          exact lp179 (12 - 0 : Int).toNat.succ 0 X11 _ _ _ (by omega) hRX11 Frm.rf (by omega) (fun j a b => by omega) (fun p _ => (by rw [hX11, u3_k _ _ _ _ (by first | exact Nat.ne_of_beq_eq_false rfl | decide), hX10, u3_k _ _ _ _ (by first | exact Nat.ne_of_beq_eq_false rfl | decide), hGXd 59 0 p (show 5900 ∉ [6000] by first | exact nlm_ni rfl | decide), hGXb 59 0 p (show 5900 ∉ [6000] by first | exact nlm_ni rfl | decide), hGXa 59 0 p (show 5900 ∉ [6000] by first | exact nlm_ni rfl | decide)])) hw hS (lv_sub hl [1, 2, 3, 4, 0] rfl)
                        · refine lv_iinc (v := jI (r + 1)) (lv' := [(3, .int (jI (r + 1))), (0, .ref (ad 40 0)), (1, .int (jI lane)), (2, .int (jI n))]) hx hb dX9_newRow_156 hl (k := 3) rfl (jI_add _ _) (by decide) rfl (fun ls hl => ?_)
                          refine lv_goto (tgt := 147) hx hb dX9_newRow_159 (by decide) ?_
                          exact ih147 (r + 1) _ _ _ (by omega) (by have := hU.fin (r := r + 1) (by omega) (fun j a b => if hj : j = r then (by rw [hj]; omega) else hu j a (by omega)); omega) (fun j a b => if hj : j = r then (by rw [hj]; omega) else hu j a (by omega)) hw hS (lv_sub hl [1, 2, 3, 0] rfl)
                    exact lp147 (230 - 0 : Int).toNat.succ 0 _ _ _ (by omega) (by omega) (fun j a b => by omega) hw hS (lv_sub hl [1, 2, 3, 0] rfl)
                  · refine lv_aload_n hx hb dX9_newRow_118 rfl (lv_at hl 0 rfl) ?_
                    refine x_geto hx hb hf9 hw (by first | exact Int.le_refl 0 | omega) (by first | exact zlt hc40 | omega) sl_40_25 lk72 dX9_newRow_119 ?_
                    refine lv_iload_n hx hb dX9_newRow_122 rfl (lv_at hl 3 rfl) ?_
                    refine x_iald hx hb hK.1 hw (by first | exact Int.le_refl 0 | omega) (by first | exact zlt hc66 | omega) ar_66 (len_E ar_66 (by first | exact Nat.ne_of_beq_eq_false rfl | decide)) (by omega) (by omega) (by omega) dX9_newRow_123 ?_
                    have e23 : ∀ p9 q9 : Int, Xd 66 p9 q9 = X 66 p9 q9 := fun p9 q9 => by rw [hGXd 66 p9 q9 (show 6600 ∉ [6000] by first | exact nlm_ni rfl | decide), hGXb 66 p9 q9 (show 6600 ∉ [6000] by first | exact nlm_ni rfl | decide), hGXa 66 p9 q9 (show 6600 ∉ [6000] by first | exact nlm_ni rfl | decide)]
                    rw [e23 0 k]
                    have f24 : (-1) ≤ X 66 0 k ∧ X 66 0 k ≤ 399 := hR 66 0 k
                    have q900040 : Frm [6000] Xb Xd := Frm.tr Frm.rf (Frm.mono hGXd (by first | exact nls_of rfl | decide))
                    refine x_if_lt (tgt := 139) hx hb (by omega) dX9_newRow_124 (by decide) (fun c25 => ?_) (fun c25 => ?_)
                    · refine lv_iinc (v := jI (k + 1)) (lv' := [(3, .int (jI (k + 1))), (0, .ref (ad 40 0)), (1, .int (jI lane)), (2, .int (jI n))]) hx hb dX9_newRow_139 hl (k := 3) rfl (jI_add _ _) (by decide) rfl (fun ls hl => ?_)
                      refine lv_goto (tgt := 110) hx hb dX9_newRow_142 (by decide) ?_
                      exact ih110 (k + 1) Xd _ _ _ (by omega) hRXd q900040 (by omega) (hU.mono (by omega)) (fun y j a b c d l v => hPd y j a b c d l v) (fun m a b v => if hm9 : m = k then (by rw [hm9] at v; exfalso; omega) else hNd m a (by omega) v) hw hS (lv_sub hl [1, 2, 3, 0] rfl)
                    · refine lv_aload_n hx hb dX9_newRow_127 rfl (lv_at hl 0 rfl) ?_
                      refine x_geto hx hb hf9 hw (by first | exact Int.le_refl 0 | omega) (by first | exact zlt hc40 | omega) sl_40_19 lk60 dX9_newRow_128 ?_
                      refine lv_aload_n hx hb dX9_newRow_131 rfl (lv_at hl 0 rfl) ?_
                      refine x_geto hx hb hf9 hw (by first | exact Int.le_refl 0 | omega) (by first | exact zlt hc40 | omega) sl_40_25 lk72 dX9_newRow_132 ?_
                      refine lv_iload_n hx hb dX9_newRow_135 rfl (lv_at hl 3 rfl) ?_
                      refine x_iald hx hb hK.1 hw (by first | exact Int.le_refl 0 | omega) (by first | exact zlt hc66 | omega) ar_66 (len_E ar_66 (by first | exact Nat.ne_of_beq_eq_false rfl | decide)) (by omega) (by omega) (by omega) dX9_newRow_136 ?_
                      have e27 : ∀ p9 q9 : Int, Xd 66 p9 q9 = X 66 p9 q9 := fun p9 q9 => by rw [hGXd 66 p9 q9 (show 6600 ∉ [6000] by first | exact nlm_ni rfl | decide), hGXb 66 p9 q9 (show 6600 ∉ [6000] by first | exact nlm_ni rfl | decide), hGXa 66 p9 q9 (show 6600 ∉ [6000] by first | exact nlm_ni rfl | decide)]
                      rw [e27 0 k]
                      have f28 : (-1) ≤ X 66 0 k ∧ X 66 0 k ≤ 399 := hR 66 0 k
                      refine lv_iconst (v := jI 1) hx hb dX9_newRow_137 rfl ?_
                      refine x_zast hx hb hK.1 hw hS (by first | exact Int.le_refl 0 | omega) (by first | exact zlt hc60 | omega) ar_60 (len_E ar_60 (by first | exact Nat.ne_of_beq_eq_false rfl | decide)) (by omega) (by omega) (by omega) (by omega) (by omega) dX9_newRow_138 (fun H locs hw hS => ?_)
                      obtain ⟨X29, hX29⟩ : ∃ Xq, Xq = u3 Xd 60 0 (X 66 0 k) 1 := ⟨_, rfl⟩
                      rw [← hX29] at hw
                      have hRX29 : Rng X29 := by rw [hX29]; exact rng_set hRXd (show 0 ≤ 1 ∧ 1 ≤ 1 by omega)
                      have hVX29 : X29 60 0 (X 66 0 k) = 1 := by rw [hX29]; exact u3_s _ _ _ _ _
                      have hFX29 : Frm [6000, 5700, 5800, 5900] X X29 := by rw [hX29]; exact Frm.set hFXd (show 6000 ∈ [6000, 5700, 5800, 5900] by first | exact nlm_in rfl | decide)
                      refine lv_iinc (v := jI (k + 1)) (lv' := [(3, .int (jI (k + 1))), (0, .ref (ad 40 0)), (1, .int (jI lane)), (2, .int (jI n))]) hx hb dX9_newRow_139 hl (k := 3) rfl (jI_add _ _) (by decide) rfl (fun ls hl => ?_)
                      refine lv_goto (tgt := 110) hx hb dX9_newRow_142 (by decide) ?_
                      have q31 : Frm [6000] Xb X29 := by rw [hX29]; exact Frm.set q900040 (show 6000 ∈ [6000] by first | exact nlm_in rfl | decide)
                      exact ih110 (k + 1) X29 _ _ _ (by omega) hRX29 q31 (by omega) (by rw [hX29]; exact (hU.set).mono (by omega)) (fun y j a b c d l v => (by rw [hX29]; exact us1 (hPd y j a b c d l v))) (fun m a b v => if hm9 : m = k then (by rw [hm9, hX29]; exact u3_s _ _ _ _ _) else (by rw [hX29]; exact us1 (hNd m a (by omega) v))) hw hS (lv_sub hl [1, 2, 3, 0] rfl)
              exact lp110 (80 - 0 : Int).toNat.succ 0 Xb _ _ _ (by omega) hRXb Frm.rf (by omega) (hU.mono (by omega)) (fun y j a b c d l v => hPb y j a (by omega) c d l v) (fun m a b => by omega) hw hS (lv_sub hl [1, 2, 3, 0] rfl)
            · refine lv_iconst (v := jI 0) hx hb dX9_newRow_32 rfl ?_
              refine lv_istore (lv' := [(4, .int (jI 0)), (0, .ref (ad 40 0)), (1, .int (jI lane)), (2, .int (jI n)), (3, .int (jI x))]) hx hb dX9_newRow_33 hl (by decide) rfl (fun ls hl => ?_)
              have lp35 : ∀ (nn : Nat) (k : Int) (Xc : Nat → Int → Int → Int) (H : Heap) (locs : List Loc) (ls : Array Slot), (5 - k) < (nn : Int) → (Rng Xc) → (Frm [6000] Xb Xc) → (0 ≤ k ∧ k ≤ 5) → (Ucov Xc (5 * x + k)) → (∀ y j, 0 ≤ y → y < x → 0 ≤ j → j < X 44 0 (X 55 0 y) → 3 ≤ X 46 0 (5 * X 55 0 y + j) → 0 ≤ X 56 0 (5 * y + j) → Xc 60 0 (X 56 0 (5 * y + j)) = 1) → (∀ j, 0 ≤ j → j < k → 3 ≤ X 46 0 (5 * X 55 0 x + j) → 0 ≤ X 56 0 (5 * x + j) → Xc 60 0 (X 56 0 (5 * x + j)) = 1) → wd D tc base (ad, cnt, Xc, Y, ln) H → va_S (frA base) s.heap H locs → lv_has ls 5 [(0, .ref (ad 40 0)), (1, .int (jI lane)), (2, .int (jI n)), (3, .int (jI x)), (4, .int (jI k))] → W p l e ({ frames := 1, cells := 0, slots := 0, locals := 22 } : Room) s m av9 below meth c H locs 0 0 Q9 (F0 m 35 ls []) := by
                intro nn
                induction nn with
                | zero => intro k Xc H locs ls hm hRXc hGXc hk hU hPc hQc hw hS hl; exfalso; omega
                | succ nn ih35 =>
                  intro k Xc H locs ls hm hRXc hGXc hk hU hPc hQc hw hS hl
                  have hFXc : Frm [6000, 5700, 5800, 5900] X Xc := Frm.tr hFXb (Frm.mono hGXc (by first | exact nls_of rfl | decide))
                  refine lv_iload hx hb dX9_newRow_35 (lv_at hl 4 rfl) ?_
                  refine lv_aload_n hx hb dX9_newRow_37 rfl (lv_at hl 0 rfl) ?_
                  refine x_geto hx hb hf9 hw (by first | exact Int.le_refl 0 | omega) (by first | exact zlt hc40 | omega) sl_40_3 lk13 dX9_newRow_38 ?_
                  refine lv_aload_n hx hb dX9_newRow_41 rfl (lv_at hl 0 rfl) ?_
                  refine x_geto hx hb hf9 hw (by first | exact Int.le_refl 0 | omega) (by first | exact zlt hc40 | omega) sl_40_14 lk45 dX9_newRow_42 ?_
                  refine lv_iload_n hx hb dX9_newRow_45 rfl (lv_at hl 3 rfl) ?_
                  refine x_iald hx hb hK.1 hw (by first | exact Int.le_refl 0 | omega) (by first | exact zlt hc55 | omega) ar_55 (len_E ar_55 (by first | exact Nat.ne_of_beq_eq_false rfl | decide)) (by omega) (by omega) (by omega) dX9_newRow_46 ?_
                  have e32 : ∀ p9 q9 : Int, Xc 55 p9 q9 = X 55 p9 q9 := fun p9 q9 => by rw [hGXc 55 p9 q9 (show 5500 ∉ [6000] by first | exact nlm_ni rfl | decide), hGXb 55 p9 q9 (show 5500 ∉ [6000] by first | exact nlm_ni rfl | decide), hGXa 55 p9 q9 (show 5500 ∉ [6000] by first | exact nlm_ni rfl | decide)]
                  rw [e32 0 x]
                  have f33 : 0 ≤ X 55 0 x ∧ X 55 0 x ≤ 7 := hR 55 0 x
                  refine x_iald hx hb hK.1 hw (by first | exact Int.le_refl 0 | omega) (by first | exact zlt hc44 | omega) ar_44 (len_E ar_44 (by first | exact Nat.ne_of_beq_eq_false rfl | decide)) (by omega) (by omega) (by omega) dX9_newRow_47 ?_
                  have e34 : ∀ p9 q9 : Int, Xc 44 p9 q9 = X 44 p9 q9 := fun p9 q9 => by rw [hGXc 44 p9 q9 (show 4400 ∉ [6000] by first | exact nlm_ni rfl | decide), hGXb 44 p9 q9 (show 4400 ∉ [6000] by first | exact nlm_ni rfl | decide), hGXa 44 p9 q9 (show 4400 ∉ [6000] by first | exact nlm_ni rfl | decide)]
                  rw [e34 0 (X 55 0 x)]
                  have f35 : 0 ≤ X 44 0 (X 55 0 x) ∧ X 44 0 (X 55 0 x) ≤ 5 := hR 44 0 (X 55 0 x)
                  refine x_icmp_ge (tgt := 102) hx hb (by omega) (by omega) dX9_newRow_48 (by decide) (fun c36 => ?_) (fun c36 => ?_)
                  · refine lv_iinc (v := jI (x + 1)) (lv' := [(3, .int (jI (x + 1))), (0, .ref (ad 40 0)), (1, .int (jI lane)), (2, .int (jI n)), (4, .int (jI k))]) hx hb dX9_newRow_102 hl (k := 3) rfl (jI_add _ _) (by decide) rfl (fun ls hl => ?_)
                    refine lv_goto (tgt := 24) hx hb dX9_newRow_105 (by decide) ?_
                    have q37 : Frm [6000] Xa Xb := Frm.tr Frm.rf (Frm.mono hGXb (by first | exact nls_of rfl | decide))
                    have q38 : Frm [6000] Xa Xc := Frm.tr q37 (Frm.mono hGXc (by first | exact nls_of rfl | decide))
                    exact ih24 (x + 1) Xc _ _ _ (by omega) hRXc q38 (by omega) (hU.mono (by omega)) (fun y j a b c d l v => if hy : y = x then (by rw [hy] at d l v ⊢; exact hQc j c (by omega) l v) else hPc y j a (by omega) c d l v) hw hS (lv_sub hl [1, 2, 3, 0] rfl)
                  · refine lv_aload_n hx hb dX9_newRow_51 rfl (lv_at hl 0 rfl) ?_
                    refine lv_iload_n hx hb dX9_newRow_52 rfl (lv_at hl 3 rfl) ?_
                    refine lv_iload hx hb dX9_newRow_53 (lv_at hl 4 rfl) ?_
                    refine gos_i (run_V (As := [.int (jI x), .int (jI k)]) (rest := []) hx hb hml hown hts (c_X9_lane l D tc base ad cnt Xc Y ln hRXc hFx x k (by omega) (by omega)) (cwV 2 hts gX9_newRow_X9_lane rfl rfl rfl (by first | exact hd_X9_lane | decide +kernel) ⟨Nat.le_of_ble_eq_true rfl, Nat.le_of_ble_eq_true rfl⟩) hK hw (by first | exact Int.le_refl 0 | omega) (by first | exact zlt hc40 | omega) sl_40_0 rfl rfl hl.1 rfl (Nat.le_of_ble_eq_true rfl) dX9_newRow_55 ⟨Nat.le_of_ble_eq_true rfl, Nat.le_of_ble_eq_true rfl⟩) hS (fun z39 u40 H locs p41 hw hS => ?_)
                    obtain ⟨eu40, p41⟩ := p41
                    subst eu40
                    have e42 : ∀ j : Int, Xc 55 0 j = X 55 0 j := fun j => by rw [hGXc 55 0 j (show 5500 ∉ [6000] by first | exact nlm_ni rfl | decide), hGXb 55 0 j (show 5500 ∉ [6000] by first | exact nlm_ni rfl | decide), hGXa 55 0 j (show 5500 ∉ [6000] by first | exact nlm_ni rfl | decide)]
                    have e43 : ∀ j : Int, Xc 46 0 j = X 46 0 j := fun j => by rw [hGXc 46 0 j (show 4600 ∉ [6000] by first | exact nlm_ni rfl | decide), hGXb 46 0 j (show 4600 ∉ [6000] by first | exact nlm_ni rfl | decide), hGXa 46 0 j (show 4600 ∉ [6000] by first | exact nlm_ni rfl | decide)]
                    simp only [e42, e43] at p41
                    refine lv_iconst (v := jI 3) hx hb dX9_newRow_58 rfl ?_
                    have q900041 : Frm [6000] Xb Xc := Frm.tr Frm.rf (Frm.mono hGXc (by first | exact nls_of rfl | decide))
                    refine x_icmp_lt (tgt := 96) hx hb (by omega) (by omega) dX9_newRow_59 (by decide) (fun c44 => ?_) (fun c44 => ?_)
                    · refine lv_iinc (v := jI (k + 1)) (lv' := [(4, .int (jI (k + 1))), (0, .ref (ad 40 0)), (1, .int (jI lane)), (2, .int (jI n)), (3, .int (jI x))]) hx hb dX9_newRow_96 hl (k := 4) rfl (jI_add _ _) (by decide) rfl (fun ls hl => ?_)
                      refine lv_goto (tgt := 35) hx hb dX9_newRow_99 (by decide) ?_
                      exact ih35 (k + 1) Xc _ _ _ (by omega) hRXc q900041 (by omega) (hU.mono (by omega)) (fun y j a b c d l v => hPc y j a b c d l v) (fun j a b l v => if hj : j = k then (by rw [hj] at l v; exfalso; omega) else hQc j a (by omega) l v) hw hS (lv_sub hl [1, 2, 3, 4, 0] rfl)
                    · refine lv_aload_n hx hb dX9_newRow_62 rfl (lv_at hl 0 rfl) ?_
                      refine x_geto hx hb hf9 hw (by first | exact Int.le_refl 0 | omega) (by first | exact zlt hc40 | omega) sl_40_15 lk48 dX9_newRow_63 ?_
                      refine lv_iconst (v := jI 5) hx hb dX9_newRow_66 rfl ?_
                      refine lv_iload_n hx hb dX9_newRow_67 rfl (lv_at hl 3 rfl) ?_
                      refine x_imul hx hb dX9_newRow_68 ?_
                      refine lv_iload hx hb dX9_newRow_69 (lv_at hl 4 rfl) ?_
                      refine x_iadd hx hb dX9_newRow_71 ?_
                      obtain ⟨hy1, hy2, hy3⟩ := hMI.1 x k (by omega) (by omega) (by omega) (by omega)
                      refine x_lald hx hb hK.1 hw (by first | exact Int.le_refl 0 | omega) (by first | exact zlt hc56 | omega) ar_56 (len_E ar_56 (by first | exact Nat.ne_of_beq_eq_false rfl | decide)) (by omega) (by omega) (by omega) dX9_newRow_72 ?_
                      have e46 : ∀ p9 q9 : Int, Xc 56 p9 q9 = X 56 p9 q9 := fun p9 q9 => by rw [hGXc 56 p9 q9 (show 5600 ∉ [6000] by first | exact nlm_ni rfl | decide), hGXb 56 p9 q9 (show 5600 ∉ [6000] by first | exact nlm_ni rfl | decide), hGXa 56 p9 q9 (show 5600 ∉ [6000] by first | exact nlm_ni rfl | decide)]
                      rw [e46 0 ((5 * x) + k)]
                      have f47 : (-9223372036854775808) ≤ X 56 0 ((5 * x) + k) ∧ X 56 0 ((5 * x) + k) ≤ 9223372036854775807 := hR 56 0 ((5 * x) + k)
                      refine lv_lconst (v := jL 0) hx hb dX9_newRow_73 (by decide) ?_
                      refine x_lcmp hx hb (by omega) (by omega) dX9_newRow_74 ?_
                      obtain ⟨z48, ez48⟩ : ∃ y : Int, y = cmpZ (X 56 0 ((5 * x) + k)) 0 := ⟨_, rfl⟩
                      rw [← ez48]
                      have gz48 : (z48 < 0 ↔ ((X 56 0 ((5 * x) + k)) : Int) < 0) ∧ (z48 = 0 ↔ ((X 56 0 ((5 * x) + k)) : Int) = 0) ∧ -1 ≤ z48 ∧ z48 ≤ 1 := by rw [ez48]; exact ⟨cmpZ_lt, cmpZ_eq, (cmpZ_r _ _).1, (cmpZ_r _ _).2⟩
                      clear ez48
                      refine x_if_lt (tgt := 96) hx hb (by omega) dX9_newRow_75 (by decide) (fun c49 => ?_) (fun c49 => ?_)
                      · replace c49 := cz_ltT gz48 c49
                        clear gz48
                        refine lv_iinc (v := jI (k + 1)) (lv' := [(4, .int (jI (k + 1))), (0, .ref (ad 40 0)), (1, .int (jI lane)), (2, .int (jI n)), (3, .int (jI x))]) hx hb dX9_newRow_96 hl (k := 4) rfl (jI_add _ _) (by decide) rfl (fun ls hl => ?_)
                        refine lv_goto (tgt := 35) hx hb dX9_newRow_99 (by decide) ?_
                        exact ih35 (k + 1) Xc _ _ _ (by omega) hRXc q900041 (by omega) (hU.mono (by omega)) (fun y j a b c d l v => hPc y j a b c d l v) (fun j a b l v => if hj : j = k then (by rw [hj] at l v; exfalso; omega) else hQc j a (by omega) l v) hw hS (lv_sub hl [1, 2, 3, 4, 0] rfl)
                      · replace c49 := cz_ltF gz48 c49
                        clear gz48
                        refine lv_aload_n hx hb dX9_newRow_78 rfl (lv_at hl 0 rfl) ?_
                        refine x_geto hx hb hf9 hw (by first | exact Int.le_refl 0 | omega) (by first | exact zlt hc40 | omega) sl_40_19 lk60 dX9_newRow_79 ?_
                        refine lv_aload_n hx hb dX9_newRow_82 rfl (lv_at hl 0 rfl) ?_
                        refine x_geto hx hb hf9 hw (by first | exact Int.le_refl 0 | omega) (by first | exact zlt hc40 | omega) sl_40_15 lk48 dX9_newRow_83 ?_
                        refine lv_iconst (v := jI 5) hx hb dX9_newRow_86 rfl ?_
                        refine lv_iload_n hx hb dX9_newRow_87 rfl (lv_at hl 3 rfl) ?_
                        refine x_imul hx hb dX9_newRow_88 ?_
                        refine lv_iload hx hb dX9_newRow_89 (lv_at hl 4 rfl) ?_
                        refine x_iadd hx hb dX9_newRow_91 ?_
                        skip
                        refine x_lald hx hb hK.1 hw (by first | exact Int.le_refl 0 | omega) (by first | exact zlt hc56 | omega) ar_56 (len_E ar_56 (by first | exact Nat.ne_of_beq_eq_false rfl | decide)) (by omega) (by omega) (by omega) dX9_newRow_92 ?_
                        have e51 : ∀ p9 q9 : Int, Xc 56 p9 q9 = X 56 p9 q9 := fun p9 q9 => by rw [hGXc 56 p9 q9 (show 5600 ∉ [6000] by first | exact nlm_ni rfl | decide), hGXb 56 p9 q9 (show 5600 ∉ [6000] by first | exact nlm_ni rfl | decide), hGXa 56 p9 q9 (show 5600 ∉ [6000] by first | exact nlm_ni rfl | decide)]
                        rw [e51 0 ((5 * x) + k)]
                        have f52 : (-9223372036854775808) ≤ X 56 0 ((5 * x) + k) ∧ X 56 0 ((5 * x) + k) ≤ 9223372036854775807 := hR 56 0 ((5 * x) + k)
                        refine x_l2i hx hb dX9_newRow_93 ?_
                        refine lv_iconst (v := jI 1) hx hb dX9_newRow_94 rfl ?_
                        refine x_zast hx hb hK.1 hw hS (by first | exact Int.le_refl 0 | omega) (by first | exact zlt hc60 | omega) ar_60 (len_E ar_60 (by first | exact Nat.ne_of_beq_eq_false rfl | decide)) (by omega) (by omega) (by omega) (by omega) (by omega) dX9_newRow_95 (fun H locs hw hS => ?_)
                        obtain ⟨X53, hX53⟩ : ∃ Xq, Xq = u3 Xc 60 0 (X 56 0 ((5 * x) + k)) 1 := ⟨_, rfl⟩
                        rw [← hX53] at hw
                        have hRX53 : Rng X53 := by rw [hX53]; exact rng_set hRXc (show 0 ≤ 1 ∧ 1 ≤ 1 by omega)
                        have hVX53 : X53 60 0 (X 56 0 ((5 * x) + k)) = 1 := by rw [hX53]; exact u3_s _ _ _ _ _
                        have hFX53 : Frm [6000, 5700, 5800, 5900] X X53 := by rw [hX53]; exact Frm.set hFXc (show 6000 ∈ [6000, 5700, 5800, 5900] by first | exact nlm_in rfl | decide)
                        refine lv_iinc (v := jI (k + 1)) (lv' := [(4, .int (jI (k + 1))), (0, .ref (ad 40 0)), (1, .int (jI lane)), (2, .int (jI n)), (3, .int (jI x))]) hx hb dX9_newRow_96 hl (k := 4) rfl (jI_add _ _) (by decide) rfl (fun ls hl => ?_)
                        refine lv_goto (tgt := 35) hx hb dX9_newRow_99 (by decide) ?_
                        have q55 : Frm [6000] Xb X53 := by rw [hX53]; exact Frm.set q900041 (show 6000 ∈ [6000] by first | exact nlm_in rfl | decide)
                        exact ih35 (k + 1) X53 _ _ _ (by omega) hRX53 q55 (by omega) (by rw [hX53]; exact (hU.set).mono (by omega)) (fun y j a b c d l v => (by rw [hX53]; exact us1 (hPc y j a b c d l v))) (fun j a b l v => if hj : j = k then (by rw [hj, hX53]; exact u3_s _ _ _ _ _) else (by rw [hX53]; exact us1 (hQc j a (by omega) l v))) hw hS (lv_sub hl [1, 2, 3, 4, 0] rfl)
              exact lp35 (5 - 0 : Int).toNat.succ 0 Xb _ _ _ (by omega) hRXb Frm.rf (by omega) (hU.mono (by omega)) (hPb) (fun j a b => by omega) hw hS (lv_sub hl [1, 2, 3, 4, 0] rfl)
        exact lp24 (30 - 0 : Int).toNat.succ 0 Xa _ _ _ (by omega) hRXa Frm.rf (by omega) (⟨[], by simp, fun j a b e => absurd (hz j a (by omega)) (by omega)⟩) (fun y j a b => by omega) hw hS (lv_sub hl [1, 2, 3, 0] rfl)
      · refine lv_aload_n hx hb dX9_newRow_9 rfl (lv_at hl 0 rfl) ?_
        refine x_geto hx hb hf9 hw (by first | exact Int.le_refl 0 | omega) (by first | exact zlt hc40 | omega) sl_40_19 lk60 dX9_newRow_10 ?_
        refine lv_iload_n hx hb dX9_newRow_13 rfl (lv_at hl 3 rfl) ?_
        refine lv_iconst (v := jI 0) hx hb dX9_newRow_14 rfl ?_
        refine x_zast hx hb hK.1 hw hS (by first | exact Int.le_refl 0 | omega) (by first | exact zlt hc60 | omega) ar_60 (len_E ar_60 (by first | exact Nat.ne_of_beq_eq_false rfl | decide)) (by omega) (by omega) (by omega) (by omega) (by omega) dX9_newRow_15 (fun H locs hw hS => ?_)
        obtain ⟨X56, hX56⟩ : ∃ Xq, Xq = u3 Xa 60 0 k 0 := ⟨_, rfl⟩
        rw [← hX56] at hw
        have hRX56 : Rng X56 := by rw [hX56]; exact rng_set hRXa (show 0 ≤ 0 ∧ 0 ≤ 1 by omega)
        have hVX56 : X56 60 0 k = 0 := by rw [hX56]; exact u3_s _ _ _ _ _
        have hFX56 : Frm [6000, 5700, 5800, 5900] X X56 := by rw [hX56]; exact Frm.set hFXa (show 6000 ∈ [6000, 5700, 5800, 5900] by first | exact nlm_in rfl | decide)
        refine lv_iinc (v := jI (k + 1)) (lv' := [(3, .int (jI (k + 1))), (0, .ref (ad 40 0)), (1, .int (jI lane)), (2, .int (jI n))]) hx hb dX9_newRow_16 hl (k := 3) rfl (jI_add _ _) (by decide) rfl (fun ls hl => ?_)
        refine lv_goto (tgt := 2) hx hb dX9_newRow_19 (by decide) ?_
        have q57 : Frm [6000] X Xa := Frm.tr Frm.rf (Frm.mono hGXa (by first | exact nls_of rfl | decide))
        have q58 : Frm [6000] X X56 := by rw [hX56]; exact Frm.set q57 (show 6000 ∈ [6000] by first | exact nlm_in rfl | decide)
        exact ih2 (k + 1) X56 _ _ _ (by omega) hRX56 q58 (by omega) (fun j a b => if hj : j = k then (by rw [hX56, hj]; exact u3_s _ _ _ _ _) else (by rw [hX56, u3_j _ _ _ _ hj]; exact hz j a (by omega))) hw hS (lv_sub hl [1, 2, 3, 0] rfl)
  exact lp2 (400 - 0 : Int).toNat.succ 0 X _ _ _ (by omega) hR Frm.rf (by omega) (fun j a b => by omega) hw hS (lv_sub hl [1, 2, 3, 0] rfl)

set_option maxHeartbeats 4000000 in
set_option maxRecDepth 100000 in
theorem c_X9_row (l : Launch) (D : va_G) (tc : Nat → ClassId) (base : Nat) (ad : Nat → Int → Nat) (cnt : Nat → Int) (X : Nat → Int → Int → Int) (Y : Nat → Int → Int → Option Int) (ln : Int → Int) (hR : Rng X) (hFx : Fx cnt) (hMI : MInv X) (x k n : Int) (hx : -2147483648 ≤ x ∧ x ≤ 2147483647) (hk : -2147483648 ≤ k ∧ k ≤ 2147483647) (hn : -2147483648 ≤ n ∧ n ≤ 2147483647) : KI l D tc base yX9_row wsX9_row ({ frames := 2, cells := 0, slots := 0, locals := 46 } : Room) [.ref (ad 40 0), .int (jI x), .int (jI k), .int (jI n)] (ad, cnt, X, Y, ln) 0 0 (fun z u => ∃ X1 : Nat → Int → Int → Int, u = (ad, cnt, X1, Y, ln) ∧ Rng X1 ∧ Frm [4001, 6400, 6500, 6700, 6800, 6600, 4023, 5600, 6000, 5700, 5800, 5900] X X1 ∧ MInv X1 ∧ (-2147483648 ≤ z ∧ z ≤ 2147483647) ∧ ((¬ (0 ≤ x ∧ x < X 40 0 13 ∧ 0 ≤ k ∧ k < X 44 0 (X 55 0 x)) ∧ z = -1) ∨ ((0 ≤ x ∧ x < X 40 0 13 ∧ 0 ≤ k ∧ k < X 44 0 (X 55 0 x)) ∧ 12 < n ∧ z = -2) ∨ ((0 ≤ x ∧ x < X 40 0 13 ∧ 0 ≤ k ∧ k < X 44 0 (X 55 0 x)) ∧ n ≤ 12 ∧ X 46 0 (5 * X 55 0 x + k) < 3 ∧ z = -14) ∨ ((0 ≤ x ∧ x < X 40 0 13 ∧ 0 ≤ k ∧ k < X 44 0 (X 55 0 x)) ∧ n ≤ 12 ∧ 3 ≤ X 46 0 (5 * X 55 0 x + k) ∧ n < -1 ∧ z = -13) ∨ ((0 ≤ x ∧ x < X 40 0 13 ∧ 0 ≤ k ∧ k < X 44 0 (X 55 0 x)) ∧ n ≤ 12 ∧ 3 ≤ X 46 0 (5 * X 55 0 x + k) ∧ -1 ≤ n ∧ (0 < X 40 0 20 ∧ X 40 0 22 = 80) ∧ z = -4) ∨ ((0 ≤ x ∧ x < X 40 0 13 ∧ 0 ≤ k ∧ k < X 44 0 (X 55 0 x)) ∧ n ≤ 12 ∧ 3 ≤ X 46 0 (5 * X 55 0 x + k) ∧ -1 ≤ n ∧ (X 40 0 20 = 0 ∨ X 40 0 22 ≤ 79) ∧ z = 1)) ∧ (z < 0 → Frm [4001] X X1) ∧ (z = 1 → ∃ r, (eNoteM X X1 x k (if 3 ≤ X 46 0 (5 * X 55 0 x + k) then X 56 0 (5 * x + k) else -1) (-1) (X 56 0 (5 * x + k)) ∧ X1 56 0 (5 * x + k) = r ∧ ∀ p, p ≠ 5 * x + k → X1 56 0 p = X 56 0 p) ∧ ((n < 0 ∧ r = -1 ∧ X1 57 = X 57 ∧ X1 58 = X 58 ∧ X1 59 = X 59) ∨ (0 ≤ n ∧ 0 ≤ r ∧ r ≤ 399 ∧ nwM X X1 (X 46 0 (5 * X 55 0 x + k)) n r)))) := by
  refine K_of (cc := cX9_row) (maxL := 4) (ret := (some .int)) (by decide) rfl (Nat.le_of_ble_eq_true rfl) ?_
  intro p e s m below meth c ls hx hb hr hml hown hts hlocks hl hK hw hS
  have hown : s.vm.findClass RX9 = some m.cls := hown
  obtain ⟨av9, hav9⟩ : ∃ a9 : Array Value, a9 = ([.ref (ad 40 0), .int (jI x), .int (jI k), .int (jI n)] : List Value).toArray := ⟨_, rfl⟩
  rw [← hav9] at hts ⊢
  obtain ⟨Q9, hQ9⟩ : ∃ q9Q : State → Prop, q9Q = MQ below (QI D tc base (fun z u => ∃ X1 : Nat → Int → Int → Int, u = (ad, cnt, X1, Y, ln) ∧ Rng X1 ∧ Frm [4001, 6400, 6500, 6700, 6800, 6600, 4023, 5600, 6000, 5700, 5800, 5900] X X1 ∧ MInv X1 ∧ (-2147483648 ≤ z ∧ z ≤ 2147483647) ∧ ((¬ (0 ≤ x ∧ x < X 40 0 13 ∧ 0 ≤ k ∧ k < X 44 0 (X 55 0 x)) ∧ z = -1) ∨ ((0 ≤ x ∧ x < X 40 0 13 ∧ 0 ≤ k ∧ k < X 44 0 (X 55 0 x)) ∧ 12 < n ∧ z = -2) ∨ ((0 ≤ x ∧ x < X 40 0 13 ∧ 0 ≤ k ∧ k < X 44 0 (X 55 0 x)) ∧ n ≤ 12 ∧ X 46 0 (5 * X 55 0 x + k) < 3 ∧ z = -14) ∨ ((0 ≤ x ∧ x < X 40 0 13 ∧ 0 ≤ k ∧ k < X 44 0 (X 55 0 x)) ∧ n ≤ 12 ∧ 3 ≤ X 46 0 (5 * X 55 0 x + k) ∧ n < -1 ∧ z = -13) ∨ ((0 ≤ x ∧ x < X 40 0 13 ∧ 0 ≤ k ∧ k < X 44 0 (X 55 0 x)) ∧ n ≤ 12 ∧ 3 ≤ X 46 0 (5 * X 55 0 x + k) ∧ -1 ≤ n ∧ (0 < X 40 0 20 ∧ X 40 0 22 = 80) ∧ z = -4) ∨ ((0 ≤ x ∧ x < X 40 0 13 ∧ 0 ≤ k ∧ k < X 44 0 (X 55 0 x)) ∧ n ≤ 12 ∧ 3 ≤ X 46 0 (5 * X 55 0 x + k) ∧ -1 ≤ n ∧ (X 40 0 20 = 0 ∨ X 40 0 22 ≤ 79) ∧ z = 1)) ∧ (z < 0 → Frm [4001] X X1) ∧ (z = 1 → ∃ r, (eNoteM X X1 x k (if 3 ≤ X 46 0 (5 * X 55 0 x + k) then X 56 0 (5 * x + k) else -1) (-1) (X 56 0 (5 * x + k)) ∧ X1 56 0 (5 * x + k) = r ∧ ∀ p, p ≠ 5 * x + k → X1 56 0 p = X 56 0 p) ∧ ((n < 0 ∧ r = -1 ∧ X1 57 = X 57 ∧ X1 58 = X 58 ∧ X1 59 = X 59) ∨ (0 ≤ n ∧ 0 ≤ r ∧ r ≤ 399 ∧ nwM X X1 (X 46 0 (5 * X 55 0 x + k)) n r))))) av9 s 0 0 (frA base) := ⟨_, rfl⟩
  rw [← hQ9]
  have hi9 : ∀ w ∈ wsX90, w ∈ wsX9_row := fun w h => List.mem_cons_of_mem _ (List.mem_append_right _ h)
  have hf9 : fctx s m _ RX9 wsX9_row D tc RX9 TX9 51 9 := ⟨hts, hi9, hown, hK.1, rfl⟩
  have lk145 := hts (.fieldLink RX9 145 (TX9 0).1 (TX9 0).2.1 (TX9 0).2.2.1) (gj_X9_row_0 _ (gp_h))
  have hc40 : cnt 40 = 1 := hFx.at 40 1 (by decide)
  have hl : lv_has ls 4 [(0, .ref (ad 40 0)), (1, .int (jI x)), (2, .int (jI k)), (3, .int (jI n))] := hl
  have fstypes : 0 ≤ X 40 0 2 ∧ X 40 0 2 ≤ 8 := hR 40 0 2
  have fsthings : 0 ≤ X 40 0 13 ∧ X 40 0 13 ≤ 30 := hR 40 0 13
  have fsmarks : 0 ≤ X 40 0 20 ∧ X 40 0 20 ≤ 4 := hR 40 0 20
  have fsnotes : 0 ≤ X 40 0 22 ∧ X 40 0 22 ≤ 80 := hR 40 0 22
  refine lv_aload_n hx hb dX9_row_0 rfl (lv_at hl 0 rfl) ?_
  refine lv_iconst (v := jI 0) hx hb dX9_row_1 rfl ?_
  refine x_puti (jz := 0) hx hb hf9 ⟨tyX9_ok, nmX9⟩ hw hS (by first | exact Int.le_refl 0 | omega) (by first | exact zlt hc40 | omega) sl_40_0 rfl lk145 rfl (tyX9_ok 0 (by decide)) rfl rfl dX9_row_2 (fun H locs hw hS => ?_)
  obtain ⟨X1, hX1⟩ : ∃ Xq, Xq = u3 X 40 0 0 0 := ⟨_, rfl⟩
  rw [← hX1] at hw
  have hRX1 : Rng X1 := by rw [hX1]; exact rng_set hR (show (-2147483648) ≤ 0 ∧ 0 ≤ 2147483647 by omega)
  have hVX1 : X1 40 0 0 = 0 := by rw [hX1]; exact u3_s _ _ _ _ _
  have hFX1 : Frm [4001, 6400, 6500, 6700, 6800, 6600, 4023, 5600, 6000, 5700, 5800, 5900] X X1 := by rw [hX1]; exact Frm.set Frm.rf (show 4001 ∈ [4001, 6400, 6500, 6700, 6800, 6600, 4023, 5600, 6000, 5700, 5800, 5900] by first | exact nlm_in rfl | decide)
  refine lv_aload_n hx hb dX9_row_5 rfl (lv_at hl 0 rfl) ?_
  refine lv_iload_n hx hb dX9_row_6 rfl (lv_at hl 1 rfl) ?_
  refine lv_iload_n hx hb dX9_row_7 rfl (lv_at hl 2 rfl) ?_
  refine gos_i (run_V (As := [.int (jI x), .int (jI k)]) (rest := []) hx hb hml hown hts (c_X9_isField l D tc base ad cnt X1 Y ln hRX1 hFx x k (by omega) (by omega)) (cwV 2 hts gX9_row_X9_isField rfl rfl rfl (by first | exact hd_X9_isField | decide +kernel) ⟨Nat.le_of_ble_eq_true rfl, Nat.le_of_ble_eq_true rfl⟩) hK hw (by first | exact Int.le_refl 0 | omega) (by first | exact zlt hc40 | omega) sl_40_0 rfl rfl hl.1 rfl (Nat.le_of_ble_eq_true rfl) dX9_row_8 ⟨Nat.le_of_ble_eq_true rfl, Nat.le_of_ble_eq_true rfl⟩) hS (fun z2 u3 H locs p4 hw hS => ?_)
  obtain ⟨eu3, p4⟩ := p4
  subst eu3
  have e5 : X1 40 0 13 = X 40 0 13 := by rw [hX1, u3_j _ _ _ _ (by decide)]
  have e6 : ∀ j : Int, X1 55 0 j = X 55 0 j := fun j => by rw [hX1, u3_k _ _ _ _ (by first | exact Nat.ne_of_beq_eq_false rfl | decide)]
  have e7 : ∀ j : Int, X1 44 0 j = X 44 0 j := fun j => by rw [hX1, u3_k _ _ _ _ (by first | exact Nat.ne_of_beq_eq_false rfl | decide)]
  simp only [e5, e6, e7] at p4
  have q900046 : Frm [4001] X X1 := by rw [hX1]; exact Frm.set Frm.rf (show 4001 ∈ [4001] by first | exact nlm_in rfl | decide)
  rcases p4 with ⟨ez2, p4⟩ | ⟨ez2, p4⟩
  · subst ez2
    refine x_if_neT (tgt := 16) hx hb (by omega) (by decide) dX9_row_11 (by decide) ?_
    refine lv_iload_n hx hb dX9_row_16 rfl (lv_at hl 3 rfl) ?_
    refine lv_bipush (v := jI 12) hx hb dX9_row_17 (by decide) ?_
    refine x_icmp_le (tgt := 25) hx hb (by omega) (by omega) dX9_row_19 (by decide) (fun c8 => ?_) (fun c8 => ?_)
    · refine lv_aload_n hx hb dX9_row_25 rfl (lv_at hl 0 rfl) ?_
      refine lv_iload_n hx hb dX9_row_26 rfl (lv_at hl 1 rfl) ?_
      refine lv_iload_n hx hb dX9_row_27 rfl (lv_at hl 2 rfl) ?_
      refine gos_i (run_V (As := [.int (jI x), .int (jI k)]) (rest := []) hx hb hml hown hts (c_X9_lane l D tc base ad cnt X1 Y ln hRX1 hFx x k (by omega) (by omega)) (cwV 2 hts gX9_row_X9_lane rfl rfl rfl (by first | exact hd_X9_lane | decide +kernel) ⟨Nat.le_of_ble_eq_true rfl, Nat.le_of_ble_eq_true rfl⟩) hK hw (by first | exact Int.le_refl 0 | omega) (by first | exact zlt hc40 | omega) sl_40_0 rfl rfl hl.1 rfl (Nat.le_of_ble_eq_true rfl) dX9_row_28 ⟨Nat.le_of_ble_eq_true rfl, Nat.le_of_ble_eq_true rfl⟩) hS (fun z9 u10 H locs p11 hw hS => ?_)
      obtain ⟨eu10, p11⟩ := p11
      subst eu10
      have e12 : ∀ j : Int, X1 55 0 j = X 55 0 j := fun j => by rw [hX1, u3_k _ _ _ _ (by first | exact Nat.ne_of_beq_eq_false rfl | decide)]
      have e13 : ∀ j : Int, X1 46 0 j = X 46 0 j := fun j => by rw [hX1, u3_k _ _ _ _ (by first | exact Nat.ne_of_beq_eq_false rfl | decide)]
      simp only [e12, e13] at p11
      refine lv_iconst (v := jI 3) hx hb dX9_row_31 rfl ?_
      refine x_icmp_ge (tgt := 38) hx hb (by omega) (by omega) dX9_row_32 (by decide) (fun c14 => ?_) (fun c14 => ?_)
      · refine lv_iload_n hx hb dX9_row_38 rfl (lv_at hl 3 rfl) ?_
        refine lv_iconst (v := jI (-1)) hx hb dX9_row_39 rfl ?_
        refine x_icmp_ge (tgt := 46) hx hb (by omega) (by omega) dX9_row_40 (by decide) (fun c15 => ?_) (fun c15 => ?_)
        · refine lv_aload_n hx hb dX9_row_46 rfl (lv_at hl 0 rfl) ?_
          refine gos_i (run_V (As := []) (rest := []) hx hb hml hown hts (c_X9_isFull l D tc base ad cnt X1 Y ln hRX1 hFx) (cwV 0 hts gX9_row_X9_isFull rfl rfl rfl (by first | exact hd_X9_isFull | decide +kernel) ⟨Nat.le_of_ble_eq_true rfl, Nat.le_of_ble_eq_true rfl⟩) hK hw (by first | exact Int.le_refl 0 | omega) (by first | exact zlt hc40 | omega) sl_40_0 rfl rfl hl.1 rfl (Nat.le_of_ble_eq_true rfl) dX9_row_47 ⟨Nat.le_of_ble_eq_true rfl, Nat.le_of_ble_eq_true rfl⟩) hS (fun z16 u17 H locs p18 hw hS => ?_)
          obtain ⟨eu17, p18⟩ := p18
          subst eu17
          have e19 : X1 40 0 20 = X 40 0 20 := by rw [hX1, u3_j _ _ _ _ (by decide)]
          have e20 : X1 40 0 22 = X 40 0 22 := by rw [hX1, u3_j _ _ _ _ (by decide)]
          simp only [e19, e20] at p18
          rcases p18 with ⟨ez16, p18⟩ | ⟨ez16, p18⟩
          · subst ez16
            refine x_if_eqF (tgt := 56) hx hb (by omega) (by decide) dX9_row_50 (by decide) ?_
            refine lv_bipush (v := jI (-4)) hx hb dX9_row_53 (by decide) ?_
            rw [hQ9]
            refine ret_i (mc := 0) (ms := 0) hx hb hr hlocks hw hS (by first | exact Nat.le_of_ble_eq_true rfl | omega) (by first | exact Nat.le_of_ble_eq_true rfl | omega) dX9_row_55 ?_
            have hMq21 : MInv X1 := minv_frm hMI q900046 (by decide)
            exact ⟨X1, rfl, hRX1, hFX1, hMq21, by omega, (by (try delta Hid at *); exact Or.inr (Or.inr (Or.inr (Or.inr (Or.inl ⟨(by omega), by omega, by omega, by omega, (by omega), by omega⟩))))), fun _ => q900046, fun q => (by exfalso; omega)⟩
          · subst ez16
            refine x_if_eqT (tgt := 56) hx hb (by omega) (by decide) dX9_row_50 (by decide) ?_
            refine lv_aload_n hx hb dX9_row_56 rfl (lv_at hl 0 rfl) ?_
            refine lv_iload_n hx hb dX9_row_57 rfl (lv_at hl 1 rfl) ?_
            refine lv_iload_n hx hb dX9_row_58 rfl (lv_at hl 2 rfl) ?_
            refine lv_iload_n hx hb dX9_row_59 rfl (lv_at hl 3 rfl) ?_
            refine x_if_ge (tgt := 69) hx hb (by omega) dX9_row_60 (by decide) (fun c24 => ?_) (fun c24 => ?_)
            · refine lv_aload_n hx hb dX9_row_69 rfl (lv_at hl 0 rfl) ?_
              refine lv_aload_n hx hb dX9_row_70 rfl (lv_at hl 0 rfl) ?_
              refine lv_iload_n hx hb dX9_row_71 rfl (lv_at hl 1 rfl) ?_
              refine lv_iload_n hx hb dX9_row_72 rfl (lv_at hl 2 rfl) ?_
              refine gos_i (run_V (As := [.int (jI x), .int (jI k)]) (rest := [.ref (ad 40 0), .int (jI k), .int (jI x), .ref (ad 40 0)]) hx hb hml hown hts (c_X9_lane l D tc base ad cnt X1 Y ln hRX1 hFx x k (by omega) (by omega)) (cwV 2 hts gX9_row_X9_lane rfl rfl rfl (by first | exact hd_X9_lane | decide +kernel) ⟨Nat.le_of_ble_eq_true rfl, Nat.le_of_ble_eq_true rfl⟩) hK hw (by first | exact Int.le_refl 0 | omega) (by first | exact zlt hc40 | omega) sl_40_0 rfl rfl hl.1 rfl (Nat.le_of_ble_eq_true rfl) dX9_row_73 ⟨Nat.le_of_ble_eq_true rfl, Nat.le_of_ble_eq_true rfl⟩) hS (fun z25 u26 H locs p27 hw hS => ?_)
              obtain ⟨eu26, p27⟩ := p27
              subst eu26
              have e28 : ∀ j : Int, X1 55 0 j = X 55 0 j := fun j => by rw [hX1, u3_k _ _ _ _ (by first | exact Nat.ne_of_beq_eq_false rfl | decide)]
              have e29 : ∀ j : Int, X1 46 0 j = X 46 0 j := fun j => by rw [hX1, u3_k _ _ _ _ (by first | exact Nat.ne_of_beq_eq_false rfl | decide)]
              simp only [e28, e29] at p27
              refine lv_iload_n hx hb dX9_row_76 rfl (lv_at hl 3 rfl) ?_
              have hMq30 : MInv X1 := minv_frm hMI q900046 (by decide)
              refine gos_i (run_V (As := [.int (jI z25), .int (jI n)]) (rest := [.int (jI k), .int (jI x), .ref (ad 40 0)]) hx hb hml hown hts (c_X9_newRow l D tc base ad cnt X1 Y ln hRX1 hFx hMq30 z25 n (by omega) (by omega)) (cwV 2 hts gX9_row_X9_newRow rfl rfl rfl (by first | exact hd_X9_newRow | decide +kernel) ⟨Nat.le_of_ble_eq_true rfl, Nat.le_of_ble_eq_true rfl⟩) hK hw (by first | exact Int.le_refl 0 | omega) (by first | exact zlt hc40 | omega) sl_40_0 rfl rfl hl.1 rfl (Nat.le_of_ble_eq_true rfl) dX9_row_77 ⟨Nat.le_of_ble_eq_true rfl, Nat.le_of_ble_eq_true rfl⟩) hS (fun z32 u33 H locs p34 hw hS => ?_)
              obtain ⟨X35, eu33, hRX35, hG36, hMIX35, p34, hnwX35⟩ := p34
              subst eu33
              have hFX35 : Frm [4001, 6400, 6500, 6700, 6800, 6600, 4023, 5600, 6000, 5700, 5800, 5900] X X35 := Frm.tr hFX1 (Frm.mono hG36 (by first | exact nls_of rfl | decide))
              refine x_i2l hx hb (by omega) dX9_row_80 ?_
              have e37 : ∀ j : Int, X35 55 0 j = X 55 0 j := fun j => by rw [hG36 55 0 j (show 5500 ∉ [6000, 5700, 5800, 5900] by first | exact nlm_ni rfl | decide), hX1, u3_k _ _ _ _ (by first | exact Nat.ne_of_beq_eq_false rfl | decide)]
              have e38 : ∀ j : Int, X35 44 0 j = X 44 0 j := fun j => by rw [hG36 44 0 j (show 4400 ∉ [6000, 5700, 5800, 5900] by first | exact nlm_ni rfl | decide), hX1, u3_k _ _ _ _ (by first | exact Nat.ne_of_beq_eq_false rfl | decide)]
              have e39 : ∀ j : Int, X35 46 0 j = X 46 0 j := fun j => by rw [hG36 46 0 j (show 4600 ∉ [6000, 5700, 5800, 5900] by first | exact nlm_ni rfl | decide), hX1, u3_k _ _ _ _ (by first | exact Nat.ne_of_beq_eq_false rfl | decide)]
              have e40 : X35 40 0 13 = X 40 0 13 := by rw [hG36 40 0 13 (show 4014 ∉ [6000, 5700, 5800, 5900] by first | exact nlm_ni rfl | decide), hX1, u3_j _ _ _ _ (by decide)]
              have e41 : X35 40 0 20 = X 40 0 20 := by rw [hG36 40 0 20 (show 4021 ∉ [6000, 5700, 5800, 5900] by first | exact nlm_ni rfl | decide), hX1, u3_j _ _ _ _ (by decide)]
              have e42 : X35 40 0 22 = X 40 0 22 := by rw [hG36 40 0 22 (show 4023 ∉ [6000, 5700, 5800, 5900] by first | exact nlm_ni rfl | decide), hX1, u3_j _ _ _ _ (by decide)]
              refine gos_v (run_V (As := [.int (jI x), .int (jI k), .long (jL z32)]) (rest := []) hx hb hml hown hts (c_X9_becomes l D tc base ad cnt X35 Y ln hRX35 hFx hMIX35 x k z32 (by omega) (by omega) (by omega) (by simp only [e37, e38, e39, e40, e41, e42]; omega) (by simp only [e37, e38, e39, e40, e41, e42]; omega) (by unfold tyv; simp only [e37, e38, e39, e40, e41, e42]; exact ⟨fun _ => by omega, fun _ => by omega, fun _ => by omega⟩) (by simp only [e37, e38, e39, e40, e41, e42]; (try simp only [Hid] at *); omega)) (cwV 3 hts gX9_row_X9_becomes rfl rfl rfl (by first | exact hd_X9_becomes | decide +kernel) ⟨Nat.le_of_ble_eq_true rfl, Nat.le_of_ble_eq_true rfl⟩) hK hw (by first | exact Int.le_refl 0 | omega) (by first | exact zlt hc40 | omega) sl_40_0 rfl rfl hl.1 rfl (Nat.le_of_ble_eq_true rfl) dX9_row_81 ⟨Nat.le_of_ble_eq_true rfl, Nat.le_of_ble_eq_true rfl⟩) hS (fun u44 H locs p45 hw hS => ?_)
              obtain ⟨X46, eu44, hRX46, hG47, hMIX46, p45, hbnX46, hbvX46, hboX46⟩ := p45
              subst eu44
              have hFX46 : Frm [4001, 6400, 6500, 6700, 6800, 6600, 4023, 5600, 6000, 5700, 5800, 5900] X X46 := Frm.tr hFX35 (Frm.mono hG47 (by first | exact nls_of rfl | decide))
              refine lv_iconst (v := jI 1) hx hb dX9_row_84 rfl ?_
              rw [hQ9]
              refine ret_i (mc := 0) (ms := 0) hx hb hr hlocks hw hS (by first | exact Nat.le_of_ble_eq_true rfl | omega) (by first | exact Nat.le_of_ble_eq_true rfl | omega) dX9_row_85 ?_
              have q48 : Frm [4001, 5700, 5800, 5900, 6000] X X1 := by rw [hX1]; exact Frm.set Frm.rf (show 4001 ∈ [4001, 5700, 5800, 5900, 6000] by first | exact nlm_in rfl | decide)
              have q49 : Frm [4001, 5700, 5800, 5900, 6000] X X35 := Frm.tr q48 (Frm.mono hG36 (by first | exact nls_of rfl | decide))
              have e50 : ∀ j : Int, X35 46 0 j = X 46 0 j := fun j => by rw [hG36 46 0 j (show 4600 ∉ [6000, 5700, 5800, 5900] by first | exact nlm_ni rfl | decide), hX1, u3_k _ _ _ _ (by first | exact Nat.ne_of_beq_eq_false rfl | decide)]
              have e51 : ∀ j : Int, X35 55 0 j = X 55 0 j := fun j => by rw [hG36 55 0 j (show 5500 ∉ [6000, 5700, 5800, 5900] by first | exact nlm_ni rfl | decide), hX1, u3_k _ _ _ _ (by first | exact Nat.ne_of_beq_eq_false rfl | decide)]
              have e52 : ∀ j : Int, X35 56 0 j = X 56 0 j := fun j => by rw [hG36 56 0 j (show 5600 ∉ [6000, 5700, 5800, 5900] by first | exact nlm_ni rfl | decide), hX1, u3_k _ _ _ _ (by first | exact Nat.ne_of_beq_eq_false rfl | decide)]
              exact ⟨X46, rfl, hRX46, hFX46, hMIX46, by omega, (by (try delta Hid at *); exact Or.inr (Or.inr (Or.inr (Or.inr (Or.inr (⟨(by omega), by omega, by omega, by omega, (by omega), by omega⟩)))))), fun q => (by exfalso; omega), fun _ => (by simp only [e50, e51, e52] at hbnX46 hboX46; exact ⟨z32, ⟨eNoteM.from (M := [4001, 5700, 5800, 5900, 6000]) hbnX46 q49 (by decide), hbvX46, hboX46⟩, Or.inr ⟨by omega, by omega, by omega, nwM.to (nwM.from (L := [4001]) (by first | exact hnwX35 | (rw [show (X 46 0 (5 * X 55 0 x + k) : Int) = z25 by omega]; exact hnwX35) | (have h9 := hnwX35; rw [show (z25 : Int) = X 46 0 (5 * X 55 0 x + k) by omega] at h9; exact h9)) q900046 (by decide)) (Frm.arr hG47 57 (by decide +kernel) (by decide)) (Frm.arr hG47 58 (by decide +kernel) (by decide)) (Frm.arr hG47 59 (by decide +kernel) (by decide))⟩⟩)⟩
            · refine lv_ldc2 (v := jL (-1)) hx hb hown (hts (.constantLong RX9 168 (-1)) (by first | exact gj_X9_row_0 _ (gp_1 gp_h) | decide +kernel)) dX9_row_63 ?_
              refine lv_goto (tgt := 81) hx hb dX9_row_66 (by decide) ?_
              have hMq54 : MInv X1 := minv_frm hMI q900046 (by decide)
              have e56 : ∀ j : Int, X1 55 0 j = X 55 0 j := fun j => by rw [hX1, u3_k _ _ _ _ (by first | exact Nat.ne_of_beq_eq_false rfl | decide)]
              have e57 : ∀ j : Int, X1 44 0 j = X 44 0 j := fun j => by rw [hX1, u3_k _ _ _ _ (by first | exact Nat.ne_of_beq_eq_false rfl | decide)]
              have e58 : ∀ j : Int, X1 46 0 j = X 46 0 j := fun j => by rw [hX1, u3_k _ _ _ _ (by first | exact Nat.ne_of_beq_eq_false rfl | decide)]
              have e59 : X1 40 0 13 = X 40 0 13 := by rw [hX1, u3_j _ _ _ _ (by decide)]
              have e60 : X1 40 0 20 = X 40 0 20 := by rw [hX1, u3_j _ _ _ _ (by decide)]
              refine gos_v (run_V (As := [.int (jI x), .int (jI k), .long (jL (-1))]) (rest := []) hx hb hml hown hts (c_X9_becomes l D tc base ad cnt X1 Y ln hRX1 hFx hMq54 x k (-1) (by omega) (by omega) (by omega) (by simp only [e56, e57, e58, e59, e60, e20]; omega) (by simp only [e56, e57, e58, e59, e60, e20]; omega) (by unfold tyv; simp only [e56, e57, e58, e59, e60, e20]; exact ⟨fun _ => by omega, fun _ => by omega, fun _ => by omega⟩) (by simp only [e56, e57, e58, e59, e60, e20]; (try simp only [Hid] at *); omega)) (cwV 3 hts gX9_row_X9_becomes rfl rfl rfl (by first | exact hd_X9_becomes | decide +kernel) ⟨Nat.le_of_ble_eq_true rfl, Nat.le_of_ble_eq_true rfl⟩) hK hw (by first | exact Int.le_refl 0 | omega) (by first | exact zlt hc40 | omega) sl_40_0 rfl rfl hl.1 rfl (Nat.le_of_ble_eq_true rfl) dX9_row_81 ⟨Nat.le_of_ble_eq_true rfl, Nat.le_of_ble_eq_true rfl⟩) hS (fun u63 H locs p64 hw hS => ?_)
              obtain ⟨X65, eu63, hRX65, hG66, hMIX65, p64, hbnX65, hbvX65, hboX65⟩ := p64
              subst eu63
              have hFX65 : Frm [4001, 6400, 6500, 6700, 6800, 6600, 4023, 5600, 6000, 5700, 5800, 5900] X X65 := Frm.tr hFX1 (Frm.mono hG66 (by first | exact nls_of rfl | decide))
              refine lv_iconst (v := jI 1) hx hb dX9_row_84 rfl ?_
              rw [hQ9]
              refine ret_i (mc := 0) (ms := 0) hx hb hr hlocks hw hS (by first | exact Nat.le_of_ble_eq_true rfl | omega) (by first | exact Nat.le_of_ble_eq_true rfl | omega) dX9_row_85 ?_
              have e68 : ∀ j : Int, X1 46 0 j = X 46 0 j := fun j => by rw [hX1, u3_k _ _ _ _ (by first | exact Nat.ne_of_beq_eq_false rfl | decide)]
              have e69 : ∀ j : Int, X1 55 0 j = X 55 0 j := fun j => by rw [hX1, u3_k _ _ _ _ (by first | exact Nat.ne_of_beq_eq_false rfl | decide)]
              have e70 : ∀ j : Int, X1 56 0 j = X 56 0 j := fun j => by rw [hX1, u3_k _ _ _ _ (by first | exact Nat.ne_of_beq_eq_false rfl | decide)]
              have q71 : Frm [4001, 4023, 5600, 6400, 6500, 6600, 6700, 6800] X X1 := by rw [hX1]; exact Frm.set Frm.rf (show 4001 ∈ [4001, 4023, 5600, 6400, 6500, 6600, 6700, 6800] by first | exact nlm_in rfl | decide)
              have q72 : Frm [4001, 4023, 5600, 6400, 6500, 6600, 6700, 6800] X X65 := Frm.tr q71 (Frm.mono hG66 (by first | exact nls_of rfl | decide))
              exact ⟨X65, rfl, hRX65, hFX65, hMIX65, by omega, (by (try delta Hid at *); exact Or.inr (Or.inr (Or.inr (Or.inr (Or.inr (⟨(by omega), by omega, by omega, by omega, (by omega), by omega⟩)))))), fun q => (by exfalso; omega), fun _ => (by simp only [e68, e69, e70] at hbnX65 hboX65; exact ⟨-1, ⟨eNoteM.from (M := [4001]) hbnX65 q900046 (by decide), hbvX65, hboX65⟩, Or.inl ⟨by omega, rfl, Frm.arr q72 57 (by decide +kernel) (by decide), Frm.arr q72 58 (by decide +kernel) (by decide), Frm.arr q72 59 (by decide +kernel) (by decide)⟩⟩)⟩
        · refine lv_bipush (v := jI (-13)) hx hb dX9_row_43 (by decide) ?_
          rw [hQ9]
          refine ret_i (mc := 0) (ms := 0) hx hb hr hlocks hw hS (by first | exact Nat.le_of_ble_eq_true rfl | omega) (by first | exact Nat.le_of_ble_eq_true rfl | omega) dX9_row_45 ?_
          have hMq73 : MInv X1 := minv_frm hMI q900046 (by decide)
          exact ⟨X1, rfl, hRX1, hFX1, hMq73, by omega, (by (try delta Hid at *); exact Or.inr (Or.inr (Or.inr (Or.inl ⟨(by omega), by omega, by omega, by omega, by omega⟩)))), fun _ => q900046, fun q => (by exfalso; omega)⟩
      · refine lv_bipush (v := jI (-14)) hx hb dX9_row_35 (by decide) ?_
        rw [hQ9]
        refine ret_i (mc := 0) (ms := 0) hx hb hr hlocks hw hS (by first | exact Nat.le_of_ble_eq_true rfl | omega) (by first | exact Nat.le_of_ble_eq_true rfl | omega) dX9_row_37 ?_
        have hMq76 : MInv X1 := minv_frm hMI q900046 (by decide)
        exact ⟨X1, rfl, hRX1, hFX1, hMq76, by omega, (by (try delta Hid at *); exact Or.inr (Or.inr (Or.inl ⟨(by omega), by omega, by omega, by omega⟩))), fun _ => q900046, fun q => (by exfalso; omega)⟩
    · refine lv_bipush (v := jI (-2)) hx hb dX9_row_22 (by decide) ?_
      rw [hQ9]
      refine ret_i (mc := 0) (ms := 0) hx hb hr hlocks hw hS (by first | exact Nat.le_of_ble_eq_true rfl | omega) (by first | exact Nat.le_of_ble_eq_true rfl | omega) dX9_row_24 ?_
      have hMq79 : MInv X1 := minv_frm hMI q900046 (by decide)
      exact ⟨X1, rfl, hRX1, hFX1, hMq79, by omega, (by (try delta Hid at *); exact Or.inr (Or.inl ⟨(by omega), by omega, by omega⟩)), fun _ => q900046, fun q => (by exfalso; omega)⟩
  · subst ez2
    refine x_if_neF (tgt := 16) hx hb (by omega) (by decide) dX9_row_11 (by decide) ?_
    refine lv_iconst (v := jI (-1)) hx hb dX9_row_14 rfl ?_
    rw [hQ9]
    refine ret_i (mc := 0) (ms := 0) hx hb hr hlocks hw hS (by first | exact Nat.le_of_ble_eq_true rfl | omega) (by first | exact Nat.le_of_ble_eq_true rfl | omega) dX9_row_15 ?_
    have hMq82 : MInv X1 := minv_frm hMI q900046 (by decide)
    exact ⟨X1, rfl, hRX1, hFX1, hMq82, by omega, (by (try delta Hid at *); exact Or.inl ⟨(fun q => by omega), by omega⟩), fun _ => q900046, fun q => (by exfalso; omega)⟩
end
