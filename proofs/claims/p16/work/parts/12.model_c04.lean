set_option maxHeartbeats 4000000 in
set_option maxRecDepth 100000 in
theorem c_X9_field (l : Launch) (D : va_G) (tc : Nat → ClassId) (base : Nat) (ad : Nat → Int → Nat) (cnt : Nat → Int) (X : Nat → Int → Int → Int) (Y : Nat → Int → Int → Option Int) (ln : Int → Int) (hR : Rng X) (hFx : Fx cnt) (hMI : MInv X) (t name lane v : Int) (ht : -2147483648 ≤ t ∧ t ≤ 2147483647) (hname : -2147483648 ≤ name ∧ name ≤ 2147483647) (hlane : -2147483648 ≤ lane ∧ lane ≤ 2147483647) (hv : -9223372036854775808 ≤ v ∧ v ≤ 9223372036854775807) : KI l D tc base yX9_field wsX9_field ({ frames := 1, cells := 0, slots := 0, locals := 23 } : Room) [.ref (ad 40 0), .int (jI t), .int (jI name), .int (jI lane), .long (jL v)] (ad, cnt, X, Y, ln) 0 0 (fun z u => ∃ X1 : Nat → Int → Int → Int, u = (ad, cnt, X1, Y, ln) ∧ Rng X1 ∧ Frm [4001, 4500, 4600, 4700, 4800, 4400, 5600] X X1 ∧ MInv X1 ∧ (-2147483648 ≤ z ∧ z ≤ 2147483647) ∧ ((¬ (0 ≤ t ∧ t < X 40 0 2) ∧ z = -1 ∧ X1 44 0 t = X 44 0 t) ∨ (0 ≤ t ∧ t < X 40 0 2 ∧ ¬ (0 ≤ name ∧ name < 20 ∧ nmAt (fun j => X 45 0 (5 * t + j)) name (X 44 0 t).toNat = -1 ∧ 0 ≤ lane ∧ lane < 6) ∧ z = -2 ∧ X1 44 0 t = X 44 0 t) ∨ (0 ≤ t ∧ t < X 40 0 2 ∧ (0 ≤ name ∧ name < 20 ∧ nmAt (fun j => X 45 0 (5 * t + j)) name (X 44 0 t).toNat = -1 ∧ 0 ≤ lane ∧ lane < 6) ∧ 0 < X 40 0 20 ∧ z = -3 ∧ X1 44 0 t = X 44 0 t) ∨ (0 ≤ t ∧ t < X 40 0 2 ∧ (0 ≤ name ∧ name < 20 ∧ nmAt (fun j => X 45 0 (5 * t + j)) name (X 44 0 t).toNat = -1 ∧ 0 ≤ lane ∧ lane < 6) ∧ X 40 0 20 = 0 ∧ 5 ≤ X 44 0 t ∧ z = -4 ∧ X1 44 0 t = X 44 0 t) ∨ (0 ≤ t ∧ t < X 40 0 2 ∧ (0 ≤ name ∧ name < 20 ∧ nmAt (fun j => X 45 0 (5 * t + j)) name (X 44 0 t).toNat = -1 ∧ 0 ≤ lane ∧ lane < 6) ∧ X 40 0 20 = 0 ∧ X 44 0 t ≤ 4 ∧ z = X 44 0 t ∧ X1 44 0 t = X 44 0 t + 1)) ∧ (0 ≤ z → X1 45 0 (5 * t + z) = name ∧ X1 46 0 (5 * t + z) = lane ∧ X1 47 0 (5 * t + z) = (if lane = 0 then v else -1) ∧ X1 48 0 (5 * t + z) = 0) ∧ (∀ y, ¬ (0 ≤ z ∧ y = 5 * t + z) → X1 45 0 y = X 45 0 y ∧ X1 46 0 y = X 46 0 y ∧ X1 47 0 y = X 47 0 y ∧ X1 48 0 y = X 48 0 y) ∧ (∀ y, y ≠ t → X1 44 0 y = X 44 0 y) ∧ (0 ≤ z → (∀ y, 0 ≤ y → y < X 40 0 13 → X 55 0 y = t → X1 56 0 (5 * y + z) = (if lane = 0 then v else -1)) ∧ ∀ y j, 0 ≤ y → y < X 40 0 13 → 0 ≤ j → j ≤ 4 → ¬ (X 55 0 y = t ∧ j = z) → X1 56 0 (5 * y + j) = X 56 0 (5 * y + j)) ∧ (z < 0 → Frm [4001] X X1)) := by
  refine K_of (cc := cX9_field) (maxL := 8) (ret := (some .int)) (by decide) rfl (Nat.le_of_ble_eq_true rfl) ?_
  intro p e s m below meth c ls hx hb hr hml hown hts hlocks hl hK hw hS
  have hown : s.vm.findClass RX9 = some m.cls := hown
  obtain ⟨av9, hav9⟩ : ∃ a9 : Array Value, a9 = ([.ref (ad 40 0), .int (jI t), .int (jI name), .int (jI lane), .long (jL v)] : List Value).toArray := ⟨_, rfl⟩
  rw [← hav9] at hts ⊢
  obtain ⟨Q9, hQ9⟩ : ∃ q9Q : State → Prop, q9Q = MQ below (QI D tc base (fun z u => ∃ X1 : Nat → Int → Int → Int, u = (ad, cnt, X1, Y, ln) ∧ Rng X1 ∧ Frm [4001, 4500, 4600, 4700, 4800, 4400, 5600] X X1 ∧ MInv X1 ∧ (-2147483648 ≤ z ∧ z ≤ 2147483647) ∧ ((¬ (0 ≤ t ∧ t < X 40 0 2) ∧ z = -1 ∧ X1 44 0 t = X 44 0 t) ∨ (0 ≤ t ∧ t < X 40 0 2 ∧ ¬ (0 ≤ name ∧ name < 20 ∧ nmAt (fun j => X 45 0 (5 * t + j)) name (X 44 0 t).toNat = -1 ∧ 0 ≤ lane ∧ lane < 6) ∧ z = -2 ∧ X1 44 0 t = X 44 0 t) ∨ (0 ≤ t ∧ t < X 40 0 2 ∧ (0 ≤ name ∧ name < 20 ∧ nmAt (fun j => X 45 0 (5 * t + j)) name (X 44 0 t).toNat = -1 ∧ 0 ≤ lane ∧ lane < 6) ∧ 0 < X 40 0 20 ∧ z = -3 ∧ X1 44 0 t = X 44 0 t) ∨ (0 ≤ t ∧ t < X 40 0 2 ∧ (0 ≤ name ∧ name < 20 ∧ nmAt (fun j => X 45 0 (5 * t + j)) name (X 44 0 t).toNat = -1 ∧ 0 ≤ lane ∧ lane < 6) ∧ X 40 0 20 = 0 ∧ 5 ≤ X 44 0 t ∧ z = -4 ∧ X1 44 0 t = X 44 0 t) ∨ (0 ≤ t ∧ t < X 40 0 2 ∧ (0 ≤ name ∧ name < 20 ∧ nmAt (fun j => X 45 0 (5 * t + j)) name (X 44 0 t).toNat = -1 ∧ 0 ≤ lane ∧ lane < 6) ∧ X 40 0 20 = 0 ∧ X 44 0 t ≤ 4 ∧ z = X 44 0 t ∧ X1 44 0 t = X 44 0 t + 1)) ∧ (0 ≤ z → X1 45 0 (5 * t + z) = name ∧ X1 46 0 (5 * t + z) = lane ∧ X1 47 0 (5 * t + z) = (if lane = 0 then v else -1) ∧ X1 48 0 (5 * t + z) = 0) ∧ (∀ y, ¬ (0 ≤ z ∧ y = 5 * t + z) → X1 45 0 y = X 45 0 y ∧ X1 46 0 y = X 46 0 y ∧ X1 47 0 y = X 47 0 y ∧ X1 48 0 y = X 48 0 y) ∧ (∀ y, y ≠ t → X1 44 0 y = X 44 0 y) ∧ (0 ≤ z → (∀ y, 0 ≤ y → y < X 40 0 13 → X 55 0 y = t → X1 56 0 (5 * y + z) = (if lane = 0 then v else -1)) ∧ ∀ y j, 0 ≤ y → y < X 40 0 13 → 0 ≤ j → j ≤ 4 → ¬ (X 55 0 y = t ∧ j = z) → X1 56 0 (5 * y + j) = X 56 0 (5 * y + j)) ∧ (z < 0 → Frm [4001] X X1))) av9 s 0 0 (frA base) := ⟨_, rfl⟩
  rw [← hQ9]
  have hi9 : ∀ w ∈ wsX90, w ∈ wsX9_field := fun w h => List.mem_cons_of_mem _ (List.mem_append_right _ h)
  have hf9 : fctx s m _ RX9 wsX9_field D tc RX9 TX9 51 9 := ⟨hts, hi9, hown, hK.1, rfl⟩
  have lk13 := hts (.fieldLink RX9 13 (TX9 3).1 (TX9 3).2.1 (TX9 3).2.2.1) (gj_X9_field_0 _ (gp_1 (gp_1 gp_h)))
  have lk17 := hts (.fieldLink RX9 17 (TX9 4).1 (TX9 4).2.1 (TX9 4).2.2.1) (gj_X9_field_0 _ (gp_1 (gp_1 (gp_1 gp_h))))
  have lk20 := hts (.fieldLink RX9 20 (TX9 5).1 (TX9 5).2.1 (TX9 5).2.2.1) (gj_X9_field_0 _ (gp_4 gp_h))
  have lk23 := hts (.fieldLink RX9 23 (TX9 6).1 (TX9 6).2.1 (TX9 6).2.2.1) (gj_X9_field_0 _ (gp_4 (gp_1 gp_h)))
  have lk27 := hts (.fieldLink RX9 27 (TX9 7).1 (TX9 7).2.1 (TX9 7).2.2.1) (gj_X9_field_0 _ (gp_4 (gp_1 (gp_1 (gp_1 gp_h)))))
  have lk45 := hts (.fieldLink RX9 45 (TX9 14).1 (TX9 14).2.1 (TX9 14).2.2.1) (gj_X9_field_0 _ (gp_4 (gp_4 (gp_1 gp_h))))
  have lk48 := hts (.fieldLink RX9 48 (TX9 15).1 (TX9 15).2.1 (TX9 15).2.2.1) (gj_X9_field_0 _ (gp_4 (gp_4 (gp_1 (gp_1 gp_h)))))
  have lk145 := hts (.fieldLink RX9 145 (TX9 0).1 (TX9 0).2.1 (TX9 0).2.2.1) (gj_X9_field_0 _ (gp_h))
  have lk151 := hts (.fieldLink RX9 151 (TX9 13).1 (TX9 13).2.1 (TX9 13).2.2.1) (gj_X9_field_0 _ (gp_4 (gp_4 gp_h)))
  have lk165 := hts (.fieldLink RX9 165 (TX9 20).1 (TX9 20).2.1 (TX9 20).2.2.1) (gj_X9_field_0 _ (gp_1 gp_h))
  have hc40 : cnt 40 = 1 := hFx.at 40 1 (by decide)
  have hc44 : cnt 44 = 1 := hFx.at 44 1 (by decide)
  have hc45 : cnt 45 = 1 := hFx.at 45 1 (by decide)
  have hc46 : cnt 46 = 1 := hFx.at 46 1 (by decide)
  have hc47 : cnt 47 = 1 := hFx.at 47 1 (by decide)
  have hc48 : cnt 48 = 1 := hFx.at 48 1 (by decide)
  have hc55 : cnt 55 = 1 := hFx.at 55 1 (by decide)
  have hc56 : cnt 56 = 1 := hFx.at 56 1 (by decide)
  have hl : lv_has ls 8 [(0, .ref (ad 40 0)), (1, .int (jI t)), (2, .int (jI name)), (3, .int (jI lane)), (4, .long (jL v))] := hl
  have fstypes : 0 ≤ X 40 0 2 ∧ X 40 0 2 ≤ 8 := hR 40 0 2
  have fsthings : 0 ≤ X 40 0 13 ∧ X 40 0 13 ≤ 30 := hR 40 0 13
  have fsmarks : 0 ≤ X 40 0 20 ∧ X 40 0 20 ≤ 4 := hR 40 0 20
  have fsnotes : 0 ≤ X 40 0 22 ∧ X 40 0 22 ≤ 80 := hR 40 0 22
  refine lv_aload_n hx hb dX9_field_0 rfl (lv_at hl 0 rfl) ?_
  refine lv_iconst (v := jI 0) hx hb dX9_field_1 rfl ?_
  refine x_puti (jz := 0) hx hb hf9 ⟨tyX9_ok, nmX9⟩ hw hS (by first | exact Int.le_refl 0 | omega) (by first | exact zlt hc40 | omega) sl_40_0 rfl lk145 rfl (tyX9_ok 0 (by decide)) rfl rfl dX9_field_2 (fun H locs hw hS => ?_)
  obtain ⟨X1, hX1⟩ : ∃ Xq, Xq = u3 X 40 0 0 0 := ⟨_, rfl⟩
  rw [← hX1] at hw
  have hRX1 : Rng X1 := by rw [hX1]; exact rng_set hR (show (-2147483648) ≤ 0 ∧ 0 ≤ 2147483647 by omega)
  have hVX1 : X1 40 0 0 = 0 := by rw [hX1]; exact u3_s _ _ _ _ _
  have hFX1 : Frm [4001, 4500, 4600, 4700, 4800, 4400, 5600] X X1 := by rw [hX1]; exact Frm.set Frm.rf (show 4001 ∈ [4001, 4500, 4600, 4700, 4800, 4400, 5600] by decide)
  refine lv_aload_n hx hb dX9_field_5 rfl (lv_at hl 0 rfl) ?_
  refine lv_iload_n hx hb dX9_field_6 rfl (lv_at hl 1 rfl) ?_
  refine gos_i (run_V (As := [.int (jI t)]) (rest := []) hx hb hml hown hts (c_X9_isType l D tc base ad cnt X1 Y ln hRX1 hFx t (by omega)) (cwV 1 hts gX9_field_X9_isType rfl rfl rfl (by first | exact hd_X9_isType | decide +kernel) ⟨Nat.le_of_ble_eq_true rfl, Nat.le_of_ble_eq_true rfl⟩) hK hw (by first | exact Int.le_refl 0 | omega) (by first | exact zlt hc40 | omega) sl_40_0 rfl rfl hl.1 rfl (Nat.le_of_ble_eq_true rfl) dX9_field_7 ⟨Nat.le_of_ble_eq_true rfl, Nat.le_of_ble_eq_true rfl⟩) hS (fun z2 u3 H locs p4 hw hS => ?_)
  obtain ⟨eu3, p4⟩ := p4
  subst eu3
  have e5 : X1 40 0 2 = X 40 0 2 := by rw [hX1, u3_j _ _ _ _ (by decide)]
  simp only [e5] at p4
  rcases p4 with ⟨ez2, p4⟩ | ⟨ez2, p4⟩
  · subst ez2
    refine x_if_neT (tgt := 15) hx hb (by omega) (by decide) dX9_field_10 (by decide) ?_
    refine lv_iload_n hx hb dX9_field_15 rfl (lv_at hl 2 rfl) ?_
    refine x_if_lt (tgt := 43) hx hb (by omega) dX9_field_16 (by decide) (fun c6 => ?_) (fun c6 => ?_)
    · refine lv_bipush (v := jI (-2)) hx hb dX9_field_43 (by decide) ?_
      rw [hQ9]
      refine ret_i (mc := 0) (ms := 0) hx hb hr hlocks hw hS (by first | exact Nat.le_of_ble_eq_true rfl | omega) (by first | exact Nat.le_of_ble_eq_true rfl | omega) dX9_field_45 ?_
      have q8 : Frm [4001] X X1 := by rw [hX1]; exact Frm.set Frm.rf (show 4001 ∈ [4001] by decide)
      have hMq7 : MInv X1 := minv_frm hMI q8 (by decide)
      have e9 : X1 44 0 t = X 44 0 t := (by rw [hX1, u3_k _ _ _ _ (by decide)])
      have q10 : Frm [4001] X X1 := by rw [hX1]; exact Frm.set Frm.rf (show 4001 ∈ [4001] by decide)
      exact ⟨X1, rfl, hRX1, hFX1, hMq7, by omega, (by (try delta Hid at *); first | exact Or.inr (Or.inl ⟨by omega, by omega, (fun q => by omega), by omega, by omega⟩) | exact Or.inr (Or.inr (Or.inr (Or.inr ((⟨by omega, by omega, by omega, by omega, by omega, by omega, by omega⟩))))) | omega), fun h => (by exfalso; omega), fun y h => ⟨(by rw [hX1, u3_k _ _ _ _ (by decide)]), (by rw [hX1, u3_k _ _ _ _ (by decide)]), (by rw [hX1, u3_k _ _ _ _ (by decide)]), (by rw [hX1, u3_k _ _ _ _ (by decide)])⟩, fun y h => (by rw [hX1, u3_k _ _ _ _ (by decide)]), fun q => (by exfalso; omega), fun _ => q10⟩
    · refine lv_iload_n hx hb dX9_field_19 rfl (lv_at hl 2 rfl) ?_
      refine lv_bipush (v := jI 19) hx hb dX9_field_20 (by decide) ?_
      refine x_icmp_gt (tgt := 43) hx hb (by omega) (by omega) dX9_field_22 (by decide) (fun c11 => ?_) (fun c11 => ?_)
      · refine lv_bipush (v := jI (-2)) hx hb dX9_field_43 (by decide) ?_
        rw [hQ9]
        refine ret_i (mc := 0) (ms := 0) hx hb hr hlocks hw hS (by first | exact Nat.le_of_ble_eq_true rfl | omega) (by first | exact Nat.le_of_ble_eq_true rfl | omega) dX9_field_45 ?_
        have q13 : Frm [4001] X X1 := by rw [hX1]; exact Frm.set Frm.rf (show 4001 ∈ [4001] by decide)
        have hMq12 : MInv X1 := minv_frm hMI q13 (by decide)
        have e14 : X1 44 0 t = X 44 0 t := (by rw [hX1, u3_k _ _ _ _ (by decide)])
        have q15 : Frm [4001] X X1 := by rw [hX1]; exact Frm.set Frm.rf (show 4001 ∈ [4001] by decide)
        exact ⟨X1, rfl, hRX1, hFX1, hMq12, by omega, (by (try delta Hid at *); first | exact Or.inr (Or.inl ⟨by omega, by omega, (fun q => by omega), by omega, by omega⟩) | exact Or.inr (Or.inr (Or.inr (Or.inr ((⟨by omega, by omega, by omega, by omega, by omega, by omega, by omega⟩))))) | omega), fun h => (by exfalso; omega), fun y h => ⟨(by rw [hX1, u3_k _ _ _ _ (by decide)]), (by rw [hX1, u3_k _ _ _ _ (by decide)]), (by rw [hX1, u3_k _ _ _ _ (by decide)]), (by rw [hX1, u3_k _ _ _ _ (by decide)])⟩, fun y h => (by rw [hX1, u3_k _ _ _ _ (by decide)]), fun q => (by exfalso; omega), fun _ => q15⟩
      · refine lv_aload_n hx hb dX9_field_25 rfl (lv_at hl 0 rfl) ?_
        refine lv_iload_n hx hb dX9_field_26 rfl (lv_at hl 1 rfl) ?_
        refine lv_iload_n hx hb dX9_field_27 rfl (lv_at hl 2 rfl) ?_
        refine gos_i (run_V (As := [.int (jI t), .int (jI name)]) (rest := []) hx hb hml hown hts (c_X9_named l D tc base ad cnt X1 Y ln hRX1 hFx t name (by omega) (by omega)) (cwV 2 hts gX9_field_X9_named rfl rfl rfl (by first | exact hd_X9_named | decide +kernel) ⟨Nat.le_of_ble_eq_true rfl, Nat.le_of_ble_eq_true rfl⟩) hK hw (by first | exact Int.le_refl 0 | omega) (by first | exact zlt hc40 | omega) sl_40_0 rfl rfl hl.1 rfl (Nat.le_of_ble_eq_true rfl) dX9_field_28 ⟨Nat.le_of_ble_eq_true rfl, Nat.le_of_ble_eq_true rfl⟩) hS (fun z16 u17 H locs p18 hw hS => ?_)
        obtain ⟨eu17, p18⟩ := p18
        subst eu17
        have e19 : ∀ j : Int, X1 44 0 j = X 44 0 j := fun j => by rw [hX1, u3_k _ _ _ _ (by decide)]
        have e20 : ∀ j : Int, X1 45 0 j = X 45 0 j := fun j => by rw [hX1, u3_k _ _ _ _ (by decide)]
        simp only [e19, e20] at p18
        refine x_if_ge (tgt := 43) hx hb (by omega) dX9_field_31 (by decide) (fun c21 => ?_) (fun c21 => ?_)
        · refine lv_bipush (v := jI (-2)) hx hb dX9_field_43 (by decide) ?_
          rw [hQ9]
          refine ret_i (mc := 0) (ms := 0) hx hb hr hlocks hw hS (by first | exact Nat.le_of_ble_eq_true rfl | omega) (by first | exact Nat.le_of_ble_eq_true rfl | omega) dX9_field_45 ?_
          have q23 : Frm [4001] X X1 := by rw [hX1]; exact Frm.set Frm.rf (show 4001 ∈ [4001] by decide)
          have hMq22 : MInv X1 := minv_frm hMI q23 (by decide)
          have e24 : X1 44 0 t = X 44 0 t := (by rw [hX1, u3_k _ _ _ _ (by decide)])
          have q25 : Frm [4001] X X1 := by rw [hX1]; exact Frm.set Frm.rf (show 4001 ∈ [4001] by decide)
          exact ⟨X1, rfl, hRX1, hFX1, hMq22, by omega, (by (try delta Hid at *); first | exact Or.inr (Or.inl ⟨by omega, by omega, (fun q => by omega), by omega, by omega⟩) | exact Or.inr (Or.inr (Or.inr (Or.inr ((⟨by omega, by omega, by omega, by omega, by omega, by omega, by omega⟩))))) | omega), fun h => (by exfalso; omega), fun y h => ⟨(by rw [hX1, u3_k _ _ _ _ (by decide)]), (by rw [hX1, u3_k _ _ _ _ (by decide)]), (by rw [hX1, u3_k _ _ _ _ (by decide)]), (by rw [hX1, u3_k _ _ _ _ (by decide)])⟩, fun y h => (by rw [hX1, u3_k _ _ _ _ (by decide)]), fun q => (by exfalso; omega), fun _ => q25⟩
        · refine lv_iload_n hx hb dX9_field_34 rfl (lv_at hl 3 rfl) ?_
          refine x_if_lt (tgt := 43) hx hb (by omega) dX9_field_35 (by decide) (fun c26 => ?_) (fun c26 => ?_)
          · refine lv_bipush (v := jI (-2)) hx hb dX9_field_43 (by decide) ?_
            rw [hQ9]
            refine ret_i (mc := 0) (ms := 0) hx hb hr hlocks hw hS (by first | exact Nat.le_of_ble_eq_true rfl | omega) (by first | exact Nat.le_of_ble_eq_true rfl | omega) dX9_field_45 ?_
            have q28 : Frm [4001] X X1 := by rw [hX1]; exact Frm.set Frm.rf (show 4001 ∈ [4001] by decide)
            have hMq27 : MInv X1 := minv_frm hMI q28 (by decide)
            have e29 : X1 44 0 t = X 44 0 t := (by rw [hX1, u3_k _ _ _ _ (by decide)])
            have q30 : Frm [4001] X X1 := by rw [hX1]; exact Frm.set Frm.rf (show 4001 ∈ [4001] by decide)
            exact ⟨X1, rfl, hRX1, hFX1, hMq27, by omega, (by (try delta Hid at *); first | exact Or.inr (Or.inl ⟨by omega, by omega, (fun q => by omega), by omega, by omega⟩) | exact Or.inr (Or.inr (Or.inr (Or.inr ((⟨by omega, by omega, by omega, by omega, by omega, by omega, by omega⟩))))) | omega), fun h => (by exfalso; omega), fun y h => ⟨(by rw [hX1, u3_k _ _ _ _ (by decide)]), (by rw [hX1, u3_k _ _ _ _ (by decide)]), (by rw [hX1, u3_k _ _ _ _ (by decide)]), (by rw [hX1, u3_k _ _ _ _ (by decide)])⟩, fun y h => (by rw [hX1, u3_k _ _ _ _ (by decide)]), fun q => (by exfalso; omega), fun _ => q30⟩
          · refine lv_iload_n hx hb dX9_field_38 rfl (lv_at hl 3 rfl) ?_
            refine lv_iconst (v := jI 5) hx hb dX9_field_39 rfl ?_
            refine x_icmp_le (tgt := 46) hx hb (by omega) (by omega) dX9_field_40 (by decide) (fun c31 => ?_) (fun c31 => ?_)
            · refine lv_aload_n hx hb dX9_field_46 rfl (lv_at hl 0 rfl) ?_
              refine x_geti (jz := 20) hx hb hf9 hw (by first | exact Int.le_refl 0 | omega) (by first | exact zlt hc40 | omega) sl_40_20 rfl lk165 dX9_field_47 ?_
              have e32 : X1 40 0 20 = X 40 0 20 := by rw [hX1, u3_j _ _ _ _ (by decide)]
              rw [e32]
              have f33 : 0 ≤ X 40 0 20 ∧ X 40 0 20 ≤ 4 := hR 40 0 20
              refine x_if_le (tgt := 56) hx hb (by omega) dX9_field_50 (by decide) (fun c34 => ?_) (fun c34 => ?_)
              · refine lv_aload_n hx hb dX9_field_56 rfl (lv_at hl 0 rfl) ?_
                refine x_geto hx hb hf9 hw (by first | exact Int.le_refl 0 | omega) (by first | exact zlt hc40 | omega) sl_40_3 lk13 dX9_field_57 ?_
                refine lv_iload_n hx hb dX9_field_60 rfl (lv_at hl 1 rfl) ?_
                refine x_iald hx hb hK.1 hw (by first | exact Int.le_refl 0 | omega) (by first | exact zlt hc44 | omega) ar_44 (len_E ar_44 (by decide)) (by omega) (by omega) (by omega) dX9_field_61 ?_
                have e35 : ∀ p9 q9 : Int, X1 44 p9 q9 = X 44 p9 q9 := fun p9 q9 => by rw [hX1, u3_k _ _ _ _ (by decide)]
                rw [e35 0 t]
                have f36 : 0 ≤ X 44 0 t ∧ X 44 0 t ≤ 5 := hR 44 0 t
                refine lv_iconst (v := jI 5) hx hb dX9_field_62 rfl ?_
                refine x_icmp_ne (tgt := 69) hx hb (by omega) (by omega) dX9_field_63 (by decide) (fun c37 => ?_) (fun c37 => ?_)
                · refine lv_aload_n hx hb dX9_field_69 rfl (lv_at hl 0 rfl) ?_
                  refine x_geto hx hb hf9 hw (by first | exact Int.le_refl 0 | omega) (by first | exact zlt hc40 | omega) sl_40_3 lk13 dX9_field_70 ?_
                  refine lv_iload_n hx hb dX9_field_73 rfl (lv_at hl 1 rfl) ?_
                  refine x_iald hx hb hK.1 hw (by first | exact Int.le_refl 0 | omega) (by first | exact zlt hc44 | omega) ar_44 (len_E ar_44 (by decide)) (by omega) (by omega) (by omega) dX9_field_74 ?_
                  have e38 : ∀ p9 q9 : Int, X1 44 p9 q9 = X 44 p9 q9 := fun p9 q9 => by rw [hX1, u3_k _ _ _ _ (by decide)]
                  rw [e38 0 t]
                  have f39 : 0 ≤ X 44 0 t ∧ X 44 0 t ≤ 5 := hR 44 0 t
                  refine lv_istore (lv' := [(6, .int (jI (X 44 0 t))), (0, .ref (ad 40 0)), (1, .int (jI t)), (2, .int (jI name)), (3, .int (jI lane)), (4, .long (jL v))]) hx hb dX9_field_75 hl (by decide) rfl (fun ls hl => ?_)
                  refine lv_aload_n hx hb dX9_field_77 rfl (lv_at hl 1 rfl) ?_
                  refine x_geto hx hb hf9 hw (by first | exact Int.le_refl 0 | omega) (by first | exact zlt hc40 | omega) sl_40_4 lk17 dX9_field_78 ?_
                  refine lv_iconst (v := jI 5) hx hb dX9_field_81 rfl ?_
                  refine lv_iload_n hx hb dX9_field_82 rfl (lv_at hl 2 rfl) ?_
                  refine x_imul hx hb dX9_field_83 ?_
                  refine lv_iload hx hb dX9_field_84 (lv_at hl 0 rfl) ?_
                  refine x_iadd hx hb dX9_field_86 ?_
                  refine lv_iload_n hx hb dX9_field_87 rfl (lv_at hl 3 rfl) ?_
                  refine x_iast hx hb hK.1 hw hS (by first | exact Int.le_refl 0 | omega) (by first | exact zlt hc45 | omega) ar_45 (len_E ar_45 (by decide)) (by omega) (by omega) (by omega) dX9_field_88 (fun H locs hw hS => ?_)
                  obtain ⟨X40, hX40⟩ : ∃ Xq, Xq = u3 X1 45 0 ((5 * t) + (X 44 0 t)) name := ⟨_, rfl⟩
                  rw [← hX40] at hw
                  have hRX40 : Rng X40 := by rw [hX40]; exact rng_set hRX1 (show 0 ≤ name ∧ name ≤ 19 by omega)
                  have hVX40 : X40 45 0 ((5 * t) + (X 44 0 t)) = name := by rw [hX40]; exact u3_s _ _ _ _ _
                  have hFX40 : Frm [4001, 4500, 4600, 4700, 4800, 4400, 5600] X X40 := by rw [hX40]; exact Frm.set hFX1 (show 4500 ∈ [4001, 4500, 4600, 4700, 4800, 4400, 5600] by decide)
                  refine lv_aload_n hx hb dX9_field_89 rfl (lv_at hl 1 rfl) ?_
                  refine x_geto hx hb hf9 hw (by first | exact Int.le_refl 0 | omega) (by first | exact zlt hc40 | omega) sl_40_5 lk20 dX9_field_90 ?_
                  refine lv_iconst (v := jI 5) hx hb dX9_field_93 rfl ?_
                  refine lv_iload_n hx hb dX9_field_94 rfl (lv_at hl 2 rfl) ?_
                  refine x_imul hx hb dX9_field_95 ?_
                  refine lv_iload hx hb dX9_field_96 (lv_at hl 0 rfl) ?_
                  refine x_iadd hx hb dX9_field_98 ?_
                  refine lv_iload_n hx hb dX9_field_99 rfl (lv_at hl 4 rfl) ?_
                  refine x_iast hx hb hK.1 hw hS (by first | exact Int.le_refl 0 | omega) (by first | exact zlt hc46 | omega) ar_46 (len_E ar_46 (by decide)) (by omega) (by omega) (by omega) dX9_field_100 (fun H locs hw hS => ?_)
                  obtain ⟨X41, hX41⟩ : ∃ Xq, Xq = u3 X40 46 0 ((5 * t) + (X 44 0 t)) lane := ⟨_, rfl⟩
                  rw [← hX41] at hw
                  have hRX41 : Rng X41 := by rw [hX41]; exact rng_set hRX40 (show 0 ≤ lane ∧ lane ≤ 5 by omega)
                  have hVX41 : X41 46 0 ((5 * t) + (X 44 0 t)) = lane := by rw [hX41]; exact u3_s _ _ _ _ _
                  have hFX41 : Frm [4001, 4500, 4600, 4700, 4800, 4400, 5600] X X41 := by rw [hX41]; exact Frm.set hFX40 (show 4600 ∈ [4001, 4500, 4600, 4700, 4800, 4400, 5600] by decide)
                  refine lv_aload_n hx hb dX9_field_101 rfl (lv_at hl 1 rfl) ?_
                  refine x_geto hx hb hf9 hw (by first | exact Int.le_refl 0 | omega) (by first | exact zlt hc40 | omega) sl_40_6 lk23 dX9_field_102 ?_
                  refine lv_iconst (v := jI 5) hx hb dX9_field_105 rfl ?_
                  refine lv_iload_n hx hb dX9_field_106 rfl (lv_at hl 2 rfl) ?_
                  refine x_imul hx hb dX9_field_107 ?_
                  refine lv_iload hx hb dX9_field_108 (lv_at hl 0 rfl) ?_
                  refine x_iadd hx hb dX9_field_110 ?_
                  refine lv_iload_n hx hb dX9_field_111 rfl (lv_at hl 4 rfl) ?_
                  refine x_if_ne (tgt := 120) hx hb (by omega) dX9_field_112 (by decide) (fun c42 => ?_) (fun c42 => ?_)
                  · refine lv_ldc2 (v := jL (-1)) hx hb hown (hts (.constantLong RX9 168 (-1)) (by first | exact gj_X9_field_0 _ (gp_4 (gp_1 (gp_1 gp_h))) | decide +kernel)) dX9_field_120 ?_
                    refine x_last hx hb hK.1 hw hS (by first | exact Int.le_refl 0 | omega) (by first | exact zlt hc47 | omega) ar_47 (len_E ar_47 (by decide)) (by omega) (by omega) (by omega) dX9_field_123 (fun H locs hw hS => ?_)
                    obtain ⟨X43, hX43⟩ : ∃ Xq, Xq = u3 X41 47 0 ((5 * t) + (X 44 0 t)) (-1) := ⟨_, rfl⟩
                    rw [← hX43] at hw
                    have hRX43 : Rng X43 := by rw [hX43]; exact rng_set hRX41 (show (-9223372036854775808) ≤ (-1) ∧ (-1) ≤ 9223372036854775807 by omega)
                    have hVX43 : X43 47 0 ((5 * t) + (X 44 0 t)) = (-1) := by rw [hX43]; exact u3_s _ _ _ _ _
                    have hFX43 : Frm [4001, 4500, 4600, 4700, 4800, 4400, 5600] X X43 := by rw [hX43]; exact Frm.set hFX41 (show 4700 ∈ [4001, 4500, 4600, 4700, 4800, 4400, 5600] by decide)
                    refine lv_aload_n hx hb dX9_field_124 rfl (lv_at hl 1 rfl) ?_
                    refine x_geto hx hb hf9 hw (by first | exact Int.le_refl 0 | omega) (by first | exact zlt hc40 | omega) sl_40_7 lk27 dX9_field_125 ?_
                    refine lv_iconst (v := jI 5) hx hb dX9_field_128 rfl ?_
                    refine lv_iload_n hx hb dX9_field_129 rfl (lv_at hl 2 rfl) ?_
                    refine x_imul hx hb dX9_field_130 ?_
                    refine lv_iload hx hb dX9_field_131 (lv_at hl 0 rfl) ?_
                    refine x_iadd hx hb dX9_field_133 ?_
                    refine lv_iconst (v := jI 0) hx hb dX9_field_134 rfl ?_
                    refine x_zast hx hb hK.1 hw hS (by first | exact Int.le_refl 0 | omega) (by first | exact zlt hc48 | omega) ar_48 (len_E ar_48 (by decide)) (by omega) (by omega) (by omega) (by omega) (by omega) dX9_field_135 (fun H locs hw hS => ?_)
                    obtain ⟨X44, hX44⟩ : ∃ Xq, Xq = u3 X43 48 0 ((5 * t) + (X 44 0 t)) 0 := ⟨_, rfl⟩
                    rw [← hX44] at hw
                    have hRX44 : Rng X44 := by rw [hX44]; exact rng_set hRX43 (show 0 ≤ 0 ∧ 0 ≤ 1 by omega)
                    have hVX44 : X44 48 0 ((5 * t) + (X 44 0 t)) = 0 := by rw [hX44]; exact u3_s _ _ _ _ _
                    have hFX44 : Frm [4001, 4500, 4600, 4700, 4800, 4400, 5600] X X44 := by rw [hX44]; exact Frm.set hFX43 (show 4800 ∈ [4001, 4500, 4600, 4700, 4800, 4400, 5600] by decide)
                    refine lv_aload_n hx hb dX9_field_136 rfl (lv_at hl 1 rfl) ?_
                    refine x_geto hx hb hf9 hw (by first | exact Int.le_refl 0 | omega) (by first | exact zlt hc40 | omega) sl_40_3 lk13 dX9_field_137 ?_
                    refine lv_iload_n hx hb dX9_field_140 rfl (lv_at hl 2 rfl) ?_
                    refine lv_dup2_11 hx hb dX9_field_141 rfl rfl ?_
                    refine x_iald hx hb hK.1 hw (by first | exact Int.le_refl 0 | omega) (by first | exact zlt hc44 | omega) ar_44 (len_E ar_44 (by decide)) (by omega) (by omega) (by omega) dX9_field_142 ?_
                    have e45 : ∀ p9 q9 : Int, X44 44 p9 q9 = X 44 p9 q9 := fun p9 q9 => by rw [hX44, u3_k _ _ _ _ (by decide), hX43, u3_k _ _ _ _ (by decide), hX41, u3_k _ _ _ _ (by decide), hX40, u3_k _ _ _ _ (by decide), hX1, u3_k _ _ _ _ (by decide)]
                    rw [e45 0 t]
                    have f46 : 0 ≤ X 44 0 t ∧ X 44 0 t ≤ 5 := hR 44 0 t
                    refine lv_iconst (v := jI 1) hx hb dX9_field_143 rfl ?_
                    refine x_iadd hx hb dX9_field_144 ?_
                    refine x_iast hx hb hK.1 hw hS (by first | exact Int.le_refl 0 | omega) (by first | exact zlt hc44 | omega) ar_44 (len_E ar_44 (by decide)) (by omega) (by omega) (by omega) dX9_field_145 (fun H locs hw hS => ?_)
                    obtain ⟨X47, hX47⟩ : ∃ Xq, Xq = u3 X44 44 0 t ((X 44 0 t) + 1) := ⟨_, rfl⟩
                    rw [← hX47] at hw
                    have hRX47 : Rng X47 := by rw [hX47]; exact rng_set hRX44 (show 0 ≤ ((X 44 0 t) + 1) ∧ ((X 44 0 t) + 1) ≤ 5 by omega)
                    have hVX47 : X47 44 0 t = ((X 44 0 t) + 1) := by rw [hX47]; exact u3_s _ _ _ _ _
                    have hFX47 : Frm [4001, 4500, 4600, 4700, 4800, 4400, 5600] X X47 := by rw [hX47]; exact Frm.set hFX44 (show 4400 ∈ [4001, 4500, 4600, 4700, 4800, 4400, 5600] by decide)
                    refine lv_iconst (v := jI 0) hx hb dX9_field_146 rfl ?_
                    refine lv_istore (lv' := [(7, .int (jI 0)), (6, .int (jI (X 44 0 t))), (0, .ref (ad 40 0)), (1, .int (jI t)), (2, .int (jI name)), (3, .int (jI lane)), (4, .long (jL v))]) hx hb dX9_field_147 hl (by decide) rfl (fun ls hl => ?_)
                    have lp149 : ∀ (nn : Nat) (x : Int) (Xa : Nat → Int → Int → Int) (H : Heap) (locs : List Loc) (ls : Array Slot), (30 - x) < (nn : Int) → (Rng Xa) → (Frm [5600] X47 Xa) → (0 ≤ x ∧ x ≤ 30) → (Fld Xa t (X 44 0 t) x) → (∀ y, 0 ≤ y → y < x → X 55 0 y = t → Xa 56 0 (5 * y + X 44 0 t) = (if lane = 0 then v else -1)) → (∀ y j, 0 ≤ j → j ≤ 4 → ¬ (0 ≤ y ∧ y < x ∧ X 55 0 y = t ∧ j = X 44 0 t) → Xa 56 0 (5 * y + j) = X 56 0 (5 * y + j)) → wd D tc base (ad, cnt, Xa, Y, ln) H → va_S (frA base) s.heap H locs → lv_has ls 8 [(0, .ref (ad 40 0)), (1, .int (jI t)), (2, .int (jI name)), (3, .int (jI lane)), (6, .int (jI (X 44 0 t))), (7, .int (jI x))] → W p l e ({ frames := 1, cells := 0, slots := 0, locals := 23 } : Room) s m av9 below meth c H locs 0 0 Q9 (F0 m 149 ls []) := by
                      intro nn
                      induction nn with
                      | zero => intro x Xa H locs ls hm hRXa hGXa hx7 hFl hva hvo hw hS hl; exfalso; omega
                      | succ nn ih149 =>
                        intro x Xa H locs ls hm hRXa hGXa hx7 hFl hva hvo hw hS hl
                        have hFXa : Frm [4001, 4500, 4600, 4700, 4800, 4400, 5600] X Xa := Frm.tr hFX47 (Frm.mono hGXa (by decide))
                        refine lv_iload hx hb dX9_field_149 (lv_at hl 5 rfl) ?_
                        refine lv_aload_n hx hb dX9_field_151 rfl (lv_at hl 0 rfl) ?_
                        refine x_geti (jz := 13) hx hb hf9 hw (by first | exact Int.le_refl 0 | omega) (by first | exact zlt hc40 | omega) sl_40_13 rfl lk151 dX9_field_152 ?_
                        have e48 : Xa 40 0 13 = X 40 0 13 := by rw [hGXa 40 0 13 (show 4014 ∉ [5600] by decide), hX47, u3_k _ _ _ _ (by decide), hX44, u3_k _ _ _ _ (by decide), hX43, u3_k _ _ _ _ (by decide), hX41, u3_k _ _ _ _ (by decide), hX40, u3_k _ _ _ _ (by decide), hX1, u3_j _ _ _ _ (by decide)]
                        rw [e48]
                        have f49 : 0 ≤ X 40 0 13 ∧ X 40 0 13 ≤ 30 := hR 40 0 13
                        refine x_icmp_ge (tgt := 198) hx hb (by omega) (by omega) dX9_field_155 (by decide) (fun c50 => ?_) (fun c50 => ?_)
                        · refine lv_iload hx hb dX9_field_198 (lv_at hl 4 rfl) ?_
                          rw [hQ9]
                          refine ret_i (mc := 0) (ms := 0) hx hb hr hlocks hw hS (by first | exact Nat.le_of_ble_eq_true rfl | omega) (by first | exact Nat.le_of_ble_eq_true rfl | omega) dX9_field_200 ?_
                          have e51 : Xa 44 0 t = X 44 0 t + 1 := (by rw [hGXa 44 0 t (show 4400 ∉ [5600] by decide)]; exact hVX47)
                          exact ⟨Xa, rfl, hRXa, hFXa, hFl.out (by rw [hGXa 40 0 13 (show 4014 ∉ [5600] by decide), hX47, u3_k _ _ _ _ (by decide), hX44, u3_k _ _ _ _ (by decide), hX43, u3_k _ _ _ _ (by decide), hX41, u3_k _ _ _ _ (by decide), hX40, u3_k _ _ _ _ (by decide), hX1, u3_j _ _ _ _ (by decide)]; omega), by omega, (by (try delta Hid at *); first | exact Or.inr (Or.inr (Or.inr (Or.inr ((⟨by omega, by omega, by omega, by omega, by omega, by omega, by omega⟩))))) | omega), fun h => ⟨(by rw [hGXa 45 0 (5 * t + X 44 0 t) (show 4500 ∉ [5600] by decide), hX47, u3_k _ _ _ _ (by decide), hX44, u3_k _ _ _ _ (by decide), hX43, u3_k _ _ _ _ (by decide), hX41, u3_k _ _ _ _ (by decide)]; exact hVX40), (by rw [hGXa 46 0 (5 * t + X 44 0 t) (show 4600 ∉ [5600] by decide), hX47, u3_k _ _ _ _ (by decide), hX44, u3_k _ _ _ _ (by decide), hX43, u3_k _ _ _ _ (by decide)]; exact hVX41), (by rw [hGXa 47 0 (5 * t + X 44 0 t) (show 4700 ∉ [5600] by decide), hX47, u3_k _ _ _ _ (by decide), hX44, u3_k _ _ _ _ (by decide)]; rw [hVX43]; split <;> omega), (by rw [hGXa 48 0 (5 * t + X 44 0 t) (show 4800 ∉ [5600] by decide), hX47, u3_k _ _ _ _ (by decide)]; exact hVX44)⟩, fun y h => ⟨(by rw [hGXa 45 0 y (show 4500 ∉ [5600] by decide), hX47, u3_k _ _ _ _ (by decide), hX44, u3_k _ _ _ _ (by decide), hX43, u3_k _ _ _ _ (by decide), hX41, u3_k _ _ _ _ (by decide), hX40, u3_j _ _ _ _ (by omega), hX1, u3_k _ _ _ _ (by decide)]), (by rw [hGXa 46 0 y (show 4600 ∉ [5600] by decide), hX47, u3_k _ _ _ _ (by decide), hX44, u3_k _ _ _ _ (by decide), hX43, u3_k _ _ _ _ (by decide), hX41, u3_j _ _ _ _ (by omega), hX40, u3_k _ _ _ _ (by decide), hX1, u3_k _ _ _ _ (by decide)]), (by rw [hGXa 47 0 y (show 4700 ∉ [5600] by decide), hX47, u3_k _ _ _ _ (by decide), hX44, u3_k _ _ _ _ (by decide), hX43, u3_j _ _ _ _ (by omega), hX41, u3_k _ _ _ _ (by decide), hX40, u3_k _ _ _ _ (by decide), hX1, u3_k _ _ _ _ (by decide)]), (by rw [hGXa 48 0 y (show 4800 ∉ [5600] by decide), hX47, u3_k _ _ _ _ (by decide), hX44, u3_j _ _ _ _ (by omega), hX43, u3_k _ _ _ _ (by decide), hX41, u3_k _ _ _ _ (by decide), hX40, u3_k _ _ _ _ (by decide), hX1, u3_k _ _ _ _ (by decide)])⟩, fun y h => (by rw [hGXa 44 0 y (show 4400 ∉ [5600] by decide), hX47, u3_j _ _ _ _ h, hX44, u3_k _ _ _ _ (by decide), hX43, u3_k _ _ _ _ (by decide), hX41, u3_k _ _ _ _ (by decide), hX40, u3_k _ _ _ _ (by decide), hX1, u3_k _ _ _ _ (by decide)]), fun _ => ⟨fun y a b e => hva y a (by omega) e, fun y j a b c d e => hvo y j c d (fun q => e ⟨q.2.2.1, q.2.2.2⟩)⟩, fun q => (by exfalso; omega)⟩
                        · refine lv_aload_n hx hb dX9_field_158 rfl (lv_at hl 0 rfl) ?_
                          refine x_geto hx hb hf9 hw (by first | exact Int.le_refl 0 | omega) (by first | exact zlt hc40 | omega) sl_40_14 lk45 dX9_field_159 ?_
                          refine lv_iload hx hb dX9_field_162 (lv_at hl 5 rfl) ?_
                          refine x_iald hx hb hK.1 hw (by first | exact Int.le_refl 0 | omega) (by first | exact zlt hc55 | omega) ar_55 (len_E ar_55 (by decide)) (by omega) (by omega) (by omega) dX9_field_164 ?_
                          have e52 : ∀ p9 q9 : Int, Xa 55 p9 q9 = X 55 p9 q9 := fun p9 q9 => by rw [hGXa 55 p9 q9 (show 5500 ∉ [5600] by decide), hX47, u3_k _ _ _ _ (by decide), hX44, u3_k _ _ _ _ (by decide), hX43, u3_k _ _ _ _ (by decide), hX41, u3_k _ _ _ _ (by decide), hX40, u3_k _ _ _ _ (by decide), hX1, u3_k _ _ _ _ (by decide)]
                          rw [e52 0 x]
                          have f53 : 0 ≤ X 55 0 x ∧ X 55 0 x ≤ 7 := hR 55 0 x
                          refine lv_iload_n hx hb dX9_field_165 rfl (lv_at hl 1 rfl) ?_
                          refine x_icmp_ne (tgt := 192) hx hb (by omega) (by omega) dX9_field_166 (by decide) (fun c54 => ?_) (fun c54 => ?_)
                          · refine lv_iinc (v := jI (x + 1)) (lv' := [(7, .int (jI (x + 1))), (0, .ref (ad 40 0)), (1, .int (jI t)), (2, .int (jI name)), (3, .int (jI lane)), (6, .int (jI (X 44 0 t)))]) hx hb dX9_field_192 hl (k := 5) rfl (jI_add _ _) (by decide) rfl (fun ls hl => ?_)
                            refine lv_goto (tgt := 149) hx hb dX9_field_195 (by decide) ?_
                            have q55 : Frm [5600] X47 Xa := Frm.tr Frm.rf (Frm.mono hGXa (by decide))
                            exact ih149 (x + 1) Xa _ _ _ (by omega) hRXa q55 (by omega) (hFl.skip (by rw [hGXa 55 0 x (show 5500 ∉ [5600] by decide), hX47, u3_k _ _ _ _ (by decide), hX44, u3_k _ _ _ _ (by decide), hX43, u3_k _ _ _ _ (by decide), hX41, u3_k _ _ _ _ (by decide), hX40, u3_k _ _ _ _ (by decide), hX1, u3_k _ _ _ _ (by decide)]; omega)) (fun y a b c => hva y a (by have : y ≠ x := fun q => (by rw [q] at c; omega); omega) c) (fun y j a b n => hvo y j a b (fun q9 => n ⟨q9.1, by omega, q9.2.2.1, q9.2.2.2⟩)) hw hS (lv_sub hl [1, 2, 3, 4, 5, 0] rfl)
                          · refine lv_aload_n hx hb dX9_field_169 rfl (lv_at hl 0 rfl) ?_
                            refine x_geto hx hb hf9 hw (by first | exact Int.le_refl 0 | omega) (by first | exact zlt hc40 | omega) sl_40_15 lk48 dX9_field_170 ?_
                            refine lv_iconst (v := jI 5) hx hb dX9_field_173 rfl ?_
                            refine lv_iload hx hb dX9_field_174 (lv_at hl 5 rfl) ?_
                            refine x_imul hx hb dX9_field_176 ?_
                            refine lv_iload hx hb dX9_field_177 (lv_at hl 4 rfl) ?_
                            refine x_iadd hx hb dX9_field_179 ?_
                            refine lv_aload_n hx hb dX9_field_180 rfl (lv_at hl 0 rfl) ?_
                            refine x_geto hx hb hf9 hw (by first | exact Int.le_refl 0 | omega) (by first | exact zlt hc40 | omega) sl_40_6 lk23 dX9_field_181 ?_
                            refine lv_iconst (v := jI 5) hx hb dX9_field_184 rfl ?_
                            refine lv_iload_n hx hb dX9_field_185 rfl (lv_at hl 1 rfl) ?_
                            refine x_imul hx hb dX9_field_186 ?_
                            refine lv_iload hx hb dX9_field_187 (lv_at hl 4 rfl) ?_
                            refine x_iadd hx hb dX9_field_189 ?_
                            refine x_lald hx hb hK.1 hw (by first | exact Int.le_refl 0 | omega) (by first | exact zlt hc47 | omega) ar_47 (len_E ar_47 (by decide)) (by omega) (by omega) (by omega) dX9_field_190 ?_
                            have e56 : Xa 47 0 ((5 * t) + (X 44 0 t)) = X43 47 0 ((5 * t) + (X 44 0 t)) := by rw [hGXa 47 0 ((5 * t) + (X 44 0 t)) (show 4700 ∉ [5600] by decide), hX47, u3_k _ _ _ _ (by decide), hX44, u3_k _ _ _ _ (by decide)]
                            rw [e56]
                            rw [hVX43]
                            refine x_last hx hb hK.1 hw hS (by first | exact Int.le_refl 0 | omega) (by first | exact zlt hc56 | omega) ar_56 (len_E ar_56 (by decide)) (by omega) (by omega) (by omega) dX9_field_191 (fun H locs hw hS => ?_)
                            obtain ⟨X57, hX57⟩ : ∃ Xq, Xq = u3 Xa 56 0 ((5 * x) + (X 44 0 t)) (-1) := ⟨_, rfl⟩
                            rw [← hX57] at hw
                            have hRX57 : Rng X57 := by rw [hX57]; exact rng_set hRXa (show (-9223372036854775808) ≤ (-1) ∧ (-1) ≤ 9223372036854775807 by omega)
                            have hVX57 : X57 56 0 ((5 * x) + (X 44 0 t)) = (-1) := by rw [hX57]; exact u3_s _ _ _ _ _
                            have hFX57 : Frm [4001, 4500, 4600, 4700, 4800, 4400, 5600] X X57 := by rw [hX57]; exact Frm.set hFXa (show 5600 ∈ [4001, 4500, 4600, 4700, 4800, 4400, 5600] by decide)
                            refine lv_iinc (v := jI (x + 1)) (lv' := [(7, .int (jI (x + 1))), (0, .ref (ad 40 0)), (1, .int (jI t)), (2, .int (jI name)), (3, .int (jI lane)), (6, .int (jI (X 44 0 t)))]) hx hb dX9_field_192 hl (k := 5) rfl (jI_add _ _) (by decide) rfl (fun ls hl => ?_)
                            refine lv_goto (tgt := 149) hx hb dX9_field_195 (by decide) ?_
                            have q58 : Frm [5600] X47 Xa := Frm.tr Frm.rf (Frm.mono hGXa (by decide))
                            have q59 : Frm [5600] X47 X57 := by rw [hX57]; exact Frm.set q58 (show 5600 ∈ [5600] by decide)
                            exact ih149 (x + 1) X57 _ _ _ (by omega) hRX57 q59 (by omega) ((by rw [hX57]; exact hFl.step hRXa (by omega) (by rw [hGXa 55 0 x (show 5500 ∉ [5600] by decide), hX47, u3_k _ _ _ _ (by decide), hX44, u3_k _ _ _ _ (by decide), hX43, u3_k _ _ _ _ (by decide), hX41, u3_k _ _ _ _ (by decide), hX40, u3_k _ _ _ _ (by decide), hX1, u3_k _ _ _ _ (by decide)]; omega) (by first | exact tyv_none (show 0 ≤ Xa 40 0 13 from (hRXa 40 0 13).1) | (rw [hGXa 46 0 (5 * t + X 44 0 t) (show 4600 ∉ [5600] by decide), hX47, u3_k _ _ _ _ (by decide), hX44, u3_k _ _ _ _ (by decide), hX43, u3_k _ _ _ _ (by decide), hVX41, show lane = 0 by omega]; exact tyv_0)))) (fun y a b c => if hy : y = x then (by rw [hy, hVX57]; split <;> omega) else (by rw [hX57, u3_j _ _ _ _ (by omega)]; exact hva y a (by omega) c)) (fun y j a b n => (if q : y = x ∧ j = X 44 0 t then absurd ⟨by omega, by omega, by rw [q.1]; omega, q.2⟩ n else (by rw [hX57, u3_j _ _ _ _ (by omega)]; exact hvo y j a b (fun q9 => n ⟨q9.1, by omega, q9.2.2.1, q9.2.2.2⟩)))) hw hS (lv_sub hl [1, 2, 3, 4, 5, 0] rfl)
                    have q60 : Frm [4001, 4500, 4600, 4700, 4800, 4400] X X1 := by rw [hX1]; exact Frm.set Frm.rf (show 4001 ∈ [4001, 4500, 4600, 4700, 4800, 4400] by decide)
                    have q61 : Frm [4001, 4500, 4600, 4700, 4800, 4400] X X40 := by rw [hX40]; exact Frm.set q60 (show 4500 ∈ [4001, 4500, 4600, 4700, 4800, 4400] by decide)
                    have q62 : Frm [4001, 4500, 4600, 4700, 4800, 4400] X X41 := by rw [hX41]; exact Frm.set q61 (show 4600 ∈ [4001, 4500, 4600, 4700, 4800, 4400] by decide)
                    have q63 : Frm [4001, 4500, 4600, 4700, 4800, 4400] X X43 := by rw [hX43]; exact Frm.set q62 (show 4700 ∈ [4001, 4500, 4600, 4700, 4800, 4400] by decide)
                    have q64 : Frm [4001, 4500, 4600, 4700, 4800, 4400] X X44 := by rw [hX44]; exact Frm.set q63 (show 4800 ∈ [4001, 4500, 4600, 4700, 4800, 4400] by decide)
                    have q65 : Frm [4001, 4500, 4600, 4700, 4800, 4400] X X47 := by rw [hX47]; exact Frm.set q64 (show 4400 ∈ [4001, 4500, 4600, 4700, 4800, 4400] by decide)
                    exact lp149 (30 - 0 : Int).toNat.succ 0 X47 _ _ _ (by omega) hRX47 Frm.rf (by omega) (Fld.in_field (lane := lane) (v := (-1)) hMI hR (by omega) (by omega) (by omega) (fun q => by omega) q65 (fun j hj => (by rw [hX47, u3_j _ _ _ _ hj, hX44, u3_k _ _ _ _ (by decide), hX43, u3_k _ _ _ _ (by decide), hX41, u3_k _ _ _ _ (by decide), hX40, u3_k _ _ _ _ (by decide), hX1, u3_k _ _ _ _ (by decide)])) hVX47 (fun j hj => ⟨(by rw [hX47, u3_k _ _ _ _ (by decide), hX44, u3_k _ _ _ _ (by decide), hX43, u3_k _ _ _ _ (by decide), hX41, u3_j _ _ _ _ hj, hX40, u3_k _ _ _ _ (by decide), hX1, u3_k _ _ _ _ (by decide)]), (by rw [hX47, u3_k _ _ _ _ (by decide), hX44, u3_k _ _ _ _ (by decide), hX43, u3_j _ _ _ _ hj, hX41, u3_k _ _ _ _ (by decide), hX40, u3_k _ _ _ _ (by decide), hX1, u3_k _ _ _ _ (by decide)])⟩) ⟨(by rw [hX47, u3_k _ _ _ _ (by decide), hX44, u3_k _ _ _ _ (by decide), hX43, u3_k _ _ _ _ (by decide)]; exact hVX41), (by rw [hX47, u3_k _ _ _ _ (by decide), hX44, u3_k _ _ _ _ (by decide)]; exact hVX43)⟩) (fun y a b => by omega) (fun y j _ _ _ => (by rw [hX47, u3_k _ _ _ _ (by decide), hX44, u3_k _ _ _ _ (by decide), hX43, u3_k _ _ _ _ (by decide), hX41, u3_k _ _ _ _ (by decide), hX40, u3_k _ _ _ _ (by decide), hX1, u3_k _ _ _ _ (by decide)])) hw hS (lv_sub hl [2, 3, 4, 5, 1, 0] rfl)
                  · refine lv_lload hx hb dX9_field_115 (lv_at hl 5 rfl) ?_
                    refine lv_goto (tgt := 123) hx hb dX9_field_117 (by decide) ?_
                    refine x_last hx hb hK.1 hw hS (by first | exact Int.le_refl 0 | omega) (by first | exact zlt hc47 | omega) ar_47 (len_E ar_47 (by decide)) (by omega) (by omega) (by omega) dX9_field_123 (fun H locs hw hS => ?_)
                    obtain ⟨X66, hX66⟩ : ∃ Xq, Xq = u3 X41 47 0 ((5 * t) + (X 44 0 t)) v := ⟨_, rfl⟩
                    rw [← hX66] at hw
                    have hRX66 : Rng X66 := by rw [hX66]; exact rng_set hRX41 (show (-9223372036854775808) ≤ v ∧ v ≤ 9223372036854775807 by omega)
                    have hVX66 : X66 47 0 ((5 * t) + (X 44 0 t)) = v := by rw [hX66]; exact u3_s _ _ _ _ _
                    have hFX66 : Frm [4001, 4500, 4600, 4700, 4800, 4400, 5600] X X66 := by rw [hX66]; exact Frm.set hFX41 (show 4700 ∈ [4001, 4500, 4600, 4700, 4800, 4400, 5600] by decide)
                    refine lv_aload_n hx hb dX9_field_124 rfl (lv_at hl 1 rfl) ?_
                    refine x_geto hx hb hf9 hw (by first | exact Int.le_refl 0 | omega) (by first | exact zlt hc40 | omega) sl_40_7 lk27 dX9_field_125 ?_
                    refine lv_iconst (v := jI 5) hx hb dX9_field_128 rfl ?_
                    refine lv_iload_n hx hb dX9_field_129 rfl (lv_at hl 2 rfl) ?_
                    refine x_imul hx hb dX9_field_130 ?_
                    refine lv_iload hx hb dX9_field_131 (lv_at hl 0 rfl) ?_
                    refine x_iadd hx hb dX9_field_133 ?_
                    refine lv_iconst (v := jI 0) hx hb dX9_field_134 rfl ?_
                    refine x_zast hx hb hK.1 hw hS (by first | exact Int.le_refl 0 | omega) (by first | exact zlt hc48 | omega) ar_48 (len_E ar_48 (by decide)) (by omega) (by omega) (by omega) (by omega) (by omega) dX9_field_135 (fun H locs hw hS => ?_)
                    obtain ⟨X67, hX67⟩ : ∃ Xq, Xq = u3 X66 48 0 ((5 * t) + (X 44 0 t)) 0 := ⟨_, rfl⟩
                    rw [← hX67] at hw
                    have hRX67 : Rng X67 := by rw [hX67]; exact rng_set hRX66 (show 0 ≤ 0 ∧ 0 ≤ 1 by omega)
                    have hVX67 : X67 48 0 ((5 * t) + (X 44 0 t)) = 0 := by rw [hX67]; exact u3_s _ _ _ _ _
                    have hFX67 : Frm [4001, 4500, 4600, 4700, 4800, 4400, 5600] X X67 := by rw [hX67]; exact Frm.set hFX66 (show 4800 ∈ [4001, 4500, 4600, 4700, 4800, 4400, 5600] by decide)
                    refine lv_aload_n hx hb dX9_field_136 rfl (lv_at hl 1 rfl) ?_
                    refine x_geto hx hb hf9 hw (by first | exact Int.le_refl 0 | omega) (by first | exact zlt hc40 | omega) sl_40_3 lk13 dX9_field_137 ?_
                    refine lv_iload_n hx hb dX9_field_140 rfl (lv_at hl 2 rfl) ?_
                    refine lv_dup2_11 hx hb dX9_field_141 rfl rfl ?_
                    refine x_iald hx hb hK.1 hw (by first | exact Int.le_refl 0 | omega) (by first | exact zlt hc44 | omega) ar_44 (len_E ar_44 (by decide)) (by omega) (by omega) (by omega) dX9_field_142 ?_
                    have e68 : ∀ p9 q9 : Int, X67 44 p9 q9 = X 44 p9 q9 := fun p9 q9 => by rw [hX67, u3_k _ _ _ _ (by decide), hX66, u3_k _ _ _ _ (by decide), hX41, u3_k _ _ _ _ (by decide), hX40, u3_k _ _ _ _ (by decide), hX1, u3_k _ _ _ _ (by decide)]
                    rw [e68 0 t]
                    have f69 : 0 ≤ X 44 0 t ∧ X 44 0 t ≤ 5 := hR 44 0 t
                    refine lv_iconst (v := jI 1) hx hb dX9_field_143 rfl ?_
                    refine x_iadd hx hb dX9_field_144 ?_
                    refine x_iast hx hb hK.1 hw hS (by first | exact Int.le_refl 0 | omega) (by first | exact zlt hc44 | omega) ar_44 (len_E ar_44 (by decide)) (by omega) (by omega) (by omega) dX9_field_145 (fun H locs hw hS => ?_)
                    obtain ⟨X70, hX70⟩ : ∃ Xq, Xq = u3 X67 44 0 t ((X 44 0 t) + 1) := ⟨_, rfl⟩
                    rw [← hX70] at hw
                    have hRX70 : Rng X70 := by rw [hX70]; exact rng_set hRX67 (show 0 ≤ ((X 44 0 t) + 1) ∧ ((X 44 0 t) + 1) ≤ 5 by omega)
                    have hVX70 : X70 44 0 t = ((X 44 0 t) + 1) := by rw [hX70]; exact u3_s _ _ _ _ _
                    have hFX70 : Frm [4001, 4500, 4600, 4700, 4800, 4400, 5600] X X70 := by rw [hX70]; exact Frm.set hFX67 (show 4400 ∈ [4001, 4500, 4600, 4700, 4800, 4400, 5600] by decide)
                    refine lv_iconst (v := jI 0) hx hb dX9_field_146 rfl ?_
                    refine lv_istore (lv' := [(7, .int (jI 0)), (6, .int (jI (X 44 0 t))), (0, .ref (ad 40 0)), (1, .int (jI t)), (2, .int (jI name)), (3, .int (jI lane)), (4, .long (jL v))]) hx hb dX9_field_147 hl (by decide) rfl (fun ls hl => ?_)
                    have lp149 : ∀ (nn : Nat) (x : Int) (Xa : Nat → Int → Int → Int) (H : Heap) (locs : List Loc) (ls : Array Slot), (30 - x) < (nn : Int) → (Rng Xa) → (Frm [5600] X70 Xa) → (0 ≤ x ∧ x ≤ 30) → (Fld Xa t (X 44 0 t) x) → (∀ y, 0 ≤ y → y < x → X 55 0 y = t → Xa 56 0 (5 * y + X 44 0 t) = (if lane = 0 then v else -1)) → (∀ y j, 0 ≤ j → j ≤ 4 → ¬ (0 ≤ y ∧ y < x ∧ X 55 0 y = t ∧ j = X 44 0 t) → Xa 56 0 (5 * y + j) = X 56 0 (5 * y + j)) → wd D tc base (ad, cnt, Xa, Y, ln) H → va_S (frA base) s.heap H locs → lv_has ls 8 [(0, .ref (ad 40 0)), (1, .int (jI t)), (2, .int (jI name)), (3, .int (jI lane)), (6, .int (jI (X 44 0 t))), (7, .int (jI x))] → W p l e ({ frames := 1, cells := 0, slots := 0, locals := 23 } : Room) s m av9 below meth c H locs 0 0 Q9 (F0 m 149 ls []) := by
                      intro nn
                      induction nn with
                      | zero => intro x Xa H locs ls hm hRXa hGXa hx7 hFl hva hvo hw hS hl; exfalso; omega
                      | succ nn ih149 =>
                        intro x Xa H locs ls hm hRXa hGXa hx7 hFl hva hvo hw hS hl
                        have hFXa : Frm [4001, 4500, 4600, 4700, 4800, 4400, 5600] X Xa := Frm.tr hFX70 (Frm.mono hGXa (by decide))
                        refine lv_iload hx hb dX9_field_149 (lv_at hl 5 rfl) ?_
                        refine lv_aload_n hx hb dX9_field_151 rfl (lv_at hl 0 rfl) ?_
                        refine x_geti (jz := 13) hx hb hf9 hw (by first | exact Int.le_refl 0 | omega) (by first | exact zlt hc40 | omega) sl_40_13 rfl lk151 dX9_field_152 ?_
                        have e71 : Xa 40 0 13 = X 40 0 13 := by rw [hGXa 40 0 13 (show 4014 ∉ [5600] by decide), hX70, u3_k _ _ _ _ (by decide), hX67, u3_k _ _ _ _ (by decide), hX66, u3_k _ _ _ _ (by decide), hX41, u3_k _ _ _ _ (by decide), hX40, u3_k _ _ _ _ (by decide), hX1, u3_j _ _ _ _ (by decide)]
                        rw [e71]
                        have f72 : 0 ≤ X 40 0 13 ∧ X 40 0 13 ≤ 30 := hR 40 0 13
                        refine x_icmp_ge (tgt := 198) hx hb (by omega) (by omega) dX9_field_155 (by decide) (fun c73 => ?_) (fun c73 => ?_)
                        · refine lv_iload hx hb dX9_field_198 (lv_at hl 4 rfl) ?_
                          rw [hQ9]
                          refine ret_i (mc := 0) (ms := 0) hx hb hr hlocks hw hS (by first | exact Nat.le_of_ble_eq_true rfl | omega) (by first | exact Nat.le_of_ble_eq_true rfl | omega) dX9_field_200 ?_
                          have e74 : Xa 44 0 t = X 44 0 t + 1 := (by rw [hGXa 44 0 t (show 4400 ∉ [5600] by decide)]; exact hVX70)
                          exact ⟨Xa, rfl, hRXa, hFXa, hFl.out (by rw [hGXa 40 0 13 (show 4014 ∉ [5600] by decide), hX70, u3_k _ _ _ _ (by decide), hX67, u3_k _ _ _ _ (by decide), hX66, u3_k _ _ _ _ (by decide), hX41, u3_k _ _ _ _ (by decide), hX40, u3_k _ _ _ _ (by decide), hX1, u3_j _ _ _ _ (by decide)]; omega), by omega, (by (try delta Hid at *); first | exact Or.inr (Or.inr (Or.inr (Or.inr ((⟨by omega, by omega, by omega, by omega, by omega, by omega, by omega⟩))))) | omega), fun h => ⟨(by rw [hGXa 45 0 (5 * t + X 44 0 t) (show 4500 ∉ [5600] by decide), hX70, u3_k _ _ _ _ (by decide), hX67, u3_k _ _ _ _ (by decide), hX66, u3_k _ _ _ _ (by decide), hX41, u3_k _ _ _ _ (by decide)]; exact hVX40), (by rw [hGXa 46 0 (5 * t + X 44 0 t) (show 4600 ∉ [5600] by decide), hX70, u3_k _ _ _ _ (by decide), hX67, u3_k _ _ _ _ (by decide), hX66, u3_k _ _ _ _ (by decide)]; exact hVX41), (by rw [hGXa 47 0 (5 * t + X 44 0 t) (show 4700 ∉ [5600] by decide), hX70, u3_k _ _ _ _ (by decide), hX67, u3_k _ _ _ _ (by decide)]; rw [hVX66]; split <;> omega), (by rw [hGXa 48 0 (5 * t + X 44 0 t) (show 4800 ∉ [5600] by decide), hX70, u3_k _ _ _ _ (by decide)]; exact hVX67)⟩, fun y h => ⟨(by rw [hGXa 45 0 y (show 4500 ∉ [5600] by decide), hX70, u3_k _ _ _ _ (by decide), hX67, u3_k _ _ _ _ (by decide), hX66, u3_k _ _ _ _ (by decide), hX41, u3_k _ _ _ _ (by decide), hX40, u3_j _ _ _ _ (by omega), hX1, u3_k _ _ _ _ (by decide)]), (by rw [hGXa 46 0 y (show 4600 ∉ [5600] by decide), hX70, u3_k _ _ _ _ (by decide), hX67, u3_k _ _ _ _ (by decide), hX66, u3_k _ _ _ _ (by decide), hX41, u3_j _ _ _ _ (by omega), hX40, u3_k _ _ _ _ (by decide), hX1, u3_k _ _ _ _ (by decide)]), (by rw [hGXa 47 0 y (show 4700 ∉ [5600] by decide), hX70, u3_k _ _ _ _ (by decide), hX67, u3_k _ _ _ _ (by decide), hX66, u3_j _ _ _ _ (by omega), hX41, u3_k _ _ _ _ (by decide), hX40, u3_k _ _ _ _ (by decide), hX1, u3_k _ _ _ _ (by decide)]), (by rw [hGXa 48 0 y (show 4800 ∉ [5600] by decide), hX70, u3_k _ _ _ _ (by decide), hX67, u3_j _ _ _ _ (by omega), hX66, u3_k _ _ _ _ (by decide), hX41, u3_k _ _ _ _ (by decide), hX40, u3_k _ _ _ _ (by decide), hX1, u3_k _ _ _ _ (by decide)])⟩, fun y h => (by rw [hGXa 44 0 y (show 4400 ∉ [5600] by decide), hX70, u3_j _ _ _ _ h, hX67, u3_k _ _ _ _ (by decide), hX66, u3_k _ _ _ _ (by decide), hX41, u3_k _ _ _ _ (by decide), hX40, u3_k _ _ _ _ (by decide), hX1, u3_k _ _ _ _ (by decide)]), fun _ => ⟨fun y a b e => hva y a (by omega) e, fun y j a b c d e => hvo y j c d (fun q => e ⟨q.2.2.1, q.2.2.2⟩)⟩, fun q => (by exfalso; omega)⟩
                        · refine lv_aload_n hx hb dX9_field_158 rfl (lv_at hl 0 rfl) ?_
                          refine x_geto hx hb hf9 hw (by first | exact Int.le_refl 0 | omega) (by first | exact zlt hc40 | omega) sl_40_14 lk45 dX9_field_159 ?_
                          refine lv_iload hx hb dX9_field_162 (lv_at hl 5 rfl) ?_
                          refine x_iald hx hb hK.1 hw (by first | exact Int.le_refl 0 | omega) (by first | exact zlt hc55 | omega) ar_55 (len_E ar_55 (by decide)) (by omega) (by omega) (by omega) dX9_field_164 ?_
                          have e75 : ∀ p9 q9 : Int, Xa 55 p9 q9 = X 55 p9 q9 := fun p9 q9 => by rw [hGXa 55 p9 q9 (show 5500 ∉ [5600] by decide), hX70, u3_k _ _ _ _ (by decide), hX67, u3_k _ _ _ _ (by decide), hX66, u3_k _ _ _ _ (by decide), hX41, u3_k _ _ _ _ (by decide), hX40, u3_k _ _ _ _ (by decide), hX1, u3_k _ _ _ _ (by decide)]
                          rw [e75 0 x]
                          have f76 : 0 ≤ X 55 0 x ∧ X 55 0 x ≤ 7 := hR 55 0 x
                          refine lv_iload_n hx hb dX9_field_165 rfl (lv_at hl 1 rfl) ?_
                          refine x_icmp_ne (tgt := 192) hx hb (by omega) (by omega) dX9_field_166 (by decide) (fun c77 => ?_) (fun c77 => ?_)
                          · refine lv_iinc (v := jI (x + 1)) (lv' := [(7, .int (jI (x + 1))), (0, .ref (ad 40 0)), (1, .int (jI t)), (2, .int (jI name)), (3, .int (jI lane)), (6, .int (jI (X 44 0 t)))]) hx hb dX9_field_192 hl (k := 5) rfl (jI_add _ _) (by decide) rfl (fun ls hl => ?_)
                            refine lv_goto (tgt := 149) hx hb dX9_field_195 (by decide) ?_
                            have q78 : Frm [5600] X70 Xa := Frm.tr Frm.rf (Frm.mono hGXa (by decide))
                            exact ih149 (x + 1) Xa _ _ _ (by omega) hRXa q78 (by omega) (hFl.skip (by rw [hGXa 55 0 x (show 5500 ∉ [5600] by decide), hX70, u3_k _ _ _ _ (by decide), hX67, u3_k _ _ _ _ (by decide), hX66, u3_k _ _ _ _ (by decide), hX41, u3_k _ _ _ _ (by decide), hX40, u3_k _ _ _ _ (by decide), hX1, u3_k _ _ _ _ (by decide)]; omega)) (fun y a b c => hva y a (by have : y ≠ x := fun q => (by rw [q] at c; omega); omega) c) (fun y j a b n => hvo y j a b (fun q9 => n ⟨q9.1, by omega, q9.2.2.1, q9.2.2.2⟩)) hw hS (lv_sub hl [1, 2, 3, 4, 5, 0] rfl)
                          · refine lv_aload_n hx hb dX9_field_169 rfl (lv_at hl 0 rfl) ?_
                            refine x_geto hx hb hf9 hw (by first | exact Int.le_refl 0 | omega) (by first | exact zlt hc40 | omega) sl_40_15 lk48 dX9_field_170 ?_
                            refine lv_iconst (v := jI 5) hx hb dX9_field_173 rfl ?_
                            refine lv_iload hx hb dX9_field_174 (lv_at hl 5 rfl) ?_
                            refine x_imul hx hb dX9_field_176 ?_
                            refine lv_iload hx hb dX9_field_177 (lv_at hl 4 rfl) ?_
                            refine x_iadd hx hb dX9_field_179 ?_
                            refine lv_aload_n hx hb dX9_field_180 rfl (lv_at hl 0 rfl) ?_
                            refine x_geto hx hb hf9 hw (by first | exact Int.le_refl 0 | omega) (by first | exact zlt hc40 | omega) sl_40_6 lk23 dX9_field_181 ?_
                            refine lv_iconst (v := jI 5) hx hb dX9_field_184 rfl ?_
                            refine lv_iload_n hx hb dX9_field_185 rfl (lv_at hl 1 rfl) ?_
                            refine x_imul hx hb dX9_field_186 ?_
                            refine lv_iload hx hb dX9_field_187 (lv_at hl 4 rfl) ?_
                            refine x_iadd hx hb dX9_field_189 ?_
                            refine x_lald hx hb hK.1 hw (by first | exact Int.le_refl 0 | omega) (by first | exact zlt hc47 | omega) ar_47 (len_E ar_47 (by decide)) (by omega) (by omega) (by omega) dX9_field_190 ?_
                            have e79 : Xa 47 0 ((5 * t) + (X 44 0 t)) = X66 47 0 ((5 * t) + (X 44 0 t)) := by rw [hGXa 47 0 ((5 * t) + (X 44 0 t)) (show 4700 ∉ [5600] by decide), hX70, u3_k _ _ _ _ (by decide), hX67, u3_k _ _ _ _ (by decide)]
                            rw [e79]
                            rw [hVX66]
                            refine x_last hx hb hK.1 hw hS (by first | exact Int.le_refl 0 | omega) (by first | exact zlt hc56 | omega) ar_56 (len_E ar_56 (by decide)) (by omega) (by omega) (by omega) dX9_field_191 (fun H locs hw hS => ?_)
                            obtain ⟨X80, hX80⟩ : ∃ Xq, Xq = u3 Xa 56 0 ((5 * x) + (X 44 0 t)) v := ⟨_, rfl⟩
                            rw [← hX80] at hw
                            have hRX80 : Rng X80 := by rw [hX80]; exact rng_set hRXa (show (-9223372036854775808) ≤ v ∧ v ≤ 9223372036854775807 by omega)
                            have hVX80 : X80 56 0 ((5 * x) + (X 44 0 t)) = v := by rw [hX80]; exact u3_s _ _ _ _ _
                            have hFX80 : Frm [4001, 4500, 4600, 4700, 4800, 4400, 5600] X X80 := by rw [hX80]; exact Frm.set hFXa (show 5600 ∈ [4001, 4500, 4600, 4700, 4800, 4400, 5600] by decide)
                            refine lv_iinc (v := jI (x + 1)) (lv' := [(7, .int (jI (x + 1))), (0, .ref (ad 40 0)), (1, .int (jI t)), (2, .int (jI name)), (3, .int (jI lane)), (6, .int (jI (X 44 0 t)))]) hx hb dX9_field_192 hl (k := 5) rfl (jI_add _ _) (by decide) rfl (fun ls hl => ?_)
                            refine lv_goto (tgt := 149) hx hb dX9_field_195 (by decide) ?_
                            have q81 : Frm [5600] X70 Xa := Frm.tr Frm.rf (Frm.mono hGXa (by decide))
                            have q82 : Frm [5600] X70 X80 := by rw [hX80]; exact Frm.set q81 (show 5600 ∈ [5600] by decide)
                            exact ih149 (x + 1) X80 _ _ _ (by omega) hRX80 q82 (by omega) ((by rw [hX80]; exact hFl.step hRXa (by omega) (by rw [hGXa 55 0 x (show 5500 ∉ [5600] by decide), hX70, u3_k _ _ _ _ (by decide), hX67, u3_k _ _ _ _ (by decide), hX66, u3_k _ _ _ _ (by decide), hX41, u3_k _ _ _ _ (by decide), hX40, u3_k _ _ _ _ (by decide), hX1, u3_k _ _ _ _ (by decide)]; omega) (by first | exact tyv_none (show 0 ≤ Xa 40 0 13 from (hRXa 40 0 13).1) | (rw [hGXa 46 0 (5 * t + X 44 0 t) (show 4600 ∉ [5600] by decide), hX70, u3_k _ _ _ _ (by decide), hX67, u3_k _ _ _ _ (by decide), hX66, u3_k _ _ _ _ (by decide), hVX41, show lane = 0 by omega]; exact tyv_0)))) (fun y a b c => if hy : y = x then (by rw [hy, hVX80]; split <;> omega) else (by rw [hX80, u3_j _ _ _ _ (by omega)]; exact hva y a (by omega) c)) (fun y j a b n => (if q : y = x ∧ j = X 44 0 t then absurd ⟨by omega, by omega, by rw [q.1]; omega, q.2⟩ n else (by rw [hX80, u3_j _ _ _ _ (by omega)]; exact hvo y j a b (fun q9 => n ⟨q9.1, by omega, q9.2.2.1, q9.2.2.2⟩)))) hw hS (lv_sub hl [1, 2, 3, 4, 5, 0] rfl)
                    have q83 : Frm [4001, 4500, 4600, 4700, 4800, 4400] X X1 := by rw [hX1]; exact Frm.set Frm.rf (show 4001 ∈ [4001, 4500, 4600, 4700, 4800, 4400] by decide)
                    have q84 : Frm [4001, 4500, 4600, 4700, 4800, 4400] X X40 := by rw [hX40]; exact Frm.set q83 (show 4500 ∈ [4001, 4500, 4600, 4700, 4800, 4400] by decide)
                    have q85 : Frm [4001, 4500, 4600, 4700, 4800, 4400] X X41 := by rw [hX41]; exact Frm.set q84 (show 4600 ∈ [4001, 4500, 4600, 4700, 4800, 4400] by decide)
                    have q86 : Frm [4001, 4500, 4600, 4700, 4800, 4400] X X66 := by rw [hX66]; exact Frm.set q85 (show 4700 ∈ [4001, 4500, 4600, 4700, 4800, 4400] by decide)
                    have q87 : Frm [4001, 4500, 4600, 4700, 4800, 4400] X X67 := by rw [hX67]; exact Frm.set q86 (show 4800 ∈ [4001, 4500, 4600, 4700, 4800, 4400] by decide)
                    have q88 : Frm [4001, 4500, 4600, 4700, 4800, 4400] X X70 := by rw [hX70]; exact Frm.set q87 (show 4400 ∈ [4001, 4500, 4600, 4700, 4800, 4400] by decide)
                    exact lp149 (30 - 0 : Int).toNat.succ 0 X70 _ _ _ (by omega) hRX70 Frm.rf (by omega) (Fld.in_field (lane := lane) (v := v) hMI hR (by omega) (by omega) (by omega) (fun q => by omega) q88 (fun j hj => (by rw [hX70, u3_j _ _ _ _ hj, hX67, u3_k _ _ _ _ (by decide), hX66, u3_k _ _ _ _ (by decide), hX41, u3_k _ _ _ _ (by decide), hX40, u3_k _ _ _ _ (by decide), hX1, u3_k _ _ _ _ (by decide)])) hVX70 (fun j hj => ⟨(by rw [hX70, u3_k _ _ _ _ (by decide), hX67, u3_k _ _ _ _ (by decide), hX66, u3_k _ _ _ _ (by decide), hX41, u3_j _ _ _ _ hj, hX40, u3_k _ _ _ _ (by decide), hX1, u3_k _ _ _ _ (by decide)]), (by rw [hX70, u3_k _ _ _ _ (by decide), hX67, u3_k _ _ _ _ (by decide), hX66, u3_j _ _ _ _ hj, hX41, u3_k _ _ _ _ (by decide), hX40, u3_k _ _ _ _ (by decide), hX1, u3_k _ _ _ _ (by decide)])⟩) ⟨(by rw [hX70, u3_k _ _ _ _ (by decide), hX67, u3_k _ _ _ _ (by decide), hX66, u3_k _ _ _ _ (by decide)]; exact hVX41), (by rw [hX70, u3_k _ _ _ _ (by decide), hX67, u3_k _ _ _ _ (by decide)]; exact hVX66)⟩) (fun y a b => by omega) (fun y j _ _ _ => (by rw [hX70, u3_k _ _ _ _ (by decide), hX67, u3_k _ _ _ _ (by decide), hX66, u3_k _ _ _ _ (by decide), hX41, u3_k _ _ _ _ (by decide), hX40, u3_k _ _ _ _ (by decide), hX1, u3_k _ _ _ _ (by decide)])) hw hS (lv_sub hl [2, 3, 4, 5, 1, 0] rfl)
                · refine lv_bipush (v := jI (-4)) hx hb dX9_field_66 (by decide) ?_
                  rw [hQ9]
                  refine ret_i (mc := 0) (ms := 0) hx hb hr hlocks hw hS (by first | exact Nat.le_of_ble_eq_true rfl | omega) (by first | exact Nat.le_of_ble_eq_true rfl | omega) dX9_field_68 ?_
                  have q90 : Frm [4001] X X1 := by rw [hX1]; exact Frm.set Frm.rf (show 4001 ∈ [4001] by decide)
                  have hMq89 : MInv X1 := minv_frm hMI q90 (by decide)
                  have e91 : X1 44 0 t = X 44 0 t := (by rw [hX1, u3_k _ _ _ _ (by decide)])
                  have q92 : Frm [4001] X X1 := by rw [hX1]; exact Frm.set Frm.rf (show 4001 ∈ [4001] by decide)
                  exact ⟨X1, rfl, hRX1, hFX1, hMq89, by omega, (by (try delta Hid at *); first | exact Or.inr (Or.inr (Or.inr (Or.inl ⟨by omega, by omega, by omega, by omega, by omega, by omega, by omega⟩))) | exact Or.inr (Or.inr (Or.inr (Or.inr ((⟨by omega, by omega, by omega, by omega, by omega, by omega, by omega⟩))))) | omega), fun h => (by exfalso; omega), fun y h => ⟨(by rw [hX1, u3_k _ _ _ _ (by decide)]), (by rw [hX1, u3_k _ _ _ _ (by decide)]), (by rw [hX1, u3_k _ _ _ _ (by decide)]), (by rw [hX1, u3_k _ _ _ _ (by decide)])⟩, fun y h => (by rw [hX1, u3_k _ _ _ _ (by decide)]), fun q => (by exfalso; omega), fun _ => q92⟩
              · refine lv_bipush (v := jI (-3)) hx hb dX9_field_53 (by decide) ?_
                rw [hQ9]
                refine ret_i (mc := 0) (ms := 0) hx hb hr hlocks hw hS (by first | exact Nat.le_of_ble_eq_true rfl | omega) (by first | exact Nat.le_of_ble_eq_true rfl | omega) dX9_field_55 ?_
                have q94 : Frm [4001] X X1 := by rw [hX1]; exact Frm.set Frm.rf (show 4001 ∈ [4001] by decide)
                have hMq93 : MInv X1 := minv_frm hMI q94 (by decide)
                have e95 : X1 44 0 t = X 44 0 t := (by rw [hX1, u3_k _ _ _ _ (by decide)])
                have q96 : Frm [4001] X X1 := by rw [hX1]; exact Frm.set Frm.rf (show 4001 ∈ [4001] by decide)
                exact ⟨X1, rfl, hRX1, hFX1, hMq93, by omega, (by (try delta Hid at *); first | exact Or.inr (Or.inr (Or.inl ⟨by omega, by omega, by omega, by omega, by omega, by omega⟩)) | exact Or.inr (Or.inr (Or.inr (Or.inr ((⟨by omega, by omega, by omega, by omega, by omega, by omega, by omega⟩))))) | omega), fun h => (by exfalso; omega), fun y h => ⟨(by rw [hX1, u3_k _ _ _ _ (by decide)]), (by rw [hX1, u3_k _ _ _ _ (by decide)]), (by rw [hX1, u3_k _ _ _ _ (by decide)]), (by rw [hX1, u3_k _ _ _ _ (by decide)])⟩, fun y h => (by rw [hX1, u3_k _ _ _ _ (by decide)]), fun q => (by exfalso; omega), fun _ => q96⟩
            · refine lv_bipush (v := jI (-2)) hx hb dX9_field_43 (by decide) ?_
              rw [hQ9]
              refine ret_i (mc := 0) (ms := 0) hx hb hr hlocks hw hS (by first | exact Nat.le_of_ble_eq_true rfl | omega) (by first | exact Nat.le_of_ble_eq_true rfl | omega) dX9_field_45 ?_
              have q98 : Frm [4001] X X1 := by rw [hX1]; exact Frm.set Frm.rf (show 4001 ∈ [4001] by decide)
              have hMq97 : MInv X1 := minv_frm hMI q98 (by decide)
              have e99 : X1 44 0 t = X 44 0 t := (by rw [hX1, u3_k _ _ _ _ (by decide)])
              have q100 : Frm [4001] X X1 := by rw [hX1]; exact Frm.set Frm.rf (show 4001 ∈ [4001] by decide)
              exact ⟨X1, rfl, hRX1, hFX1, hMq97, by omega, (by (try delta Hid at *); first | exact Or.inr (Or.inl ⟨by omega, by omega, (fun q => by omega), by omega, by omega⟩) | exact Or.inr (Or.inr (Or.inr (Or.inr ((⟨by omega, by omega, by omega, by omega, by omega, by omega, by omega⟩))))) | omega), fun h => (by exfalso; omega), fun y h => ⟨(by rw [hX1, u3_k _ _ _ _ (by decide)]), (by rw [hX1, u3_k _ _ _ _ (by decide)]), (by rw [hX1, u3_k _ _ _ _ (by decide)]), (by rw [hX1, u3_k _ _ _ _ (by decide)])⟩, fun y h => (by rw [hX1, u3_k _ _ _ _ (by decide)]), fun q => (by exfalso; omega), fun _ => q100⟩
  · subst ez2
    refine x_if_neF (tgt := 15) hx hb (by omega) (by decide) dX9_field_10 (by decide) ?_
    refine lv_iconst (v := jI (-1)) hx hb dX9_field_13 rfl ?_
    rw [hQ9]
    refine ret_i (mc := 0) (ms := 0) hx hb hr hlocks hw hS (by first | exact Nat.le_of_ble_eq_true rfl | omega) (by first | exact Nat.le_of_ble_eq_true rfl | omega) dX9_field_14 ?_
    have q102 : Frm [4001] X X1 := by rw [hX1]; exact Frm.set Frm.rf (show 4001 ∈ [4001] by decide)
    have hMq101 : MInv X1 := minv_frm hMI q102 (by decide)
    have e103 : X1 44 0 t = X 44 0 t := (by rw [hX1, u3_k _ _ _ _ (by decide)])
    have q104 : Frm [4001] X X1 := by rw [hX1]; exact Frm.set Frm.rf (show 4001 ∈ [4001] by decide)
    exact ⟨X1, rfl, hRX1, hFX1, hMq101, by omega, (by (try delta Hid at *); first | exact Or.inl ⟨(fun q => by omega), by omega, by omega⟩ | exact Or.inr (Or.inr (Or.inr (Or.inr ((⟨by omega, by omega, by omega, by omega, by omega, by omega, by omega⟩))))) | omega), fun h => (by exfalso; omega), fun y h => ⟨(by rw [hX1, u3_k _ _ _ _ (by decide)]), (by rw [hX1, u3_k _ _ _ _ (by decide)]), (by rw [hX1, u3_k _ _ _ _ (by decide)]), (by rw [hX1, u3_k _ _ _ _ (by decide)])⟩, fun y h => (by rw [hX1, u3_k _ _ _ _ (by decide)]), fun q => (by exfalso; omega), fun _ => q104⟩
