set_option maxHeartbeats 4000000 in
set_option maxRecDepth 100000 in
theorem c_X9_check (l : Launch) (D : va_G) (tc : Nat → ClassId) (base : Nat) (ad : Nat → Int → Nat) (cnt : Nat → Int) (X : Nat → Int → Int → Int) (Y : Nat → Int → Int → Option Int) (ln : Int → Int) (hR : Rng X) (hFx : Fx cnt) (hMI : MInv X) (t kind a b v : Int) (ht : -2147483648 ≤ t ∧ t ≤ 2147483647) (hkind : -2147483648 ≤ kind ∧ kind ≤ 2147483647) (ha : -2147483648 ≤ a ∧ a ≤ 2147483647) (hb : -2147483648 ≤ b ∧ b ≤ 2147483647) (hv : -9223372036854775808 ≤ v ∧ v ≤ 9223372036854775807) : KI l D tc base yX9_check wsX9_check ({ frames := 1, cells := 0, slots := 0, locals := 21 } : Room) [.ref (ad 40 0), .int (jI t), .int (jI kind), .int (jI a), .int (jI b), .long (jL v)] (ad, cnt, X, Y, ln) 0 0 (fun z u => ∃ X1 : Nat → Int → Int → Int, u = (ad, cnt, X1, Y, ln) ∧ Rng X1 ∧ Frm [4001, 5000, 5100, 5200, 5300, 4900] X X1 ∧ MInv X1 ∧ (-2147483648 ≤ z ∧ z ≤ 2147483647) ∧ ((¬ (0 ≤ t ∧ t < X 40 0 2) ∧ z = -1 ∧ X1 49 0 t = X 49 0 t) ∨ (0 ≤ t ∧ t < X 40 0 2 ∧ ¬ (0 ≤ kind ∧ kind < 6 ∧ 0 ≤ a ∧ a < 5 ∧ 0 ≤ b ∧ b < 5) ∧ z = -2 ∧ X1 49 0 t = X 49 0 t) ∨ (0 ≤ t ∧ t < X 40 0 2 ∧ (0 ≤ kind ∧ kind < 6 ∧ 0 ≤ a ∧ a < 5 ∧ 0 ≤ b ∧ b < 5) ∧ 4 ≤ X 49 0 t ∧ z = -4 ∧ X1 49 0 t = X 49 0 t) ∨ (0 ≤ t ∧ t < X 40 0 2 ∧ (0 ≤ kind ∧ kind < 6 ∧ 0 ≤ a ∧ a < 5 ∧ 0 ≤ b ∧ b < 5) ∧ X 49 0 t ≤ 3 ∧ z = X 49 0 t + 1 ∧ X1 49 0 t = X 49 0 t + 1)) ∧ (∀ y, y ≠ t → X1 49 0 y = X 49 0 y) ∧ (0 ≤ z → X1 50 0 (4 * t + X 49 0 t) = kind ∧ X1 51 0 (4 * t + X 49 0 t) = a ∧ X1 52 0 (4 * t + X 49 0 t) = b ∧ X1 53 0 (4 * t + X 49 0 t) = v) ∧ ∀ y, ¬ (0 ≤ z ∧ y = (4 * t + X 49 0 t)) → X1 50 0 y = X 50 0 y ∧ X1 51 0 y = X 51 0 y ∧ X1 52 0 y = X 52 0 y ∧ X1 53 0 y = X 53 0 y) := by
  refine K_of (cc := cX9_check) (maxL := 8) (ret := (some .int)) (by decide) rfl (Nat.le_of_ble_eq_true rfl) ?_
  intro p e s m below meth c ls hx hb hr hml hown hts hlocks hl hK hw hS
  have hown : s.vm.findClass RX9 = some m.cls := hown
  obtain ⟨av9, hav9⟩ : ∃ a9 : Array Value, a9 = ([.ref (ad 40 0), .int (jI t), .int (jI kind), .int (jI a), .int (jI b), .long (jL v)] : List Value).toArray := ⟨_, rfl⟩
  rw [← hav9] at hts ⊢
  obtain ⟨Q9, hQ9⟩ : ∃ q9Q : State → Prop, q9Q = MQ below (QI D tc base (fun z u => ∃ X1 : Nat → Int → Int → Int, u = (ad, cnt, X1, Y, ln) ∧ Rng X1 ∧ Frm [4001, 5000, 5100, 5200, 5300, 4900] X X1 ∧ MInv X1 ∧ (-2147483648 ≤ z ∧ z ≤ 2147483647) ∧ ((¬ (0 ≤ t ∧ t < X 40 0 2) ∧ z = -1 ∧ X1 49 0 t = X 49 0 t) ∨ (0 ≤ t ∧ t < X 40 0 2 ∧ ¬ (0 ≤ kind ∧ kind < 6 ∧ 0 ≤ a ∧ a < 5 ∧ 0 ≤ b ∧ b < 5) ∧ z = -2 ∧ X1 49 0 t = X 49 0 t) ∨ (0 ≤ t ∧ t < X 40 0 2 ∧ (0 ≤ kind ∧ kind < 6 ∧ 0 ≤ a ∧ a < 5 ∧ 0 ≤ b ∧ b < 5) ∧ 4 ≤ X 49 0 t ∧ z = -4 ∧ X1 49 0 t = X 49 0 t) ∨ (0 ≤ t ∧ t < X 40 0 2 ∧ (0 ≤ kind ∧ kind < 6 ∧ 0 ≤ a ∧ a < 5 ∧ 0 ≤ b ∧ b < 5) ∧ X 49 0 t ≤ 3 ∧ z = X 49 0 t + 1 ∧ X1 49 0 t = X 49 0 t + 1)) ∧ (∀ y, y ≠ t → X1 49 0 y = X 49 0 y) ∧ (0 ≤ z → X1 50 0 (4 * t + X 49 0 t) = kind ∧ X1 51 0 (4 * t + X 49 0 t) = a ∧ X1 52 0 (4 * t + X 49 0 t) = b ∧ X1 53 0 (4 * t + X 49 0 t) = v) ∧ ∀ y, ¬ (0 ≤ z ∧ y = (4 * t + X 49 0 t)) → X1 50 0 y = X 50 0 y ∧ X1 51 0 y = X 51 0 y ∧ X1 52 0 y = X 52 0 y ∧ X1 53 0 y = X 53 0 y)) av9 s 0 0 (frA base) := ⟨_, rfl⟩
  rw [← hQ9]
  have hi9 : ∀ w ∈ wsX90, w ∈ wsX9_check := fun w h => List.mem_cons_of_mem _ (List.mem_append_right _ h)
  have hf9 : fctx s m _ RX9 wsX9_check D tc RX9 TX9 51 9 := ⟨hts, hi9, hown, hK.1, rfl⟩
  have lk30 := hts (.fieldLink RX9 30 (TX9 8).1 (TX9 8).2.1 (TX9 8).2.2.1) (gj_X9_check_0 _ (gp_1 gp_h))
  have lk33 := hts (.fieldLink RX9 33 (TX9 9).1 (TX9 9).2.1 (TX9 9).2.2.1) (gj_X9_check_0 _ (gp_1 (gp_1 gp_h)))
  have lk36 := hts (.fieldLink RX9 36 (TX9 10).1 (TX9 10).2.1 (TX9 10).2.2.1) (gj_X9_check_0 _ (gp_1 (gp_1 (gp_1 gp_h))))
  have lk39 := hts (.fieldLink RX9 39 (TX9 11).1 (TX9 11).2.1 (TX9 11).2.2.1) (gj_X9_check_0 _ (gp_4 gp_h))
  have lk42 := hts (.fieldLink RX9 42 (TX9 12).1 (TX9 12).2.1 (TX9 12).2.2.1) (gj_X9_check_0 _ (gp_4 (gp_1 gp_h)))
  have lk145 := hts (.fieldLink RX9 145 (TX9 0).1 (TX9 0).2.1 (TX9 0).2.2.1) (gj_X9_check_0 _ (gp_h))
  have hc40 : cnt 40 = 1 := hFx.at 40 1 (by decide)
  have hc49 : cnt 49 = 1 := hFx.at 49 1 (by decide)
  have hc50 : cnt 50 = 1 := hFx.at 50 1 (by decide)
  have hc51 : cnt 51 = 1 := hFx.at 51 1 (by decide)
  have hc52 : cnt 52 = 1 := hFx.at 52 1 (by decide)
  have hc53 : cnt 53 = 1 := hFx.at 53 1 (by decide)
  have hl : lv_has ls 8 [(0, .ref (ad 40 0)), (1, .int (jI t)), (2, .int (jI kind)), (3, .int (jI a)), (4, .int (jI b)), (5, .long (jL v))] := hl
  have fstypes : 0 ≤ X 40 0 2 ∧ X 40 0 2 ≤ 8 := hR 40 0 2
  have fsthings : 0 ≤ X 40 0 13 ∧ X 40 0 13 ≤ 30 := hR 40 0 13
  have fsmarks : 0 ≤ X 40 0 20 ∧ X 40 0 20 ≤ 4 := hR 40 0 20
  have fsnotes : 0 ≤ X 40 0 22 ∧ X 40 0 22 ≤ 80 := hR 40 0 22
  refine lv_aload_n hx hb dX9_check_0 rfl (lv_at hl 0 rfl) ?_
  refine lv_iconst (v := jI 0) hx hb dX9_check_1 rfl ?_
  refine x_puti (jz := 0) hx hb hf9 ⟨tyX9_ok, nmX9⟩ hw hS (by first | exact Int.le_refl 0 | omega) (by first | exact zlt hc40 | omega) sl_40_0 rfl lk145 rfl (tyX9_ok 0 (by decide)) rfl rfl dX9_check_2 (fun H locs hw hS => ?_)
  obtain ⟨X1, hX1⟩ : ∃ Xq, Xq = u3 X 40 0 0 0 := ⟨_, rfl⟩
  rw [← hX1] at hw
  have hRX1 : Rng X1 := by rw [hX1]; exact rng_set hR (show (-2147483648) ≤ 0 ∧ 0 ≤ 2147483647 by omega)
  have hVX1 : X1 40 0 0 = 0 := by rw [hX1]; exact u3_s _ _ _ _ _
  have hFX1 : Frm [4001, 5000, 5100, 5200, 5300, 4900] X X1 := by rw [hX1]; exact Frm.set Frm.rf (show 4001 ∈ [4001, 5000, 5100, 5200, 5300, 4900] by decide)
  refine lv_aload_n hx hb dX9_check_5 rfl (lv_at hl 0 rfl) ?_
  refine lv_iload_n hx hb dX9_check_6 rfl (lv_at hl 1 rfl) ?_
  refine gos_i (run_V (As := [.int (jI t)]) (rest := []) hx hb hml hown hts (c_X9_isType l D tc base ad cnt X1 Y ln hRX1 hFx t (by omega)) (cwV 1 hts gX9_check_X9_isType rfl rfl rfl (by first | exact hd_X9_isType | decide +kernel) ⟨Nat.le_of_ble_eq_true rfl, Nat.le_of_ble_eq_true rfl⟩) hK hw (by first | exact Int.le_refl 0 | omega) (by first | exact zlt hc40 | omega) sl_40_0 rfl rfl hl.1 rfl (Nat.le_of_ble_eq_true rfl) dX9_check_7 ⟨Nat.le_of_ble_eq_true rfl, Nat.le_of_ble_eq_true rfl⟩) hS (fun z2 u3 H locs p4 hw hS => ?_)
  obtain ⟨eu3, p4⟩ := p4
  subst eu3
  have e5 : X1 40 0 2 = X 40 0 2 := by rw [hX1, u3_j _ _ _ _ (by decide)]
  simp only [e5] at p4
  rcases p4 with ⟨ez2, p4⟩ | ⟨ez2, p4⟩
  · subst ez2
    refine x_if_neT (tgt := 15) hx hb (by omega) (by decide) dX9_check_10 (by decide) ?_
    refine lv_iload_n hx hb dX9_check_15 rfl (lv_at hl 2 rfl) ?_
    refine x_if_lt (tgt := 44) hx hb (by omega) dX9_check_16 (by decide) (fun c6 => ?_) (fun c6 => ?_)
    · refine lv_bipush (v := jI (-2)) hx hb dX9_check_44 (by decide) ?_
      rw [hQ9]
      refine ret_i (mc := 0) (ms := 0) hx hb hr hlocks hw hS (by first | exact Nat.le_of_ble_eq_true rfl | omega) (by first | exact Nat.le_of_ble_eq_true rfl | omega) dX9_check_46 ?_
      have q8 : Frm [4001] X X1 := by rw [hX1]; exact Frm.set Frm.rf (show 4001 ∈ [4001] by decide)
      have hMq7 : MInv X1 := minv_frm hMI q8 (by decide)
      have e9 : X1 49 0 t = X 49 0 t := (by rw [hX1, u3_k _ _ _ _ (by decide)])
      exact ⟨X1, rfl, hRX1, hFX1, hMq7, by omega, (by (try delta Hid at *); first | exact Or.inr (Or.inl ⟨by omega, by omega, (fun q => by omega), by omega, by omega⟩) | exact Or.inr (Or.inr (Or.inr ((⟨by omega, by omega, by omega, by omega, by omega, by omega⟩)))) | omega), fun y hy => (by rw [hX1, u3_k _ _ _ _ (by decide)]), fun q => (by exfalso; omega), fun y _ => ⟨(by rw [hX1, u3_k _ _ _ _ (by decide)]), (by rw [hX1, u3_k _ _ _ _ (by decide)]), (by rw [hX1, u3_k _ _ _ _ (by decide)]), (by rw [hX1, u3_k _ _ _ _ (by decide)])⟩⟩
    · refine lv_iload_n hx hb dX9_check_19 rfl (lv_at hl 2 rfl) ?_
      refine lv_iconst (v := jI 5) hx hb dX9_check_20 rfl ?_
      refine x_icmp_gt (tgt := 44) hx hb (by omega) (by omega) dX9_check_21 (by decide) (fun c10 => ?_) (fun c10 => ?_)
      · refine lv_bipush (v := jI (-2)) hx hb dX9_check_44 (by decide) ?_
        rw [hQ9]
        refine ret_i (mc := 0) (ms := 0) hx hb hr hlocks hw hS (by first | exact Nat.le_of_ble_eq_true rfl | omega) (by first | exact Nat.le_of_ble_eq_true rfl | omega) dX9_check_46 ?_
        have q12 : Frm [4001] X X1 := by rw [hX1]; exact Frm.set Frm.rf (show 4001 ∈ [4001] by decide)
        have hMq11 : MInv X1 := minv_frm hMI q12 (by decide)
        have e13 : X1 49 0 t = X 49 0 t := (by rw [hX1, u3_k _ _ _ _ (by decide)])
        exact ⟨X1, rfl, hRX1, hFX1, hMq11, by omega, (by (try delta Hid at *); first | exact Or.inr (Or.inl ⟨by omega, by omega, (fun q => by omega), by omega, by omega⟩) | exact Or.inr (Or.inr (Or.inr ((⟨by omega, by omega, by omega, by omega, by omega, by omega⟩)))) | omega), fun y hy => (by rw [hX1, u3_k _ _ _ _ (by decide)]), fun q => (by exfalso; omega), fun y _ => ⟨(by rw [hX1, u3_k _ _ _ _ (by decide)]), (by rw [hX1, u3_k _ _ _ _ (by decide)]), (by rw [hX1, u3_k _ _ _ _ (by decide)]), (by rw [hX1, u3_k _ _ _ _ (by decide)])⟩⟩
      · refine lv_iload_n hx hb dX9_check_24 rfl (lv_at hl 3 rfl) ?_
        refine x_if_lt (tgt := 44) hx hb (by omega) dX9_check_25 (by decide) (fun c14 => ?_) (fun c14 => ?_)
        · refine lv_bipush (v := jI (-2)) hx hb dX9_check_44 (by decide) ?_
          rw [hQ9]
          refine ret_i (mc := 0) (ms := 0) hx hb hr hlocks hw hS (by first | exact Nat.le_of_ble_eq_true rfl | omega) (by first | exact Nat.le_of_ble_eq_true rfl | omega) dX9_check_46 ?_
          have q16 : Frm [4001] X X1 := by rw [hX1]; exact Frm.set Frm.rf (show 4001 ∈ [4001] by decide)
          have hMq15 : MInv X1 := minv_frm hMI q16 (by decide)
          have e17 : X1 49 0 t = X 49 0 t := (by rw [hX1, u3_k _ _ _ _ (by decide)])
          exact ⟨X1, rfl, hRX1, hFX1, hMq15, by omega, (by (try delta Hid at *); first | exact Or.inr (Or.inl ⟨by omega, by omega, (fun q => by omega), by omega, by omega⟩) | exact Or.inr (Or.inr (Or.inr ((⟨by omega, by omega, by omega, by omega, by omega, by omega⟩)))) | omega), fun y hy => (by rw [hX1, u3_k _ _ _ _ (by decide)]), fun q => (by exfalso; omega), fun y _ => ⟨(by rw [hX1, u3_k _ _ _ _ (by decide)]), (by rw [hX1, u3_k _ _ _ _ (by decide)]), (by rw [hX1, u3_k _ _ _ _ (by decide)]), (by rw [hX1, u3_k _ _ _ _ (by decide)])⟩⟩
        · refine lv_iload_n hx hb dX9_check_28 rfl (lv_at hl 3 rfl) ?_
          refine lv_iconst (v := jI 4) hx hb dX9_check_29 rfl ?_
          refine x_icmp_gt (tgt := 44) hx hb (by omega) (by omega) dX9_check_30 (by decide) (fun c18 => ?_) (fun c18 => ?_)
          · refine lv_bipush (v := jI (-2)) hx hb dX9_check_44 (by decide) ?_
            rw [hQ9]
            refine ret_i (mc := 0) (ms := 0) hx hb hr hlocks hw hS (by first | exact Nat.le_of_ble_eq_true rfl | omega) (by first | exact Nat.le_of_ble_eq_true rfl | omega) dX9_check_46 ?_
            have q20 : Frm [4001] X X1 := by rw [hX1]; exact Frm.set Frm.rf (show 4001 ∈ [4001] by decide)
            have hMq19 : MInv X1 := minv_frm hMI q20 (by decide)
            have e21 : X1 49 0 t = X 49 0 t := (by rw [hX1, u3_k _ _ _ _ (by decide)])
            exact ⟨X1, rfl, hRX1, hFX1, hMq19, by omega, (by (try delta Hid at *); first | exact Or.inr (Or.inl ⟨by omega, by omega, (fun q => by omega), by omega, by omega⟩) | exact Or.inr (Or.inr (Or.inr ((⟨by omega, by omega, by omega, by omega, by omega, by omega⟩)))) | omega), fun y hy => (by rw [hX1, u3_k _ _ _ _ (by decide)]), fun q => (by exfalso; omega), fun y _ => ⟨(by rw [hX1, u3_k _ _ _ _ (by decide)]), (by rw [hX1, u3_k _ _ _ _ (by decide)]), (by rw [hX1, u3_k _ _ _ _ (by decide)]), (by rw [hX1, u3_k _ _ _ _ (by decide)])⟩⟩
          · refine lv_iload hx hb dX9_check_33 (lv_at hl 4 rfl) ?_
            refine x_if_lt (tgt := 44) hx hb (by omega) dX9_check_35 (by decide) (fun c22 => ?_) (fun c22 => ?_)
            · refine lv_bipush (v := jI (-2)) hx hb dX9_check_44 (by decide) ?_
              rw [hQ9]
              refine ret_i (mc := 0) (ms := 0) hx hb hr hlocks hw hS (by first | exact Nat.le_of_ble_eq_true rfl | omega) (by first | exact Nat.le_of_ble_eq_true rfl | omega) dX9_check_46 ?_
              have q24 : Frm [4001] X X1 := by rw [hX1]; exact Frm.set Frm.rf (show 4001 ∈ [4001] by decide)
              have hMq23 : MInv X1 := minv_frm hMI q24 (by decide)
              have e25 : X1 49 0 t = X 49 0 t := (by rw [hX1, u3_k _ _ _ _ (by decide)])
              exact ⟨X1, rfl, hRX1, hFX1, hMq23, by omega, (by (try delta Hid at *); first | exact Or.inr (Or.inl ⟨by omega, by omega, (fun q => by omega), by omega, by omega⟩) | exact Or.inr (Or.inr (Or.inr ((⟨by omega, by omega, by omega, by omega, by omega, by omega⟩)))) | omega), fun y hy => (by rw [hX1, u3_k _ _ _ _ (by decide)]), fun q => (by exfalso; omega), fun y _ => ⟨(by rw [hX1, u3_k _ _ _ _ (by decide)]), (by rw [hX1, u3_k _ _ _ _ (by decide)]), (by rw [hX1, u3_k _ _ _ _ (by decide)]), (by rw [hX1, u3_k _ _ _ _ (by decide)])⟩⟩
            · refine lv_iload hx hb dX9_check_38 (lv_at hl 4 rfl) ?_
              refine lv_iconst (v := jI 4) hx hb dX9_check_40 rfl ?_
              refine x_icmp_le (tgt := 47) hx hb (by omega) (by omega) dX9_check_41 (by decide) (fun c26 => ?_) (fun c26 => ?_)
              · refine lv_aload_n hx hb dX9_check_47 rfl (lv_at hl 0 rfl) ?_
                refine x_geto hx hb hf9 hw (by first | exact Int.le_refl 0 | omega) (by first | exact zlt hc40 | omega) sl_40_8 lk30 dX9_check_48 ?_
                refine lv_iload_n hx hb dX9_check_51 rfl (lv_at hl 1 rfl) ?_
                refine x_iald hx hb hK.1 hw (by first | exact Int.le_refl 0 | omega) (by first | exact zlt hc49 | omega) ar_49 (len_E ar_49 (by decide)) (by omega) (by omega) (by omega) dX9_check_52 ?_
                have e27 : ∀ p9 q9 : Int, X1 49 p9 q9 = X 49 p9 q9 := fun p9 q9 => by rw [hX1, u3_k _ _ _ _ (by decide)]
                rw [e27 0 t]
                have f28 : 0 ≤ X 49 0 t ∧ X 49 0 t ≤ 4 := hR 49 0 t
                refine lv_iconst (v := jI 4) hx hb dX9_check_53 rfl ?_
                refine x_icmp_ne (tgt := 60) hx hb (by omega) (by omega) dX9_check_54 (by decide) (fun c29 => ?_) (fun c29 => ?_)
                · refine lv_iconst (v := jI 4) hx hb dX9_check_60 rfl ?_
                  refine lv_iload_n hx hb dX9_check_61 rfl (lv_at hl 1 rfl) ?_
                  refine x_imul hx hb dX9_check_62 ?_
                  refine lv_aload_n hx hb dX9_check_63 rfl (lv_at hl 0 rfl) ?_
                  refine x_geto hx hb hf9 hw (by first | exact Int.le_refl 0 | omega) (by first | exact zlt hc40 | omega) sl_40_8 lk30 dX9_check_64 ?_
                  refine lv_iload_n hx hb dX9_check_67 rfl (lv_at hl 1 rfl) ?_
                  refine x_iald hx hb hK.1 hw (by first | exact Int.le_refl 0 | omega) (by first | exact zlt hc49 | omega) ar_49 (len_E ar_49 (by decide)) (by omega) (by omega) (by omega) dX9_check_68 ?_
                  have e30 : ∀ p9 q9 : Int, X1 49 p9 q9 = X 49 p9 q9 := fun p9 q9 => by rw [hX1, u3_k _ _ _ _ (by decide)]
                  rw [e30 0 t]
                  have f31 : 0 ≤ X 49 0 t ∧ X 49 0 t ≤ 4 := hR 49 0 t
                  refine x_iadd hx hb dX9_check_69 ?_
                  refine lv_istore (lv' := [(7, .int (jI ((4 * t) + (X 49 0 t)))), (0, .ref (ad 40 0)), (1, .int (jI t)), (2, .int (jI kind)), (3, .int (jI a)), (4, .int (jI b)), (5, .long (jL v))]) hx hb dX9_check_70 hl (by decide) rfl (fun ls hl => ?_)
                  refine lv_aload_n hx hb dX9_check_72 rfl (lv_at hl 1 rfl) ?_
                  refine x_geto hx hb hf9 hw (by first | exact Int.le_refl 0 | omega) (by first | exact zlt hc40 | omega) sl_40_9 lk33 dX9_check_73 ?_
                  refine lv_iload hx hb dX9_check_76 (lv_at hl 0 rfl) ?_
                  refine lv_iload_n hx hb dX9_check_78 rfl (lv_at hl 3 rfl) ?_
                  refine x_iast hx hb hK.1 hw hS (by first | exact Int.le_refl 0 | omega) (by first | exact zlt hc50 | omega) ar_50 (len_E ar_50 (by decide)) (by omega) (by omega) (by omega) dX9_check_79 (fun H locs hw hS => ?_)
                  obtain ⟨X32, hX32⟩ : ∃ Xq, Xq = u3 X1 50 0 ((4 * t) + (X 49 0 t)) kind := ⟨_, rfl⟩
                  rw [← hX32] at hw
                  have hRX32 : Rng X32 := by rw [hX32]; exact rng_set hRX1 (show 0 ≤ kind ∧ kind ≤ 5 by omega)
                  have hVX32 : X32 50 0 ((4 * t) + (X 49 0 t)) = kind := by rw [hX32]; exact u3_s _ _ _ _ _
                  have hFX32 : Frm [4001, 5000, 5100, 5200, 5300, 4900] X X32 := by rw [hX32]; exact Frm.set hFX1 (show 5000 ∈ [4001, 5000, 5100, 5200, 5300, 4900] by decide)
                  refine lv_aload_n hx hb dX9_check_80 rfl (lv_at hl 1 rfl) ?_
                  refine x_geto hx hb hf9 hw (by first | exact Int.le_refl 0 | omega) (by first | exact zlt hc40 | omega) sl_40_10 lk36 dX9_check_81 ?_
                  refine lv_iload hx hb dX9_check_84 (lv_at hl 0 rfl) ?_
                  refine lv_iload_n hx hb dX9_check_86 rfl (lv_at hl 4 rfl) ?_
                  refine x_iast hx hb hK.1 hw hS (by first | exact Int.le_refl 0 | omega) (by first | exact zlt hc51 | omega) ar_51 (len_E ar_51 (by decide)) (by omega) (by omega) (by omega) dX9_check_87 (fun H locs hw hS => ?_)
                  obtain ⟨X33, hX33⟩ : ∃ Xq, Xq = u3 X32 51 0 ((4 * t) + (X 49 0 t)) a := ⟨_, rfl⟩
                  rw [← hX33] at hw
                  have hRX33 : Rng X33 := by rw [hX33]; exact rng_set hRX32 (show 0 ≤ a ∧ a ≤ 4 by omega)
                  have hVX33 : X33 51 0 ((4 * t) + (X 49 0 t)) = a := by rw [hX33]; exact u3_s _ _ _ _ _
                  have hFX33 : Frm [4001, 5000, 5100, 5200, 5300, 4900] X X33 := by rw [hX33]; exact Frm.set hFX32 (show 5100 ∈ [4001, 5000, 5100, 5200, 5300, 4900] by decide)
                  refine lv_aload_n hx hb dX9_check_88 rfl (lv_at hl 1 rfl) ?_
                  refine x_geto hx hb hf9 hw (by first | exact Int.le_refl 0 | omega) (by first | exact zlt hc40 | omega) sl_40_11 lk39 dX9_check_89 ?_
                  refine lv_iload hx hb dX9_check_92 (lv_at hl 0 rfl) ?_
                  refine lv_iload hx hb dX9_check_94 (lv_at hl 5 rfl) ?_
                  refine x_iast hx hb hK.1 hw hS (by first | exact Int.le_refl 0 | omega) (by first | exact zlt hc52 | omega) ar_52 (len_E ar_52 (by decide)) (by omega) (by omega) (by omega) dX9_check_96 (fun H locs hw hS => ?_)
                  obtain ⟨X34, hX34⟩ : ∃ Xq, Xq = u3 X33 52 0 ((4 * t) + (X 49 0 t)) b := ⟨_, rfl⟩
                  rw [← hX34] at hw
                  have hRX34 : Rng X34 := by rw [hX34]; exact rng_set hRX33 (show 0 ≤ b ∧ b ≤ 4 by omega)
                  have hVX34 : X34 52 0 ((4 * t) + (X 49 0 t)) = b := by rw [hX34]; exact u3_s _ _ _ _ _
                  have hFX34 : Frm [4001, 5000, 5100, 5200, 5300, 4900] X X34 := by rw [hX34]; exact Frm.set hFX33 (show 5200 ∈ [4001, 5000, 5100, 5200, 5300, 4900] by decide)
                  refine lv_aload_n hx hb dX9_check_97 rfl (lv_at hl 1 rfl) ?_
                  refine x_geto hx hb hf9 hw (by first | exact Int.le_refl 0 | omega) (by first | exact zlt hc40 | omega) sl_40_12 lk42 dX9_check_98 ?_
                  refine lv_iload hx hb dX9_check_101 (lv_at hl 0 rfl) ?_
                  refine lv_lload hx hb dX9_check_103 (lv_at hl 6 rfl) ?_
                  refine x_last hx hb hK.1 hw hS (by first | exact Int.le_refl 0 | omega) (by first | exact zlt hc53 | omega) ar_53 (len_E ar_53 (by decide)) (by omega) (by omega) (by omega) dX9_check_105 (fun H locs hw hS => ?_)
                  obtain ⟨X35, hX35⟩ : ∃ Xq, Xq = u3 X34 53 0 ((4 * t) + (X 49 0 t)) v := ⟨_, rfl⟩
                  rw [← hX35] at hw
                  have hRX35 : Rng X35 := by rw [hX35]; exact rng_set hRX34 (show (-9223372036854775808) ≤ v ∧ v ≤ 9223372036854775807 by omega)
                  have hVX35 : X35 53 0 ((4 * t) + (X 49 0 t)) = v := by rw [hX35]; exact u3_s _ _ _ _ _
                  have hFX35 : Frm [4001, 5000, 5100, 5200, 5300, 4900] X X35 := by rw [hX35]; exact Frm.set hFX34 (show 5300 ∈ [4001, 5000, 5100, 5200, 5300, 4900] by decide)
                  refine lv_aload_n hx hb dX9_check_106 rfl (lv_at hl 1 rfl) ?_
                  refine x_geto hx hb hf9 hw (by first | exact Int.le_refl 0 | omega) (by first | exact zlt hc40 | omega) sl_40_8 lk30 dX9_check_107 ?_
                  refine lv_iload_n hx hb dX9_check_110 rfl (lv_at hl 2 rfl) ?_
                  refine lv_dup2_11 hx hb dX9_check_111 rfl rfl ?_
                  refine x_iald hx hb hK.1 hw (by first | exact Int.le_refl 0 | omega) (by first | exact zlt hc49 | omega) ar_49 (len_E ar_49 (by decide)) (by omega) (by omega) (by omega) dX9_check_112 ?_
                  have e36 : ∀ p9 q9 : Int, X35 49 p9 q9 = X 49 p9 q9 := fun p9 q9 => by rw [hX35, u3_k _ _ _ _ (by decide), hX34, u3_k _ _ _ _ (by decide), hX33, u3_k _ _ _ _ (by decide), hX32, u3_k _ _ _ _ (by decide), hX1, u3_k _ _ _ _ (by decide)]
                  rw [e36 0 t]
                  have f37 : 0 ≤ X 49 0 t ∧ X 49 0 t ≤ 4 := hR 49 0 t
                  refine lv_iconst (v := jI 1) hx hb dX9_check_113 rfl ?_
                  refine x_iadd hx hb dX9_check_114 ?_
                  refine x_iast hx hb hK.1 hw hS (by first | exact Int.le_refl 0 | omega) (by first | exact zlt hc49 | omega) ar_49 (len_E ar_49 (by decide)) (by omega) (by omega) (by omega) dX9_check_115 (fun H locs hw hS => ?_)
                  obtain ⟨X38, hX38⟩ : ∃ Xq, Xq = u3 X35 49 0 t ((X 49 0 t) + 1) := ⟨_, rfl⟩
                  rw [← hX38] at hw
                  have hRX38 : Rng X38 := by rw [hX38]; exact rng_set hRX35 (show 0 ≤ ((X 49 0 t) + 1) ∧ ((X 49 0 t) + 1) ≤ 4 by omega)
                  have hVX38 : X38 49 0 t = ((X 49 0 t) + 1) := by rw [hX38]; exact u3_s _ _ _ _ _
                  have hFX38 : Frm [4001, 5000, 5100, 5200, 5300, 4900] X X38 := by rw [hX38]; exact Frm.set hFX35 (show 4900 ∈ [4001, 5000, 5100, 5200, 5300, 4900] by decide)
                  refine lv_aload_n hx hb dX9_check_116 rfl (lv_at hl 1 rfl) ?_
                  refine x_geto hx hb hf9 hw (by first | exact Int.le_refl 0 | omega) (by first | exact zlt hc40 | omega) sl_40_8 lk30 dX9_check_117 ?_
                  refine lv_iload_n hx hb dX9_check_120 rfl (lv_at hl 2 rfl) ?_
                  refine x_iald hx hb hK.1 hw (by first | exact Int.le_refl 0 | omega) (by first | exact zlt hc49 | omega) ar_49 (len_E ar_49 (by decide)) (by omega) (by omega) (by omega) dX9_check_121 ?_
                  rw [hVX38]
                  rw [hQ9]
                  refine ret_i (mc := 0) (ms := 0) hx hb hr hlocks hw hS (by first | exact Nat.le_of_ble_eq_true rfl | omega) (by first | exact Nat.le_of_ble_eq_true rfl | omega) dX9_check_122 ?_
                  have q40 : Frm [4001, 4900, 5000, 5100, 5200, 5300] X X1 := by rw [hX1]; exact Frm.set Frm.rf (show 4001 ∈ [4001, 4900, 5000, 5100, 5200, 5300] by decide)
                  have q41 : Frm [4001, 4900, 5000, 5100, 5200, 5300] X X32 := by rw [hX32]; exact Frm.set q40 (show 5000 ∈ [4001, 4900, 5000, 5100, 5200, 5300] by decide)
                  have q42 : Frm [4001, 4900, 5000, 5100, 5200, 5300] X X33 := by rw [hX33]; exact Frm.set q41 (show 5100 ∈ [4001, 4900, 5000, 5100, 5200, 5300] by decide)
                  have q43 : Frm [4001, 4900, 5000, 5100, 5200, 5300] X X34 := by rw [hX34]; exact Frm.set q42 (show 5200 ∈ [4001, 4900, 5000, 5100, 5200, 5300] by decide)
                  have q44 : Frm [4001, 4900, 5000, 5100, 5200, 5300] X X35 := by rw [hX35]; exact Frm.set q43 (show 5300 ∈ [4001, 4900, 5000, 5100, 5200, 5300] by decide)
                  have q45 : Frm [4001, 4900, 5000, 5100, 5200, 5300] X X38 := by rw [hX38]; exact Frm.set q44 (show 4900 ∈ [4001, 4900, 5000, 5100, 5200, 5300] by decide)
                  have hMq39 : MInv X38 := minv_frm hMI q45 (by decide)
                  have e46 : X38 49 0 t = ((X 49 0 t) + 1) := (by exact hVX38)
                  exact ⟨X38, rfl, hRX38, hFX38, hMq39, by omega, (by (try delta Hid at *); first | exact Or.inr (Or.inr (Or.inr ((⟨by omega, by omega, by omega, by omega, by omega, by omega⟩)))) | omega), fun y hy => (by rw [hX38, u3_j _ _ _ _ hy, hX35, u3_k _ _ _ _ (by decide), hX34, u3_k _ _ _ _ (by decide), hX33, u3_k _ _ _ _ (by decide), hX32, u3_k _ _ _ _ (by decide), hX1, u3_k _ _ _ _ (by decide)]), fun _ => ⟨(by rw [hX38, u3_k _ _ _ _ (by decide), hX35, u3_k _ _ _ _ (by decide), hX34, u3_k _ _ _ _ (by decide), hX33, u3_k _ _ _ _ (by decide)]; exact hVX32), (by rw [hX38, u3_k _ _ _ _ (by decide), hX35, u3_k _ _ _ _ (by decide), hX34, u3_k _ _ _ _ (by decide)]; exact hVX33), (by rw [hX38, u3_k _ _ _ _ (by decide), hX35, u3_k _ _ _ _ (by decide)]; exact hVX34), (by rw [hX38, u3_k _ _ _ _ (by decide)]; exact hVX35)⟩, fun y hy => ⟨(by rw [hX38, u3_k _ _ _ _ (by decide), hX35, u3_k _ _ _ _ (by decide), hX34, u3_k _ _ _ _ (by decide), hX33, u3_k _ _ _ _ (by decide), hX32, u3_j _ _ _ _ (by omega), hX1, u3_k _ _ _ _ (by decide)]), (by rw [hX38, u3_k _ _ _ _ (by decide), hX35, u3_k _ _ _ _ (by decide), hX34, u3_k _ _ _ _ (by decide), hX33, u3_j _ _ _ _ (by omega), hX32, u3_k _ _ _ _ (by decide), hX1, u3_k _ _ _ _ (by decide)]), (by rw [hX38, u3_k _ _ _ _ (by decide), hX35, u3_k _ _ _ _ (by decide), hX34, u3_j _ _ _ _ (by omega), hX33, u3_k _ _ _ _ (by decide), hX32, u3_k _ _ _ _ (by decide), hX1, u3_k _ _ _ _ (by decide)]), (by rw [hX38, u3_k _ _ _ _ (by decide), hX35, u3_j _ _ _ _ (by omega), hX34, u3_k _ _ _ _ (by decide), hX33, u3_k _ _ _ _ (by decide), hX32, u3_k _ _ _ _ (by decide), hX1, u3_k _ _ _ _ (by decide)])⟩⟩
                · refine lv_bipush (v := jI (-4)) hx hb dX9_check_57 (by decide) ?_
                  rw [hQ9]
                  refine ret_i (mc := 0) (ms := 0) hx hb hr hlocks hw hS (by first | exact Nat.le_of_ble_eq_true rfl | omega) (by first | exact Nat.le_of_ble_eq_true rfl | omega) dX9_check_59 ?_
                  have q48 : Frm [4001] X X1 := by rw [hX1]; exact Frm.set Frm.rf (show 4001 ∈ [4001] by decide)
                  have hMq47 : MInv X1 := minv_frm hMI q48 (by decide)
                  have e49 : X1 49 0 t = X 49 0 t := (by rw [hX1, u3_k _ _ _ _ (by decide)])
                  exact ⟨X1, rfl, hRX1, hFX1, hMq47, by omega, (by (try delta Hid at *); first | exact Or.inr (Or.inr (Or.inl ⟨by omega, by omega, by omega, by omega, by omega, by omega⟩)) | exact Or.inr (Or.inr (Or.inr ((⟨by omega, by omega, by omega, by omega, by omega, by omega⟩)))) | omega), fun y hy => (by rw [hX1, u3_k _ _ _ _ (by decide)]), fun q => (by exfalso; omega), fun y _ => ⟨(by rw [hX1, u3_k _ _ _ _ (by decide)]), (by rw [hX1, u3_k _ _ _ _ (by decide)]), (by rw [hX1, u3_k _ _ _ _ (by decide)]), (by rw [hX1, u3_k _ _ _ _ (by decide)])⟩⟩
              · refine lv_bipush (v := jI (-2)) hx hb dX9_check_44 (by decide) ?_
                rw [hQ9]
                refine ret_i (mc := 0) (ms := 0) hx hb hr hlocks hw hS (by first | exact Nat.le_of_ble_eq_true rfl | omega) (by first | exact Nat.le_of_ble_eq_true rfl | omega) dX9_check_46 ?_
                have q51 : Frm [4001] X X1 := by rw [hX1]; exact Frm.set Frm.rf (show 4001 ∈ [4001] by decide)
                have hMq50 : MInv X1 := minv_frm hMI q51 (by decide)
                have e52 : X1 49 0 t = X 49 0 t := (by rw [hX1, u3_k _ _ _ _ (by decide)])
                exact ⟨X1, rfl, hRX1, hFX1, hMq50, by omega, (by (try delta Hid at *); first | exact Or.inr (Or.inl ⟨by omega, by omega, (fun q => by omega), by omega, by omega⟩) | exact Or.inr (Or.inr (Or.inr ((⟨by omega, by omega, by omega, by omega, by omega, by omega⟩)))) | omega), fun y hy => (by rw [hX1, u3_k _ _ _ _ (by decide)]), fun q => (by exfalso; omega), fun y _ => ⟨(by rw [hX1, u3_k _ _ _ _ (by decide)]), (by rw [hX1, u3_k _ _ _ _ (by decide)]), (by rw [hX1, u3_k _ _ _ _ (by decide)]), (by rw [hX1, u3_k _ _ _ _ (by decide)])⟩⟩
  · subst ez2
    refine x_if_neF (tgt := 15) hx hb (by omega) (by decide) dX9_check_10 (by decide) ?_
    refine lv_iconst (v := jI (-1)) hx hb dX9_check_13 rfl ?_
    rw [hQ9]
    refine ret_i (mc := 0) (ms := 0) hx hb hr hlocks hw hS (by first | exact Nat.le_of_ble_eq_true rfl | omega) (by first | exact Nat.le_of_ble_eq_true rfl | omega) dX9_check_14 ?_
    have q54 : Frm [4001] X X1 := by rw [hX1]; exact Frm.set Frm.rf (show 4001 ∈ [4001] by decide)
    have hMq53 : MInv X1 := minv_frm hMI q54 (by decide)
    have e55 : X1 49 0 t = X 49 0 t := (by rw [hX1, u3_k _ _ _ _ (by decide)])
    exact ⟨X1, rfl, hRX1, hFX1, hMq53, by omega, (by (try delta Hid at *); first | exact Or.inl ⟨(fun q => by omega), by omega, by omega⟩ | exact Or.inr (Or.inr (Or.inr ((⟨by omega, by omega, by omega, by omega, by omega, by omega⟩)))) | omega), fun y hy => (by rw [hX1, u3_k _ _ _ _ (by decide)]), fun q => (by exfalso; omega), fun y _ => ⟨(by rw [hX1, u3_k _ _ _ _ (by decide)]), (by rw [hX1, u3_k _ _ _ _ (by decide)]), (by rw [hX1, u3_k _ _ _ _ (by decide)]), (by rw [hX1, u3_k _ _ _ _ (by decide)])⟩⟩
