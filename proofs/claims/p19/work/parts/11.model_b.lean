set_option maxHeartbeats 4000000 in
set_option maxRecDepth 100000 in
theorem c_X9_shut (l : Launch) (D : va_G) (tc : Nat → ClassId) (base : Nat) (ad : Nat → Int → Nat) (cnt : Nat → Int) (X : Nat → Int → Int → Int) (Y : Nat → Int → Int → Option Int) (ln : Int → Int) (hR : Rng X) (hFx : Fx cnt) (hMI : MInv X) (t k on : Int) (ht : -2147483648 ≤ t ∧ t ≤ 2147483647) (hk : -2147483648 ≤ k ∧ k ≤ 2147483647) (hon : 0 ≤ on ∧ on ≤ 1) : KI l D tc base yX9_shut wsX9_shut ({ frames := 1, cells := 0, slots := 0, locals := 21 } : Room) [.ref (ad 40 0), .int (jI t), .int (jI k), .int (jI on)] (ad, cnt, X, Y, ln) 0 0 (fun z u => ∃ X1 : Nat → Int → Int → Int, u = (ad, cnt, X1, Y, ln) ∧ Rng X1 ∧ Frm [4001, 4800] X X1 ∧ MInv X1 ∧ (-2147483648 ≤ z ∧ z ≤ 2147483647) ∧ ((0 ≤ t ∧ t < X 40 0 2 ∧ 0 ≤ k ∧ k < X 44 0 t ∧ z = X 48 0 (5 * t + k) ∧ X1 48 0 (5 * t + k) = on) ∨ (¬ (0 ≤ t ∧ t < X 40 0 2 ∧ 0 ≤ k ∧ k < X 44 0 t) ∧ z = -1 ∧ X1 48 0 (5 * t + k) = X 48 0 (5 * t + k))) ∧ ∀ y, y ≠ 5 * t + k → X1 48 0 y = X 48 0 y) := by
  refine K_of (cc := cX9_shut) (maxL := 5) (ret := (some .int)) (by decide) rfl (Nat.le_of_ble_eq_true rfl) ?_
  intro p e s m below meth c ls hx hb hr hml hown hts hlocks hl hK hw hS
  have hown : s.vm.findClass RX9 = some m.cls := hown
  obtain ⟨av9, hav9⟩ : ∃ a9 : Array Value, a9 = ([.ref (ad 40 0), .int (jI t), .int (jI k), .int (jI on)] : List Value).toArray := ⟨_, rfl⟩
  rw [← hav9] at hts ⊢
  obtain ⟨Q9, hQ9⟩ : ∃ q9Q : State → Prop, q9Q = MQ below (QI D tc base (fun z u => ∃ X1 : Nat → Int → Int → Int, u = (ad, cnt, X1, Y, ln) ∧ Rng X1 ∧ Frm [4001, 4800] X X1 ∧ MInv X1 ∧ (-2147483648 ≤ z ∧ z ≤ 2147483647) ∧ ((0 ≤ t ∧ t < X 40 0 2 ∧ 0 ≤ k ∧ k < X 44 0 t ∧ z = X 48 0 (5 * t + k) ∧ X1 48 0 (5 * t + k) = on) ∨ (¬ (0 ≤ t ∧ t < X 40 0 2 ∧ 0 ≤ k ∧ k < X 44 0 t) ∧ z = -1 ∧ X1 48 0 (5 * t + k) = X 48 0 (5 * t + k))) ∧ ∀ y, y ≠ 5 * t + k → X1 48 0 y = X 48 0 y)) av9 s 0 0 (frA base) := ⟨_, rfl⟩
  rw [← hQ9]
  have hi9 : ∀ w ∈ wsX90, w ∈ wsX9_shut := fun w h => List.mem_cons_of_mem _ (List.mem_append_right _ h)
  have hf9 : fctx s m _ RX9 wsX9_shut D tc RX9 TX9 51 9 := ⟨hts, hi9, hown, hK.1, rfl⟩
  have lk13 := hts (.fieldLink RX9 13 (TX9 3).1 (TX9 3).2.1 (TX9 3).2.2.1) (gj_X9_shut_0 _ (gp_1 gp_h))
  have lk27 := hts (.fieldLink RX9 27 (TX9 7).1 (TX9 7).2.1 (TX9 7).2.2.1) (gj_X9_shut_0 _ (gp_1 (gp_1 gp_h)))
  have lk145 := hts (.fieldLink RX9 145 (TX9 0).1 (TX9 0).2.1 (TX9 0).2.2.1) (gj_X9_shut_0 _ (gp_h))
  have hc40 : cnt 40 = 1 := hFx.at 40 1 (by decide)
  have hc44 : cnt 44 = 1 := hFx.at 44 1 (by decide)
  have hc48 : cnt 48 = 1 := hFx.at 48 1 (by decide)
  have hl : lv_has ls 5 [(0, .ref (ad 40 0)), (1, .int (jI t)), (2, .int (jI k)), (3, .int (jI on))] := hl
  have fstypes : 0 ≤ X 40 0 2 ∧ X 40 0 2 ≤ 8 := hR 40 0 2
  have fsthings : 0 ≤ X 40 0 13 ∧ X 40 0 13 ≤ 30 := hR 40 0 13
  have fsmarks : 0 ≤ X 40 0 20 ∧ X 40 0 20 ≤ 4 := hR 40 0 20
  have fsnotes : 0 ≤ X 40 0 22 ∧ X 40 0 22 ≤ 80 := hR 40 0 22
  refine lv_aload_n hx hb dX9_shut_0 rfl (lv_at hl 0 rfl) ?_
  refine lv_iconst (v := jI 0) hx hb dX9_shut_1 rfl ?_
  refine x_puti (jz := 0) hx hb hf9 ⟨tyX9_ok, nmX9⟩ hw hS (by first | exact Int.le_refl 0 | omega) (by first | exact zlt hc40 | omega) sl_40_0 rfl lk145 rfl (tyX9_ok 0 (by decide)) rfl rfl dX9_shut_2 (fun H locs hw hS => ?_)
  obtain ⟨X1, hX1⟩ : ∃ Xq, Xq = u3 X 40 0 0 0 := ⟨_, rfl⟩
  rw [← hX1] at hw
  have hRX1 : Rng X1 := by rw [hX1]; exact rng_set hR (show (-2147483648) ≤ 0 ∧ 0 ≤ 2147483647 by omega)
  have hVX1 : X1 40 0 0 = 0 := by rw [hX1]; exact u3_s _ _ _ _ _
  have hFX1 : Frm [4001, 4800] X X1 := by rw [hX1]; exact Frm.set Frm.rf (show 4001 ∈ [4001, 4800] by first | exact nlm_in rfl | decide)
  refine lv_aload_n hx hb dX9_shut_5 rfl (lv_at hl 0 rfl) ?_
  refine lv_iload_n hx hb dX9_shut_6 rfl (lv_at hl 1 rfl) ?_
  refine gos_i (run_V (As := [.int (jI t)]) (rest := []) hx hb hml hown hts (c_X9_isType l D tc base ad cnt X1 Y ln hRX1 hFx t (by omega)) (cwV 1 hts gX9_shut_X9_isType rfl rfl rfl (by first | exact hd_X9_isType | decide +kernel) ⟨Nat.le_of_ble_eq_true rfl, Nat.le_of_ble_eq_true rfl⟩) hK hw (by first | exact Int.le_refl 0 | omega) (by first | exact zlt hc40 | omega) sl_40_0 rfl rfl hl.1 rfl (Nat.le_of_ble_eq_true rfl) dX9_shut_7 ⟨Nat.le_of_ble_eq_true rfl, Nat.le_of_ble_eq_true rfl⟩) hS (fun z2 u3 H locs p4 hw hS => ?_)
  obtain ⟨eu3, p4⟩ := p4
  subst eu3
  have e5 : X1 40 0 2 = X 40 0 2 := by rw [hX1, u3_j _ _ _ _ (by decide)]
  simp only [e5] at p4
  rcases p4 with ⟨ez2, p4⟩ | ⟨ez2, p4⟩
  · subst ez2
    refine x_if_eqF (tgt := 27) hx hb (by omega) (by decide) dX9_shut_10 (by decide) ?_
    refine lv_iload_n hx hb dX9_shut_13 rfl (lv_at hl 2 rfl) ?_
    refine x_if_lt (tgt := 27) hx hb (by omega) dX9_shut_14 (by decide) (fun c6 => ?_) (fun c6 => ?_)
    · refine lv_iconst (v := jI (-1)) hx hb dX9_shut_27 rfl ?_
      rw [hQ9]
      refine ret_i (mc := 0) (ms := 0) hx hb hr hlocks hw hS (by first | exact Nat.le_of_ble_eq_true rfl | omega) (by first | exact Nat.le_of_ble_eq_true rfl | omega) dX9_shut_28 ?_
      have q8 : Frm [4001] X X1 := by rw [hX1]; exact Frm.set Frm.rf (show 4001 ∈ [4001] by first | exact nlm_in rfl | decide)
      have hMq7 : MInv X1 := minv_frm hMI q8 (by decide)
      have e9 : X1 48 0 ((5 * t) + k) = X 48 0 ((5 * t) + k) := (by rw [hX1, u3_k _ _ _ _ (by first | exact Nat.ne_of_beq_eq_false rfl | decide)])
      exact ⟨X1, rfl, hRX1, hFX1, hMq7, by omega, (by (try delta Hid at *); first | exact Or.inr ((⟨(fun q => by omega), by omega, by omega⟩)) | exact Or.inl ⟨by omega, by omega, by omega, by omega, by omega, by omega⟩ | omega), fun y hy => (by rw [hX1, u3_k _ _ _ _ (by first | exact Nat.ne_of_beq_eq_false rfl | decide)])⟩
    · refine lv_iload_n hx hb dX9_shut_17 rfl (lv_at hl 2 rfl) ?_
      refine lv_aload_n hx hb dX9_shut_18 rfl (lv_at hl 0 rfl) ?_
      refine x_geto hx hb hf9 hw (by first | exact Int.le_refl 0 | omega) (by first | exact zlt hc40 | omega) sl_40_3 lk13 dX9_shut_19 ?_
      refine lv_iload_n hx hb dX9_shut_22 rfl (lv_at hl 1 rfl) ?_
      refine x_iald hx hb hK.1 hw (by first | exact Int.le_refl 0 | omega) (by first | exact zlt hc44 | omega) ar_44 (len_E ar_44 (by first | exact Nat.ne_of_beq_eq_false rfl | decide)) (by omega) (by omega) (by omega) dX9_shut_23 ?_
      have e10 : ∀ p9 q9 : Int, X1 44 p9 q9 = X 44 p9 q9 := fun p9 q9 => by rw [hX1, u3_k _ _ _ _ (by first | exact Nat.ne_of_beq_eq_false rfl | decide)]
      rw [e10 0 t]
      have f11 : 0 ≤ X 44 0 t ∧ X 44 0 t ≤ 5 := hR 44 0 t
      refine x_icmp_lt (tgt := 29) hx hb (by omega) (by omega) dX9_shut_24 (by decide) (fun c12 => ?_) (fun c12 => ?_)
      · refine lv_aload_n hx hb dX9_shut_29 rfl (lv_at hl 0 rfl) ?_
        refine x_geto hx hb hf9 hw (by first | exact Int.le_refl 0 | omega) (by first | exact zlt hc40 | omega) sl_40_7 lk27 dX9_shut_30 ?_
        refine lv_iconst (v := jI 5) hx hb dX9_shut_33 rfl ?_
        refine lv_iload_n hx hb dX9_shut_34 rfl (lv_at hl 1 rfl) ?_
        refine x_imul hx hb dX9_shut_35 ?_
        refine lv_iload_n hx hb dX9_shut_36 rfl (lv_at hl 2 rfl) ?_
        refine x_iadd hx hb dX9_shut_37 ?_
        refine x_zald hx hb hK.1 hw (by first | exact Int.le_refl 0 | omega) (by first | exact zlt hc48 | omega) ar_48 (len_E ar_48 (by first | exact Nat.ne_of_beq_eq_false rfl | decide)) (by omega) (by omega) (by omega) dX9_shut_38 ?_
        have e13 : ∀ p9 q9 : Int, X1 48 p9 q9 = X 48 p9 q9 := fun p9 q9 => by rw [hX1, u3_k _ _ _ _ (by first | exact Nat.ne_of_beq_eq_false rfl | decide)]
        rw [e13 0 ((5 * t) + k)]
        have f14 : 0 ≤ X 48 0 ((5 * t) + k) ∧ X 48 0 ((5 * t) + k) ≤ 1 := hR 48 0 ((5 * t) + k)
        refine lv_istore (lv' := [(4, .int (jI (X 48 0 ((5 * t) + k)))), (0, .ref (ad 40 0)), (1, .int (jI t)), (2, .int (jI k)), (3, .int (jI on))]) hx hb dX9_shut_39 hl (by decide) rfl (fun ls hl => ?_)
        refine lv_aload_n hx hb dX9_shut_41 rfl (lv_at hl 1 rfl) ?_
        refine x_geto hx hb hf9 hw (by first | exact Int.le_refl 0 | omega) (by first | exact zlt hc40 | omega) sl_40_7 lk27 dX9_shut_42 ?_
        refine lv_iconst (v := jI 5) hx hb dX9_shut_45 rfl ?_
        refine lv_iload_n hx hb dX9_shut_46 rfl (lv_at hl 2 rfl) ?_
        refine x_imul hx hb dX9_shut_47 ?_
        refine lv_iload_n hx hb dX9_shut_48 rfl (lv_at hl 3 rfl) ?_
        refine x_iadd hx hb dX9_shut_49 ?_
        refine lv_iload_n hx hb dX9_shut_50 rfl (lv_at hl 4 rfl) ?_
        refine x_zast hx hb hK.1 hw hS (by first | exact Int.le_refl 0 | omega) (by first | exact zlt hc48 | omega) ar_48 (len_E ar_48 (by first | exact Nat.ne_of_beq_eq_false rfl | decide)) (by omega) (by omega) (by omega) (by omega) (by omega) dX9_shut_51 (fun H locs hw hS => ?_)
        obtain ⟨X15, hX15⟩ : ∃ Xq, Xq = u3 X1 48 0 ((5 * t) + k) on := ⟨_, rfl⟩
        rw [← hX15] at hw
        have hRX15 : Rng X15 := by rw [hX15]; exact rng_set hRX1 (show 0 ≤ on ∧ on ≤ 1 by omega)
        have hVX15 : X15 48 0 ((5 * t) + k) = on := by rw [hX15]; exact u3_s _ _ _ _ _
        have hFX15 : Frm [4001, 4800] X X15 := by rw [hX15]; exact Frm.set hFX1 (show 4800 ∈ [4001, 4800] by first | exact nlm_in rfl | decide)
        refine lv_iload hx hb dX9_shut_52 (lv_at hl 0 rfl) ?_
        refine x_if_eq (tgt := 61) hx hb (by omega) dX9_shut_54 (by decide) (fun c16 => ?_) (fun c16 => ?_)
        · refine lv_iconst (v := jI 0) hx hb dX9_shut_61 rfl ?_
          rw [hQ9]
          refine ret_i (mc := 0) (ms := 0) hx hb hr hlocks hw hS (by first | exact Nat.le_of_ble_eq_true rfl | omega) (by first | exact Nat.le_of_ble_eq_true rfl | omega) dX9_shut_62 ?_
          have q18 : Frm [4001, 4800] X X1 := by rw [hX1]; exact Frm.set Frm.rf (show 4001 ∈ [4001, 4800] by first | exact nlm_in rfl | decide)
          have q19 : Frm [4001, 4800] X X15 := by rw [hX15]; exact Frm.set q18 (show 4800 ∈ [4001, 4800] by first | exact nlm_in rfl | decide)
          have hMq17 : MInv X15 := minv_frm hMI q19 (by decide)
          have e20 : X15 48 0 ((5 * t) + k) = on := (by exact hVX15)
          exact ⟨X15, rfl, hRX15, hFX15, hMq17, by omega, (by (try delta Hid at *); first | exact Or.inl ⟨by omega, by omega, by omega, by omega, by omega, by omega⟩ | omega), fun y hy => (by rw [hX15, u3_j _ _ _ _ hy, hX1, u3_k _ _ _ _ (by first | exact Nat.ne_of_beq_eq_false rfl | decide)])⟩
        · refine lv_iconst (v := jI 1) hx hb dX9_shut_57 rfl ?_
          refine lv_goto (tgt := 62) hx hb dX9_shut_58 (by decide) ?_
          rw [hQ9]
          refine ret_i (mc := 0) (ms := 0) hx hb hr hlocks hw hS (by first | exact Nat.le_of_ble_eq_true rfl | omega) (by first | exact Nat.le_of_ble_eq_true rfl | omega) dX9_shut_62 ?_
          have q22 : Frm [4001, 4800] X X1 := by rw [hX1]; exact Frm.set Frm.rf (show 4001 ∈ [4001, 4800] by first | exact nlm_in rfl | decide)
          have q23 : Frm [4001, 4800] X X15 := by rw [hX15]; exact Frm.set q22 (show 4800 ∈ [4001, 4800] by first | exact nlm_in rfl | decide)
          have hMq21 : MInv X15 := minv_frm hMI q23 (by decide)
          have e24 : X15 48 0 ((5 * t) + k) = on := (by exact hVX15)
          exact ⟨X15, rfl, hRX15, hFX15, hMq21, by omega, (by (try delta Hid at *); first | exact Or.inl ⟨by omega, by omega, by omega, by omega, by omega, by omega⟩ | omega), fun y hy => (by rw [hX15, u3_j _ _ _ _ hy, hX1, u3_k _ _ _ _ (by first | exact Nat.ne_of_beq_eq_false rfl | decide)])⟩
      · refine lv_iconst (v := jI (-1)) hx hb dX9_shut_27 rfl ?_
        rw [hQ9]
        refine ret_i (mc := 0) (ms := 0) hx hb hr hlocks hw hS (by first | exact Nat.le_of_ble_eq_true rfl | omega) (by first | exact Nat.le_of_ble_eq_true rfl | omega) dX9_shut_28 ?_
        have q26 : Frm [4001] X X1 := by rw [hX1]; exact Frm.set Frm.rf (show 4001 ∈ [4001] by first | exact nlm_in rfl | decide)
        have hMq25 : MInv X1 := minv_frm hMI q26 (by decide)
        have e27 : X1 48 0 ((5 * t) + k) = X 48 0 ((5 * t) + k) := (by rw [hX1, u3_k _ _ _ _ (by first | exact Nat.ne_of_beq_eq_false rfl | decide)])
        exact ⟨X1, rfl, hRX1, hFX1, hMq25, by omega, (by (try delta Hid at *); first | exact Or.inr ((⟨(fun q => by omega), by omega, by omega⟩)) | exact Or.inl ⟨by omega, by omega, by omega, by omega, by omega, by omega⟩ | omega), fun y hy => (by rw [hX1, u3_k _ _ _ _ (by first | exact Nat.ne_of_beq_eq_false rfl | decide)])⟩
  · subst ez2
    refine x_if_eqT (tgt := 27) hx hb (by omega) (by decide) dX9_shut_10 (by decide) ?_
    refine lv_iconst (v := jI (-1)) hx hb dX9_shut_27 rfl ?_
    rw [hQ9]
    refine ret_i (mc := 0) (ms := 0) hx hb hr hlocks hw hS (by first | exact Nat.le_of_ble_eq_true rfl | omega) (by first | exact Nat.le_of_ble_eq_true rfl | omega) dX9_shut_28 ?_
    have q29 : Frm [4001] X X1 := by rw [hX1]; exact Frm.set Frm.rf (show 4001 ∈ [4001] by first | exact nlm_in rfl | decide)
    have hMq28 : MInv X1 := minv_frm hMI q29 (by decide)
    have e30 : X1 48 0 ((5 * t) + k) = X 48 0 ((5 * t) + k) := (by rw [hX1, u3_k _ _ _ _ (by first | exact Nat.ne_of_beq_eq_false rfl | decide)])
    exact ⟨X1, rfl, hRX1, hFX1, hMq28, by omega, (by (try delta Hid at *); first | exact Or.inr ((⟨(fun q => by omega), by omega, by omega⟩)) | exact Or.inl ⟨by omega, by omega, by omega, by omega, by omega, by omega⟩ | omega), fun y hy => (by rw [hX1, u3_k _ _ _ _ (by first | exact Nat.ne_of_beq_eq_false rfl | decide)])⟩

set_option maxHeartbeats 4000000 in
set_option maxRecDepth 100000 in
theorem c_X9_check (l : Launch) (D : va_G) (tc : Nat → ClassId) (base : Nat) (ad : Nat → Int → Nat) (cnt : Nat → Int) (X : Nat → Int → Int → Int) (Y : Nat → Int → Int → Option Int) (ln : Int → Int) (hR : Rng X) (hFx : Fx cnt) (hMI : MInv X) (t kind a b v : Int) (ht : -2147483648 ≤ t ∧ t ≤ 2147483647) (hkind : -2147483648 ≤ kind ∧ kind ≤ 2147483647) (ha : -2147483648 ≤ a ∧ a ≤ 2147483647) (hb : -2147483648 ≤ b ∧ b ≤ 2147483647) (hv : -9223372036854775808 ≤ v ∧ v ≤ 9223372036854775807) : KI l D tc base yX9_check wsX9_check ({ frames := 1, cells := 0, slots := 0, locals := 21 } : Room) [.ref (ad 40 0), .int (jI t), .int (jI kind), .int (jI a), .int (jI b), .long (jL v)] (ad, cnt, X, Y, ln) 0 0 (fun z u => ∃ X1 : Nat → Int → Int → Int, u = (ad, cnt, X1, Y, ln) ∧ Rng X1 ∧ Frm [4001, 5000, 5100, 5200, 5300, 4900] X X1 ∧ MInv X1 ∧ (-2147483648 ≤ z ∧ z ≤ 2147483647) ∧ ((¬ (0 ≤ t ∧ t < X 40 0 2) ∧ z = -1 ∧ X1 49 0 t = X 49 0 t) ∨ (0 ≤ t ∧ t < X 40 0 2 ∧ ¬ (0 ≤ kind ∧ kind < 6 ∧ 0 ≤ a ∧ a < 5 ∧ 0 ≤ b ∧ b < 5) ∧ z = -2 ∧ X1 49 0 t = X 49 0 t) ∨ (0 ≤ t ∧ t < X 40 0 2 ∧ (0 ≤ kind ∧ kind < 6 ∧ 0 ≤ a ∧ a < 5 ∧ 0 ≤ b ∧ b < 5) ∧ 4 ≤ X 49 0 t ∧ z = -4 ∧ X1 49 0 t = X 49 0 t) ∨ (0 ≤ t ∧ t < X 40 0 2 ∧ (0 ≤ kind ∧ kind < 6 ∧ 0 ≤ a ∧ a < 5 ∧ 0 ≤ b ∧ b < 5) ∧ X 49 0 t ≤ 3 ∧ z = X 49 0 t + 1 ∧ X1 49 0 t = X 49 0 t + 1)) ∧ (∀ y, y ≠ t → X1 49 0 y = X 49 0 y) ∧ (0 ≤ z → X1 50 0 (4 * t + X 49 0 t) = kind ∧ X1 51 0 (4 * t + X 49 0 t) = a ∧ X1 52 0 (4 * t + X 49 0 t) = b ∧ X1 53 0 (4 * t + X 49 0 t) = v) ∧ ∀ y, ¬ (0 ≤ z ∧ y = (4 * t + X 49 0 t)) → X1 50 0 y = X 50 0 y ∧ X1 51 0 y = X 51 0 y ∧ X1 52 0 y = X 52 0 y ∧ X1 53 0 y = X 53 0 y) := by
  refine K_of (cc := cX9_check) (maxL := 8) (ret := (some .int)) (by decide) rfl (Nat.le_of_ble_eq_true rfl) ?_
  intro p e s m below meth c ls hx hb hr hml hown hts hlocks hl hK hw hS
  have hown : s.vm.findClass RX9 = some m.cls := hown
  obtain ⟨av9, hav9⟩ : ∃ a9 : Array Value, a9 = ([.ref (ad 40 0), .int (jI t), .int (jI kind), .int (jI a), .int (jI b), .long (jL v)] : List Value).toArray := ⟨_, rfl⟩
  rw [← hav9] at hts ⊢
  obtain ⟨Q9, hQ9⟩ : ∃ q9Q : State → Prop, q9Q = MQ below (QI D tc base (fun z u => ∃ X1 : Nat → Int → Int → Int, u = (ad, cnt, X1, Y, ln) ∧ Rng X1 ∧ Frm [4001, 5000, 5100, 5200, 5300, 4900] X X1 ∧ MInv X1 ∧ (-2147483648 ≤ z ∧ z ≤ 2147483647) ∧ ((¬ (0 ≤ t ∧ t < X 40 0 2) ∧ z = -1 ∧ X1 49 0 t = X 49 0 t) ∨ (0 ≤ t ∧ t < X 40 0 2 ∧ ¬ (0 ≤ kind ∧ kind < 6 ∧ 0 ≤ a ∧ a < 5 ∧ 0 ≤ b ∧ b < 5) ∧ z = -2 ∧ X1 49 0 t = X 49 0 t) ∨ (0 ≤ t ∧ t < X 40 0 2 ∧ (0 ≤ kind ∧ kind < 6 ∧ 0 ≤ a ∧ a < 5 ∧ 0 ≤ b ∧ b < 5) ∧ 4 ≤ X 49 0 t ∧ z = -4 ∧ X1 49 0 t = X 49 0 t) ∨ (0 ≤ t ∧ t < X 40 0 2 ∧ (0 ≤ kind ∧ kind < 6 ∧ 0 ≤ a ∧ a < 5 ∧ 0 ≤ b ∧ b < 5) ∧ X 49 0 t ≤ 3 ∧ z = X 49 0 t + 1 ∧ X1 49 0 t = X 49 0 t + 1)) ∧ (∀ y, y ≠ t → X1 49 0 y = X 49 0 y) ∧ (0 ≤ z → X1 50 0 (4 * t + X 49 0 t) = kind ∧ X1 51 0 (4 * t + X 49 0 t) = a ∧ X1 52 0 (4 * t + X 49 0 t) = b ∧ X1 53 0 (4 * t + X 49 0 t) = v) ∧ ∀ y, ¬ (0 ≤ z ∧ y = (4 * t + X 49 0 t)) → X1 50 0 y = X 50 0 y ∧ X1 51 0 y = X 51 0 y ∧ X1 52 0 y = X 52 0 y ∧ X1 53 0 y = X 53 0 y)) av9 s 0 0 (frA base) := ⟨_, rfl⟩
  rw [← hQ9]
  have hi9 : ∀ w ∈ wsX90, w ∈ wsX9_check := fun w h => List.mem_cons_of_mem _ (List.mem_append_right _ h)
  have hf9 : fctx s m _ RX9 wsX9_check D tc RX9 TX9 51 9 := ⟨hts, hi9, hown, hK.1, rfl⟩
  have lk30 := hts (.fieldLink RX9 30 (TX9 8).1 (TX9 8).2.1 (TX9 8).2.2.1) (gj_X9_check_0 _ (gp_1 gp_h))
  have lk33 := hts (.fieldLink RX9 33 (TX9 9).1 (TX9 9).2.1 (TX9 9).2.2.1) (gj_X9_check_0 _ (gp_1 (gp_1 gp_h)))
  have lk36 := hts (.fieldLink RX9 36 (TX9 10).1 (TX9 10).2.1 (TX9 10).2.2.1) (gj_X9_check_0 _ (gp_1 (gp_1 (gp_1 gp_h))))
  have lk39 := hts (.fieldLink RX9 39 (TX9 11).1 (TX9 11).2.1 (TX9 11).2.2.1) (gj_X9_check_0 _ (gp_4 gp_h))
  have lk42 := hts (.fieldLink RX9 42 (TX9 12).1 (TX9 12).2.1 (TX9 12).2.2.1) (gj_X9_check_0 _ (gp_4 (gp_1 gp_h)))
  have lk145 := hts (.fieldLink RX9 145 (TX9 0).1 (TX9 0).2.1 (TX9 0).2.2.1) (gj_X9_check_0 _ (gp_h))
  have hc40 : cnt 40 = 1 := hFx.at 40 1 (by decide)
  have hc49 : cnt 49 = 1 := hFx.at 49 1 (by decide)
  have hc50 : cnt 50 = 1 := hFx.at 50 1 (by decide)
  have hc51 : cnt 51 = 1 := hFx.at 51 1 (by decide)
  have hc52 : cnt 52 = 1 := hFx.at 52 1 (by decide)
  have hc53 : cnt 53 = 1 := hFx.at 53 1 (by decide)
  have hl : lv_has ls 8 [(0, .ref (ad 40 0)), (1, .int (jI t)), (2, .int (jI kind)), (3, .int (jI a)), (4, .int (jI b)), (5, .long (jL v))] := hl
  have fstypes : 0 ≤ X 40 0 2 ∧ X 40 0 2 ≤ 8 := hR 40 0 2
  have fsthings : 0 ≤ X 40 0 13 ∧ X 40 0 13 ≤ 30 := hR 40 0 13
  have fsmarks : 0 ≤ X 40 0 20 ∧ X 40 0 20 ≤ 4 := hR 40 0 20
  have fsnotes : 0 ≤ X 40 0 22 ∧ X 40 0 22 ≤ 80 := hR 40 0 22
  refine lv_aload_n hx hb dX9_check_0 rfl (lv_at hl 0 rfl) ?_
  refine lv_iconst (v := jI 0) hx hb dX9_check_1 rfl ?_
  refine x_puti (jz := 0) hx hb hf9 ⟨tyX9_ok, nmX9⟩ hw hS (by first | exact Int.le_refl 0 | omega) (by first | exact zlt hc40 | omega) sl_40_0 rfl lk145 rfl (tyX9_ok 0 (by decide)) rfl rfl dX9_check_2 (fun H locs hw hS => ?_)
  obtain ⟨X1, hX1⟩ : ∃ Xq, Xq = u3 X 40 0 0 0 := ⟨_, rfl⟩
  rw [← hX1] at hw
  have hRX1 : Rng X1 := by rw [hX1]; exact rng_set hR (show (-2147483648) ≤ 0 ∧ 0 ≤ 2147483647 by omega)
  have hVX1 : X1 40 0 0 = 0 := by rw [hX1]; exact u3_s _ _ _ _ _
  have hFX1 : Frm [4001, 5000, 5100, 5200, 5300, 4900] X X1 := by rw [hX1]; exact Frm.set Frm.rf (show 4001 ∈ [4001, 5000, 5100, 5200, 5300, 4900] by first | exact nlm_in rfl | decide)
  refine lv_aload_n hx hb dX9_check_5 rfl (lv_at hl 0 rfl) ?_
  refine lv_iload_n hx hb dX9_check_6 rfl (lv_at hl 1 rfl) ?_
  refine gos_i (run_V (As := [.int (jI t)]) (rest := []) hx hb hml hown hts (c_X9_isType l D tc base ad cnt X1 Y ln hRX1 hFx t (by omega)) (cwV 1 hts gX9_check_X9_isType rfl rfl rfl (by first | exact hd_X9_isType | decide +kernel) ⟨Nat.le_of_ble_eq_true rfl, Nat.le_of_ble_eq_true rfl⟩) hK hw (by first | exact Int.le_refl 0 | omega) (by first | exact zlt hc40 | omega) sl_40_0 rfl rfl hl.1 rfl (Nat.le_of_ble_eq_true rfl) dX9_check_7 ⟨Nat.le_of_ble_eq_true rfl, Nat.le_of_ble_eq_true rfl⟩) hS (fun z2 u3 H locs p4 hw hS => ?_)
  obtain ⟨eu3, p4⟩ := p4
  subst eu3
  have e5 : X1 40 0 2 = X 40 0 2 := by rw [hX1, u3_j _ _ _ _ (by decide)]
  simp only [e5] at p4
  rcases p4 with ⟨ez2, p4⟩ | ⟨ez2, p4⟩
  · subst ez2
    refine x_if_neT (tgt := 15) hx hb (by omega) (by decide) dX9_check_10 (by decide) ?_
    refine lv_iload_n hx hb dX9_check_15 rfl (lv_at hl 2 rfl) ?_
    refine x_if_lt (tgt := 44) hx hb (by omega) dX9_check_16 (by decide) (fun c6 => ?_) (fun c6 => ?_)
    · refine lv_bipush (v := jI (-2)) hx hb dX9_check_44 (by decide) ?_
      rw [hQ9]
      refine ret_i (mc := 0) (ms := 0) hx hb hr hlocks hw hS (by first | exact Nat.le_of_ble_eq_true rfl | omega) (by first | exact Nat.le_of_ble_eq_true rfl | omega) dX9_check_46 ?_
      have q8 : Frm [4001] X X1 := by rw [hX1]; exact Frm.set Frm.rf (show 4001 ∈ [4001] by first | exact nlm_in rfl | decide)
      have hMq7 : MInv X1 := minv_frm hMI q8 (by decide)
      have e9 : X1 49 0 t = X 49 0 t := (by rw [hX1, u3_k _ _ _ _ (by first | exact Nat.ne_of_beq_eq_false rfl | decide)])
      refine ⟨X1, rfl, hRX1, hFX1, hMq7, ?g9p1, ?g9p2, ?g9p3, ?g9p4, ?g9p5⟩
      case g9p1 => omega
      case g9p2 => (try delta Hid at *); first | exact Or.inr (Or.inl ⟨by omega, by omega, (fun q => by omega), by omega, by omega⟩) | exact Or.inr (Or.inr (Or.inr ((⟨by omega, by omega, by omega, by omega, by omega, by omega⟩)))) | omega
      case g9p3 => exact fun y hy => (by rw [hX1, u3_k _ _ _ _ (by first | exact Nat.ne_of_beq_eq_false rfl | decide)])
      case g9p4 => exact fun q => (by exfalso; omega)
      case g9p5 => exact fun y _ => ⟨(by rw [hX1, u3_k _ _ _ _ (by first | exact Nat.ne_of_beq_eq_false rfl | decide)]), (by rw [hX1, u3_k _ _ _ _ (by first | exact Nat.ne_of_beq_eq_false rfl | decide)]), (by rw [hX1, u3_k _ _ _ _ (by first | exact Nat.ne_of_beq_eq_false rfl | decide)]), (by rw [hX1, u3_k _ _ _ _ (by first | exact Nat.ne_of_beq_eq_false rfl | decide)])⟩
    · refine lv_iload_n hx hb dX9_check_19 rfl (lv_at hl 2 rfl) ?_
      refine lv_iconst (v := jI 5) hx hb dX9_check_20 rfl ?_
      refine x_icmp_gt (tgt := 44) hx hb (by omega) (by omega) dX9_check_21 (by decide) (fun c10 => ?_) (fun c10 => ?_)
      · refine lv_bipush (v := jI (-2)) hx hb dX9_check_44 (by decide) ?_
        rw [hQ9]
        refine ret_i (mc := 0) (ms := 0) hx hb hr hlocks hw hS (by first | exact Nat.le_of_ble_eq_true rfl | omega) (by first | exact Nat.le_of_ble_eq_true rfl | omega) dX9_check_46 ?_
        have q12 : Frm [4001] X X1 := by rw [hX1]; exact Frm.set Frm.rf (show 4001 ∈ [4001] by first | exact nlm_in rfl | decide)
        have hMq11 : MInv X1 := minv_frm hMI q12 (by decide)
        have e13 : X1 49 0 t = X 49 0 t := (by rw [hX1, u3_k _ _ _ _ (by first | exact Nat.ne_of_beq_eq_false rfl | decide)])
        refine ⟨X1, rfl, hRX1, hFX1, hMq11, ?g9p6, ?g9p7, ?g9p8, ?g9p9, ?g9p10⟩
        case g9p6 => omega
        case g9p7 => (try delta Hid at *); first | exact Or.inr (Or.inl ⟨by omega, by omega, (fun q => by omega), by omega, by omega⟩) | exact Or.inr (Or.inr (Or.inr ((⟨by omega, by omega, by omega, by omega, by omega, by omega⟩)))) | omega
        case g9p8 => exact fun y hy => (by rw [hX1, u3_k _ _ _ _ (by first | exact Nat.ne_of_beq_eq_false rfl | decide)])
        case g9p9 => exact fun q => (by exfalso; omega)
        case g9p10 => exact fun y _ => ⟨(by rw [hX1, u3_k _ _ _ _ (by first | exact Nat.ne_of_beq_eq_false rfl | decide)]), (by rw [hX1, u3_k _ _ _ _ (by first | exact Nat.ne_of_beq_eq_false rfl | decide)]), (by rw [hX1, u3_k _ _ _ _ (by first | exact Nat.ne_of_beq_eq_false rfl | decide)]), (by rw [hX1, u3_k _ _ _ _ (by first | exact Nat.ne_of_beq_eq_false rfl | decide)])⟩
      · refine lv_iload_n hx hb dX9_check_24 rfl (lv_at hl 3 rfl) ?_
        refine x_if_lt (tgt := 44) hx hb (by omega) dX9_check_25 (by decide) (fun c14 => ?_) (fun c14 => ?_)
        · refine lv_bipush (v := jI (-2)) hx hb dX9_check_44 (by decide) ?_
          rw [hQ9]
          refine ret_i (mc := 0) (ms := 0) hx hb hr hlocks hw hS (by first | exact Nat.le_of_ble_eq_true rfl | omega) (by first | exact Nat.le_of_ble_eq_true rfl | omega) dX9_check_46 ?_
          have q16 : Frm [4001] X X1 := by rw [hX1]; exact Frm.set Frm.rf (show 4001 ∈ [4001] by first | exact nlm_in rfl | decide)
          have hMq15 : MInv X1 := minv_frm hMI q16 (by decide)
          have e17 : X1 49 0 t = X 49 0 t := (by rw [hX1, u3_k _ _ _ _ (by first | exact Nat.ne_of_beq_eq_false rfl | decide)])
          refine ⟨X1, rfl, hRX1, hFX1, hMq15, ?g9p11, ?g9p12, ?g9p13, ?g9p14, ?g9p15⟩
          case g9p11 => omega
          case g9p12 => (try delta Hid at *); first | exact Or.inr (Or.inl ⟨by omega, by omega, (fun q => by omega), by omega, by omega⟩) | exact Or.inr (Or.inr (Or.inr ((⟨by omega, by omega, by omega, by omega, by omega, by omega⟩)))) | omega
          case g9p13 => exact fun y hy => (by rw [hX1, u3_k _ _ _ _ (by first | exact Nat.ne_of_beq_eq_false rfl | decide)])
          case g9p14 => exact fun q => (by exfalso; omega)
          case g9p15 => exact fun y _ => ⟨(by rw [hX1, u3_k _ _ _ _ (by first | exact Nat.ne_of_beq_eq_false rfl | decide)]), (by rw [hX1, u3_k _ _ _ _ (by first | exact Nat.ne_of_beq_eq_false rfl | decide)]), (by rw [hX1, u3_k _ _ _ _ (by first | exact Nat.ne_of_beq_eq_false rfl | decide)]), (by rw [hX1, u3_k _ _ _ _ (by first | exact Nat.ne_of_beq_eq_false rfl | decide)])⟩
        · refine lv_iload_n hx hb dX9_check_28 rfl (lv_at hl 3 rfl) ?_
          refine lv_iconst (v := jI 4) hx hb dX9_check_29 rfl ?_
          refine x_icmp_gt (tgt := 44) hx hb (by omega) (by omega) dX9_check_30 (by decide) (fun c18 => ?_) (fun c18 => ?_)
          · refine lv_bipush (v := jI (-2)) hx hb dX9_check_44 (by decide) ?_
            rw [hQ9]
            refine ret_i (mc := 0) (ms := 0) hx hb hr hlocks hw hS (by first | exact Nat.le_of_ble_eq_true rfl | omega) (by first | exact Nat.le_of_ble_eq_true rfl | omega) dX9_check_46 ?_
            have q20 : Frm [4001] X X1 := by rw [hX1]; exact Frm.set Frm.rf (show 4001 ∈ [4001] by first | exact nlm_in rfl | decide)
            have hMq19 : MInv X1 := minv_frm hMI q20 (by decide)
            have e21 : X1 49 0 t = X 49 0 t := (by rw [hX1, u3_k _ _ _ _ (by first | exact Nat.ne_of_beq_eq_false rfl | decide)])
            refine ⟨X1, rfl, hRX1, hFX1, hMq19, ?g9p16, ?g9p17, ?g9p18, ?g9p19, ?g9p20⟩
            case g9p16 => omega
            case g9p17 => (try delta Hid at *); first | exact Or.inr (Or.inl ⟨by omega, by omega, (fun q => by omega), by omega, by omega⟩) | exact Or.inr (Or.inr (Or.inr ((⟨by omega, by omega, by omega, by omega, by omega, by omega⟩)))) | omega
            case g9p18 => exact fun y hy => (by rw [hX1, u3_k _ _ _ _ (by first | exact Nat.ne_of_beq_eq_false rfl | decide)])
            case g9p19 => exact fun q => (by exfalso; omega)
            case g9p20 => exact fun y _ => ⟨(by rw [hX1, u3_k _ _ _ _ (by first | exact Nat.ne_of_beq_eq_false rfl | decide)]), (by rw [hX1, u3_k _ _ _ _ (by first | exact Nat.ne_of_beq_eq_false rfl | decide)]), (by rw [hX1, u3_k _ _ _ _ (by first | exact Nat.ne_of_beq_eq_false rfl | decide)]), (by rw [hX1, u3_k _ _ _ _ (by first | exact Nat.ne_of_beq_eq_false rfl | decide)])⟩
          · refine lv_iload hx hb dX9_check_33 (lv_at hl 4 rfl) ?_
            refine x_if_lt (tgt := 44) hx hb (by omega) dX9_check_35 (by decide) (fun c22 => ?_) (fun c22 => ?_)
            · refine lv_bipush (v := jI (-2)) hx hb dX9_check_44 (by decide) ?_
              rw [hQ9]
              refine ret_i (mc := 0) (ms := 0) hx hb hr hlocks hw hS (by first | exact Nat.le_of_ble_eq_true rfl | omega) (by first | exact Nat.le_of_ble_eq_true rfl | omega) dX9_check_46 ?_
              have q24 : Frm [4001] X X1 := by rw [hX1]; exact Frm.set Frm.rf (show 4001 ∈ [4001] by first | exact nlm_in rfl | decide)
              have hMq23 : MInv X1 := minv_frm hMI q24 (by decide)
              have e25 : X1 49 0 t = X 49 0 t := (by rw [hX1, u3_k _ _ _ _ (by first | exact Nat.ne_of_beq_eq_false rfl | decide)])
              refine ⟨X1, rfl, hRX1, hFX1, hMq23, ?g9p21, ?g9p22, ?g9p23, ?g9p24, ?g9p25⟩
              case g9p21 => omega
              case g9p22 => (try delta Hid at *); first | exact Or.inr (Or.inl ⟨by omega, by omega, (fun q => by omega), by omega, by omega⟩) | exact Or.inr (Or.inr (Or.inr ((⟨by omega, by omega, by omega, by omega, by omega, by omega⟩)))) | omega
              case g9p23 => exact fun y hy => (by rw [hX1, u3_k _ _ _ _ (by first | exact Nat.ne_of_beq_eq_false rfl | decide)])
              case g9p24 => exact fun q => (by exfalso; omega)
              case g9p25 => exact fun y _ => ⟨(by rw [hX1, u3_k _ _ _ _ (by first | exact Nat.ne_of_beq_eq_false rfl | decide)]), (by rw [hX1, u3_k _ _ _ _ (by first | exact Nat.ne_of_beq_eq_false rfl | decide)]), (by rw [hX1, u3_k _ _ _ _ (by first | exact Nat.ne_of_beq_eq_false rfl | decide)]), (by rw [hX1, u3_k _ _ _ _ (by first | exact Nat.ne_of_beq_eq_false rfl | decide)])⟩
            · refine lv_iload hx hb dX9_check_38 (lv_at hl 4 rfl) ?_
              refine lv_iconst (v := jI 4) hx hb dX9_check_40 rfl ?_
              refine x_icmp_le (tgt := 47) hx hb (by omega) (by omega) dX9_check_41 (by decide) (fun c26 => ?_) (fun c26 => ?_)
              · refine lv_aload_n hx hb dX9_check_47 rfl (lv_at hl 0 rfl) ?_
                refine x_geto hx hb hf9 hw (by first | exact Int.le_refl 0 | omega) (by first | exact zlt hc40 | omega) sl_40_8 lk30 dX9_check_48 ?_
                refine lv_iload_n hx hb dX9_check_51 rfl (lv_at hl 1 rfl) ?_
                refine x_iald hx hb hK.1 hw (by first | exact Int.le_refl 0 | omega) (by first | exact zlt hc49 | omega) ar_49 (len_E ar_49 (by first | exact Nat.ne_of_beq_eq_false rfl | decide)) (by omega) (by omega) (by omega) dX9_check_52 ?_
                have e27 : ∀ p9 q9 : Int, X1 49 p9 q9 = X 49 p9 q9 := fun p9 q9 => by rw [hX1, u3_k _ _ _ _ (by first | exact Nat.ne_of_beq_eq_false rfl | decide)]
                rw [e27 0 t]
                have f28 : 0 ≤ X 49 0 t ∧ X 49 0 t ≤ 4 := hR 49 0 t
                refine lv_iconst (v := jI 4) hx hb dX9_check_53 rfl ?_
                refine x_icmp_ne (tgt := 60) hx hb (by omega) (by omega) dX9_check_54 (by decide) (fun c29 => ?_) (fun c29 => ?_)
                · refine lv_iconst (v := jI 4) hx hb dX9_check_60 rfl ?_
                  refine lv_iload_n hx hb dX9_check_61 rfl (lv_at hl 1 rfl) ?_
                  refine x_imul hx hb dX9_check_62 ?_
                  refine lv_aload_n hx hb dX9_check_63 rfl (lv_at hl 0 rfl) ?_
                  refine x_geto hx hb hf9 hw (by first | exact Int.le_refl 0 | omega) (by first | exact zlt hc40 | omega) sl_40_8 lk30 dX9_check_64 ?_
                  refine lv_iload_n hx hb dX9_check_67 rfl (lv_at hl 1 rfl) ?_
                  refine x_iald hx hb hK.1 hw (by first | exact Int.le_refl 0 | omega) (by first | exact zlt hc49 | omega) ar_49 (len_E ar_49 (by first | exact Nat.ne_of_beq_eq_false rfl | decide)) (by omega) (by omega) (by omega) dX9_check_68 ?_
                  have e30 : ∀ p9 q9 : Int, X1 49 p9 q9 = X 49 p9 q9 := fun p9 q9 => by rw [hX1, u3_k _ _ _ _ (by first | exact Nat.ne_of_beq_eq_false rfl | decide)]
                  rw [e30 0 t]
                  have f31 : 0 ≤ X 49 0 t ∧ X 49 0 t ≤ 4 := hR 49 0 t
                  refine x_iadd hx hb dX9_check_69 ?_
                  refine lv_istore (lv' := [(7, .int (jI ((4 * t) + (X 49 0 t)))), (0, .ref (ad 40 0)), (1, .int (jI t)), (2, .int (jI kind)), (3, .int (jI a)), (4, .int (jI b)), (5, .long (jL v))]) hx hb dX9_check_70 hl (by decide) rfl (fun ls hl => ?_)
                  refine lv_aload_n hx hb dX9_check_72 rfl (lv_at hl 1 rfl) ?_
                  refine x_geto hx hb hf9 hw (by first | exact Int.le_refl 0 | omega) (by first | exact zlt hc40 | omega) sl_40_9 lk33 dX9_check_73 ?_
                  refine lv_iload hx hb dX9_check_76 (lv_at hl 0 rfl) ?_
                  refine lv_iload_n hx hb dX9_check_78 rfl (lv_at hl 3 rfl) ?_
                  refine x_iast hx hb hK.1 hw hS (by first | exact Int.le_refl 0 | omega) (by first | exact zlt hc50 | omega) ar_50 (len_E ar_50 (by first | exact Nat.ne_of_beq_eq_false rfl | decide)) (by omega) (by omega) (by omega) dX9_check_79 (fun H locs hw hS => ?_)
                  obtain ⟨X32, hX32⟩ : ∃ Xq, Xq = u3 X1 50 0 ((4 * t) + (X 49 0 t)) kind := ⟨_, rfl⟩
                  rw [← hX32] at hw
                  have hRX32 : Rng X32 := by rw [hX32]; exact rng_set hRX1 (show 0 ≤ kind ∧ kind ≤ 5 by omega)
                  have hVX32 : X32 50 0 ((4 * t) + (X 49 0 t)) = kind := by rw [hX32]; exact u3_s _ _ _ _ _
                  have hFX32 : Frm [4001, 5000, 5100, 5200, 5300, 4900] X X32 := by rw [hX32]; exact Frm.set hFX1 (show 5000 ∈ [4001, 5000, 5100, 5200, 5300, 4900] by first | exact nlm_in rfl | decide)
                  refine lv_aload_n hx hb dX9_check_80 rfl (lv_at hl 1 rfl) ?_
                  refine x_geto hx hb hf9 hw (by first | exact Int.le_refl 0 | omega) (by first | exact zlt hc40 | omega) sl_40_10 lk36 dX9_check_81 ?_
                  refine lv_iload hx hb dX9_check_84 (lv_at hl 0 rfl) ?_
                  refine lv_iload_n hx hb dX9_check_86 rfl (lv_at hl 4 rfl) ?_
                  refine x_iast hx hb hK.1 hw hS (by first | exact Int.le_refl 0 | omega) (by first | exact zlt hc51 | omega) ar_51 (len_E ar_51 (by first | exact Nat.ne_of_beq_eq_false rfl | decide)) (by omega) (by omega) (by omega) dX9_check_87 (fun H locs hw hS => ?_)
                  obtain ⟨X33, hX33⟩ : ∃ Xq, Xq = u3 X32 51 0 ((4 * t) + (X 49 0 t)) a := ⟨_, rfl⟩
                  rw [← hX33] at hw
                  have hRX33 : Rng X33 := by rw [hX33]; exact rng_set hRX32 (show 0 ≤ a ∧ a ≤ 4 by omega)
                  have hVX33 : X33 51 0 ((4 * t) + (X 49 0 t)) = a := by rw [hX33]; exact u3_s _ _ _ _ _
                  have hFX33 : Frm [4001, 5000, 5100, 5200, 5300, 4900] X X33 := by rw [hX33]; exact Frm.set hFX32 (show 5100 ∈ [4001, 5000, 5100, 5200, 5300, 4900] by first | exact nlm_in rfl | decide)
                  refine lv_aload_n hx hb dX9_check_88 rfl (lv_at hl 1 rfl) ?_
                  refine x_geto hx hb hf9 hw (by first | exact Int.le_refl 0 | omega) (by first | exact zlt hc40 | omega) sl_40_11 lk39 dX9_check_89 ?_
                  refine lv_iload hx hb dX9_check_92 (lv_at hl 0 rfl) ?_
                  refine lv_iload hx hb dX9_check_94 (lv_at hl 5 rfl) ?_
                  refine x_iast hx hb hK.1 hw hS (by first | exact Int.le_refl 0 | omega) (by first | exact zlt hc52 | omega) ar_52 (len_E ar_52 (by first | exact Nat.ne_of_beq_eq_false rfl | decide)) (by omega) (by omega) (by omega) dX9_check_96 (fun H locs hw hS => ?_)
                  obtain ⟨X34, hX34⟩ : ∃ Xq, Xq = u3 X33 52 0 ((4 * t) + (X 49 0 t)) b := ⟨_, rfl⟩
                  rw [← hX34] at hw
                  have hRX34 : Rng X34 := by rw [hX34]; exact rng_set hRX33 (show 0 ≤ b ∧ b ≤ 4 by omega)
                  have hVX34 : X34 52 0 ((4 * t) + (X 49 0 t)) = b := by rw [hX34]; exact u3_s _ _ _ _ _
                  have hFX34 : Frm [4001, 5000, 5100, 5200, 5300, 4900] X X34 := by rw [hX34]; exact Frm.set hFX33 (show 5200 ∈ [4001, 5000, 5100, 5200, 5300, 4900] by first | exact nlm_in rfl | decide)
                  refine lv_aload_n hx hb dX9_check_97 rfl (lv_at hl 1 rfl) ?_
                  refine x_geto hx hb hf9 hw (by first | exact Int.le_refl 0 | omega) (by first | exact zlt hc40 | omega) sl_40_12 lk42 dX9_check_98 ?_
                  refine lv_iload hx hb dX9_check_101 (lv_at hl 0 rfl) ?_
                  refine lv_lload hx hb dX9_check_103 (lv_at hl 6 rfl) ?_
                  refine x_last hx hb hK.1 hw hS (by first | exact Int.le_refl 0 | omega) (by first | exact zlt hc53 | omega) ar_53 (len_E ar_53 (by first | exact Nat.ne_of_beq_eq_false rfl | decide)) (by omega) (by omega) (by omega) dX9_check_105 (fun H locs hw hS => ?_)
                  obtain ⟨X35, hX35⟩ : ∃ Xq, Xq = u3 X34 53 0 ((4 * t) + (X 49 0 t)) v := ⟨_, rfl⟩
                  rw [← hX35] at hw
                  have hRX35 : Rng X35 := by rw [hX35]; exact rng_set hRX34 (show (-9223372036854775808) ≤ v ∧ v ≤ 9223372036854775807 by omega)
                  have hVX35 : X35 53 0 ((4 * t) + (X 49 0 t)) = v := by rw [hX35]; exact u3_s _ _ _ _ _
                  have hFX35 : Frm [4001, 5000, 5100, 5200, 5300, 4900] X X35 := by rw [hX35]; exact Frm.set hFX34 (show 5300 ∈ [4001, 5000, 5100, 5200, 5300, 4900] by first | exact nlm_in rfl | decide)
                  refine lv_aload_n hx hb dX9_check_106 rfl (lv_at hl 1 rfl) ?_
                  refine x_geto hx hb hf9 hw (by first | exact Int.le_refl 0 | omega) (by first | exact zlt hc40 | omega) sl_40_8 lk30 dX9_check_107 ?_
                  refine lv_iload_n hx hb dX9_check_110 rfl (lv_at hl 2 rfl) ?_
                  refine lv_dup2_11 hx hb dX9_check_111 rfl rfl ?_
                  refine x_iald hx hb hK.1 hw (by first | exact Int.le_refl 0 | omega) (by first | exact zlt hc49 | omega) ar_49 (len_E ar_49 (by first | exact Nat.ne_of_beq_eq_false rfl | decide)) (by omega) (by omega) (by omega) dX9_check_112 ?_
                  have e36 : ∀ p9 q9 : Int, X35 49 p9 q9 = X 49 p9 q9 := fun p9 q9 => by rw [hX35, u3_k _ _ _ _ (by first | exact Nat.ne_of_beq_eq_false rfl | decide), hX34, u3_k _ _ _ _ (by first | exact Nat.ne_of_beq_eq_false rfl | decide), hX33, u3_k _ _ _ _ (by first | exact Nat.ne_of_beq_eq_false rfl | decide), hX32, u3_k _ _ _ _ (by first | exact Nat.ne_of_beq_eq_false rfl | decide), hX1, u3_k _ _ _ _ (by first | exact Nat.ne_of_beq_eq_false rfl | decide)]
                  rw [e36 0 t]
                  have f37 : 0 ≤ X 49 0 t ∧ X 49 0 t ≤ 4 := hR 49 0 t
                  refine lv_iconst (v := jI 1) hx hb dX9_check_113 rfl ?_
                  refine x_iadd hx hb dX9_check_114 ?_
                  refine x_iast hx hb hK.1 hw hS (by first | exact Int.le_refl 0 | omega) (by first | exact zlt hc49 | omega) ar_49 (len_E ar_49 (by first | exact Nat.ne_of_beq_eq_false rfl | decide)) (by omega) (by omega) (by omega) dX9_check_115 (fun H locs hw hS => ?_)
                  obtain ⟨X38, hX38⟩ : ∃ Xq, Xq = u3 X35 49 0 t ((X 49 0 t) + 1) := ⟨_, rfl⟩
                  rw [← hX38] at hw
                  have hRX38 : Rng X38 := by rw [hX38]; exact rng_set hRX35 (show 0 ≤ ((X 49 0 t) + 1) ∧ ((X 49 0 t) + 1) ≤ 4 by omega)
                  have hVX38 : X38 49 0 t = ((X 49 0 t) + 1) := by rw [hX38]; exact u3_s _ _ _ _ _
                  have hFX38 : Frm [4001, 5000, 5100, 5200, 5300, 4900] X X38 := by rw [hX38]; exact Frm.set hFX35 (show 4900 ∈ [4001, 5000, 5100, 5200, 5300, 4900] by first | exact nlm_in rfl | decide)
                  refine lv_aload_n hx hb dX9_check_116 rfl (lv_at hl 1 rfl) ?_
                  refine x_geto hx hb hf9 hw (by first | exact Int.le_refl 0 | omega) (by first | exact zlt hc40 | omega) sl_40_8 lk30 dX9_check_117 ?_
                  refine lv_iload_n hx hb dX9_check_120 rfl (lv_at hl 2 rfl) ?_
                  refine x_iald hx hb hK.1 hw (by first | exact Int.le_refl 0 | omega) (by first | exact zlt hc49 | omega) ar_49 (len_E ar_49 (by first | exact Nat.ne_of_beq_eq_false rfl | decide)) (by omega) (by omega) (by omega) dX9_check_121 ?_
                  rw [hVX38]
                  rw [hQ9]
                  refine ret_i (mc := 0) (ms := 0) hx hb hr hlocks hw hS (by first | exact Nat.le_of_ble_eq_true rfl | omega) (by first | exact Nat.le_of_ble_eq_true rfl | omega) dX9_check_122 ?_
                  have q40 : Frm [4001, 4900, 5000, 5100, 5200, 5300] X X1 := by rw [hX1]; exact Frm.set Frm.rf (show 4001 ∈ [4001, 4900, 5000, 5100, 5200, 5300] by first | exact nlm_in rfl | decide)
                  have q41 : Frm [4001, 4900, 5000, 5100, 5200, 5300] X X32 := by rw [hX32]; exact Frm.set q40 (show 5000 ∈ [4001, 4900, 5000, 5100, 5200, 5300] by first | exact nlm_in rfl | decide)
                  have q42 : Frm [4001, 4900, 5000, 5100, 5200, 5300] X X33 := by rw [hX33]; exact Frm.set q41 (show 5100 ∈ [4001, 4900, 5000, 5100, 5200, 5300] by first | exact nlm_in rfl | decide)
                  have q43 : Frm [4001, 4900, 5000, 5100, 5200, 5300] X X34 := by rw [hX34]; exact Frm.set q42 (show 5200 ∈ [4001, 4900, 5000, 5100, 5200, 5300] by first | exact nlm_in rfl | decide)
                  have q44 : Frm [4001, 4900, 5000, 5100, 5200, 5300] X X35 := by rw [hX35]; exact Frm.set q43 (show 5300 ∈ [4001, 4900, 5000, 5100, 5200, 5300] by first | exact nlm_in rfl | decide)
                  have q45 : Frm [4001, 4900, 5000, 5100, 5200, 5300] X X38 := by rw [hX38]; exact Frm.set q44 (show 4900 ∈ [4001, 4900, 5000, 5100, 5200, 5300] by first | exact nlm_in rfl | decide)
                  have hMq39 : MInv X38 := minv_frm hMI q45 (by decide)
                  have e46 : X38 49 0 t = ((X 49 0 t) + 1) := (by exact hVX38)
                  refine ⟨X38, rfl, hRX38, hFX38, hMq39, ?g9p26, ?g9p27, ?g9p28, ?g9p29, ?g9p30⟩
                  case g9p26 => omega
                  case g9p27 => (try delta Hid at *); first | exact Or.inr (Or.inr (Or.inr ((⟨by omega, by omega, by omega, by omega, by omega, by omega⟩)))) | omega
                  case g9p28 => exact fun y hy => (by rw [hX38, u3_j _ _ _ _ hy, hX35, u3_k _ _ _ _ (by first | exact Nat.ne_of_beq_eq_false rfl | decide), hX34, u3_k _ _ _ _ (by first | exact Nat.ne_of_beq_eq_false rfl | decide), hX33, u3_k _ _ _ _ (by first | exact Nat.ne_of_beq_eq_false rfl | decide), hX32, u3_k _ _ _ _ (by first | exact Nat.ne_of_beq_eq_false rfl | decide), hX1, u3_k _ _ _ _ (by first | exact Nat.ne_of_beq_eq_false rfl | decide)])
                  case g9p29 => exact fun _ => ⟨(by rw [hX38, u3_k _ _ _ _ (by first | exact Nat.ne_of_beq_eq_false rfl | decide), hX35, u3_k _ _ _ _ (by first | exact Nat.ne_of_beq_eq_false rfl | decide), hX34, u3_k _ _ _ _ (by first | exact Nat.ne_of_beq_eq_false rfl | decide), hX33, u3_k _ _ _ _ (by first | exact Nat.ne_of_beq_eq_false rfl | decide)]; exact hVX32), (by rw [hX38, u3_k _ _ _ _ (by first | exact Nat.ne_of_beq_eq_false rfl | decide), hX35, u3_k _ _ _ _ (by first | exact Nat.ne_of_beq_eq_false rfl | decide), hX34, u3_k _ _ _ _ (by first | exact Nat.ne_of_beq_eq_false rfl | decide)]; exact hVX33), (by rw [hX38, u3_k _ _ _ _ (by first | exact Nat.ne_of_beq_eq_false rfl | decide), hX35, u3_k _ _ _ _ (by first | exact Nat.ne_of_beq_eq_false rfl | decide)]; exact hVX34), (by rw [hX38, u3_k _ _ _ _ (by first | exact Nat.ne_of_beq_eq_false rfl | decide)]; exact hVX35)⟩
                  case g9p30 => exact fun y hy => ⟨(by rw [hX38, u3_k _ _ _ _ (by first | exact Nat.ne_of_beq_eq_false rfl | decide), hX35, u3_k _ _ _ _ (by first | exact Nat.ne_of_beq_eq_false rfl | decide), hX34, u3_k _ _ _ _ (by first | exact Nat.ne_of_beq_eq_false rfl | decide), hX33, u3_k _ _ _ _ (by first | exact Nat.ne_of_beq_eq_false rfl | decide), hX32, u3_j _ _ _ _ (by omega), hX1, u3_k _ _ _ _ (by first | exact Nat.ne_of_beq_eq_false rfl | decide)]), (by rw [hX38, u3_k _ _ _ _ (by first | exact Nat.ne_of_beq_eq_false rfl | decide), hX35, u3_k _ _ _ _ (by first | exact Nat.ne_of_beq_eq_false rfl | decide), hX34, u3_k _ _ _ _ (by first | exact Nat.ne_of_beq_eq_false rfl | decide), hX33, u3_j _ _ _ _ (by omega), hX32, u3_k _ _ _ _ (by first | exact Nat.ne_of_beq_eq_false rfl | decide), hX1, u3_k _ _ _ _ (by first | exact Nat.ne_of_beq_eq_false rfl | decide)]), (by rw [hX38, u3_k _ _ _ _ (by first | exact Nat.ne_of_beq_eq_false rfl | decide), hX35, u3_k _ _ _ _ (by first | exact Nat.ne_of_beq_eq_false rfl | decide), hX34, u3_j _ _ _ _ (by omega), hX33, u3_k _ _ _ _ (by first | exact Nat.ne_of_beq_eq_false rfl | decide), hX32, u3_k _ _ _ _ (by first | exact Nat.ne_of_beq_eq_false rfl | decide), hX1, u3_k _ _ _ _ (by first | exact Nat.ne_of_beq_eq_false rfl | decide)]), (by rw [hX38, u3_k _ _ _ _ (by first | exact Nat.ne_of_beq_eq_false rfl | decide), hX35, u3_j _ _ _ _ (by omega), hX34, u3_k _ _ _ _ (by first | exact Nat.ne_of_beq_eq_false rfl | decide), hX33, u3_k _ _ _ _ (by first | exact Nat.ne_of_beq_eq_false rfl | decide), hX32, u3_k _ _ _ _ (by first | exact Nat.ne_of_beq_eq_false rfl | decide), hX1, u3_k _ _ _ _ (by first | exact Nat.ne_of_beq_eq_false rfl | decide)])⟩
                · refine lv_bipush (v := jI (-4)) hx hb dX9_check_57 (by decide) ?_
                  rw [hQ9]
                  refine ret_i (mc := 0) (ms := 0) hx hb hr hlocks hw hS (by first | exact Nat.le_of_ble_eq_true rfl | omega) (by first | exact Nat.le_of_ble_eq_true rfl | omega) dX9_check_59 ?_
                  have q48 : Frm [4001] X X1 := by rw [hX1]; exact Frm.set Frm.rf (show 4001 ∈ [4001] by first | exact nlm_in rfl | decide)
                  have hMq47 : MInv X1 := minv_frm hMI q48 (by decide)
                  have e49 : X1 49 0 t = X 49 0 t := (by rw [hX1, u3_k _ _ _ _ (by first | exact Nat.ne_of_beq_eq_false rfl | decide)])
                  refine ⟨X1, rfl, hRX1, hFX1, hMq47, ?g9p31, ?g9p32, ?g9p33, ?g9p34, ?g9p35⟩
                  case g9p31 => omega
                  case g9p32 => (try delta Hid at *); first | exact Or.inr (Or.inr (Or.inl ⟨by omega, by omega, by omega, by omega, by omega, by omega⟩)) | exact Or.inr (Or.inr (Or.inr ((⟨by omega, by omega, by omega, by omega, by omega, by omega⟩)))) | omega
                  case g9p33 => exact fun y hy => (by rw [hX1, u3_k _ _ _ _ (by first | exact Nat.ne_of_beq_eq_false rfl | decide)])
                  case g9p34 => exact fun q => (by exfalso; omega)
                  case g9p35 => exact fun y _ => ⟨(by rw [hX1, u3_k _ _ _ _ (by first | exact Nat.ne_of_beq_eq_false rfl | decide)]), (by rw [hX1, u3_k _ _ _ _ (by first | exact Nat.ne_of_beq_eq_false rfl | decide)]), (by rw [hX1, u3_k _ _ _ _ (by first | exact Nat.ne_of_beq_eq_false rfl | decide)]), (by rw [hX1, u3_k _ _ _ _ (by first | exact Nat.ne_of_beq_eq_false rfl | decide)])⟩
              · refine lv_bipush (v := jI (-2)) hx hb dX9_check_44 (by decide) ?_
                rw [hQ9]
                refine ret_i (mc := 0) (ms := 0) hx hb hr hlocks hw hS (by first | exact Nat.le_of_ble_eq_true rfl | omega) (by first | exact Nat.le_of_ble_eq_true rfl | omega) dX9_check_46 ?_
                have q51 : Frm [4001] X X1 := by rw [hX1]; exact Frm.set Frm.rf (show 4001 ∈ [4001] by first | exact nlm_in rfl | decide)
                have hMq50 : MInv X1 := minv_frm hMI q51 (by decide)
                have e52 : X1 49 0 t = X 49 0 t := (by rw [hX1, u3_k _ _ _ _ (by first | exact Nat.ne_of_beq_eq_false rfl | decide)])
                refine ⟨X1, rfl, hRX1, hFX1, hMq50, ?g9p36, ?g9p37, ?g9p38, ?g9p39, ?g9p40⟩
                case g9p36 => omega
                case g9p37 => (try delta Hid at *); first | exact Or.inr (Or.inl ⟨by omega, by omega, (fun q => by omega), by omega, by omega⟩) | exact Or.inr (Or.inr (Or.inr ((⟨by omega, by omega, by omega, by omega, by omega, by omega⟩)))) | omega
                case g9p38 => exact fun y hy => (by rw [hX1, u3_k _ _ _ _ (by first | exact Nat.ne_of_beq_eq_false rfl | decide)])
                case g9p39 => exact fun q => (by exfalso; omega)
                case g9p40 => exact fun y _ => ⟨(by rw [hX1, u3_k _ _ _ _ (by first | exact Nat.ne_of_beq_eq_false rfl | decide)]), (by rw [hX1, u3_k _ _ _ _ (by first | exact Nat.ne_of_beq_eq_false rfl | decide)]), (by rw [hX1, u3_k _ _ _ _ (by first | exact Nat.ne_of_beq_eq_false rfl | decide)]), (by rw [hX1, u3_k _ _ _ _ (by first | exact Nat.ne_of_beq_eq_false rfl | decide)])⟩
  · subst ez2
    refine x_if_neF (tgt := 15) hx hb (by omega) (by decide) dX9_check_10 (by decide) ?_
    refine lv_iconst (v := jI (-1)) hx hb dX9_check_13 rfl ?_
    rw [hQ9]
    refine ret_i (mc := 0) (ms := 0) hx hb hr hlocks hw hS (by first | exact Nat.le_of_ble_eq_true rfl | omega) (by first | exact Nat.le_of_ble_eq_true rfl | omega) dX9_check_14 ?_
    have q54 : Frm [4001] X X1 := by rw [hX1]; exact Frm.set Frm.rf (show 4001 ∈ [4001] by first | exact nlm_in rfl | decide)
    have hMq53 : MInv X1 := minv_frm hMI q54 (by decide)
    have e55 : X1 49 0 t = X 49 0 t := (by rw [hX1, u3_k _ _ _ _ (by first | exact Nat.ne_of_beq_eq_false rfl | decide)])
    refine ⟨X1, rfl, hRX1, hFX1, hMq53, ?g9p41, ?g9p42, ?g9p43, ?g9p44, ?g9p45⟩
    case g9p41 => omega
    case g9p42 => (try delta Hid at *); first | exact Or.inl ⟨(fun q => by omega), by omega, by omega⟩ | exact Or.inr (Or.inr (Or.inr ((⟨by omega, by omega, by omega, by omega, by omega, by omega⟩)))) | omega
    case g9p43 => exact fun y hy => (by rw [hX1, u3_k _ _ _ _ (by first | exact Nat.ne_of_beq_eq_false rfl | decide)])
    case g9p44 => exact fun q => (by exfalso; omega)
    case g9p45 => exact fun y _ => ⟨(by rw [hX1, u3_k _ _ _ _ (by first | exact Nat.ne_of_beq_eq_false rfl | decide)]), (by rw [hX1, u3_k _ _ _ _ (by first | exact Nat.ne_of_beq_eq_false rfl | decide)]), (by rw [hX1, u3_k _ _ _ _ (by first | exact Nat.ne_of_beq_eq_false rfl | decide)]), (by rw [hX1, u3_k _ _ _ _ (by first | exact Nat.ne_of_beq_eq_false rfl | decide)])⟩

set_option maxHeartbeats 4000000 in
set_option maxRecDepth 100000 in
theorem c_X9_unchecked (l : Launch) (D : va_G) (tc : Nat → ClassId) (base : Nat) (ad : Nat → Int → Nat) (cnt : Nat → Int) (X : Nat → Int → Int → Int) (Y : Nat → Int → Int → Option Int) (ln : Int → Int) (hR : Rng X) (hFx : Fx cnt) (hMI : MInv X) (t : Int) (ht : -2147483648 ≤ t ∧ t ≤ 2147483647) : KI l D tc base yX9_unchecked wsX9_unchecked ({ frames := 1, cells := 0, slots := 0, locals := 21 } : Room) [.ref (ad 40 0), .int (jI t)] (ad, cnt, X, Y, ln) 0 0 (fun z u => ∃ X1 : Nat → Int → Int → Int, u = (ad, cnt, X1, Y, ln) ∧ Rng X1 ∧ Frm [4001, 4900] X X1 ∧ MInv X1 ∧ (-2147483648 ≤ z ∧ z ≤ 2147483647) ∧ ((0 ≤ t ∧ t < X 40 0 2 ∧ z = X 49 0 t ∧ X1 49 0 t = 0) ∨ (¬ (0 ≤ t ∧ t < X 40 0 2) ∧ z = -1 ∧ X1 49 0 t = X 49 0 t)) ∧ ∀ y, y ≠ t → X1 49 0 y = X 49 0 y) := by
  refine K_of (cc := cX9_unchecked) (maxL := 3) (ret := (some .int)) (by decide) rfl (Nat.le_of_ble_eq_true rfl) ?_
  intro p e s m below meth c ls hx hb hr hml hown hts hlocks hl hK hw hS
  have hown : s.vm.findClass RX9 = some m.cls := hown
  obtain ⟨av9, hav9⟩ : ∃ a9 : Array Value, a9 = ([.ref (ad 40 0), .int (jI t)] : List Value).toArray := ⟨_, rfl⟩
  rw [← hav9] at hts ⊢
  obtain ⟨Q9, hQ9⟩ : ∃ q9Q : State → Prop, q9Q = MQ below (QI D tc base (fun z u => ∃ X1 : Nat → Int → Int → Int, u = (ad, cnt, X1, Y, ln) ∧ Rng X1 ∧ Frm [4001, 4900] X X1 ∧ MInv X1 ∧ (-2147483648 ≤ z ∧ z ≤ 2147483647) ∧ ((0 ≤ t ∧ t < X 40 0 2 ∧ z = X 49 0 t ∧ X1 49 0 t = 0) ∨ (¬ (0 ≤ t ∧ t < X 40 0 2) ∧ z = -1 ∧ X1 49 0 t = X 49 0 t)) ∧ ∀ y, y ≠ t → X1 49 0 y = X 49 0 y)) av9 s 0 0 (frA base) := ⟨_, rfl⟩
  rw [← hQ9]
  have hi9 : ∀ w ∈ wsX90, w ∈ wsX9_unchecked := fun w h => List.mem_cons_of_mem _ (List.mem_append_right _ h)
  have hf9 : fctx s m _ RX9 wsX9_unchecked D tc RX9 TX9 51 9 := ⟨hts, hi9, hown, hK.1, rfl⟩
  have lk30 := hts (.fieldLink RX9 30 (TX9 8).1 (TX9 8).2.1 (TX9 8).2.2.1) (gj_X9_unchecked_0 _ (gp_1 gp_h))
  have lk145 := hts (.fieldLink RX9 145 (TX9 0).1 (TX9 0).2.1 (TX9 0).2.2.1) (gj_X9_unchecked_0 _ (gp_h))
  have hc40 : cnt 40 = 1 := hFx.at 40 1 (by decide)
  have hc49 : cnt 49 = 1 := hFx.at 49 1 (by decide)
  have hl : lv_has ls 3 [(0, .ref (ad 40 0)), (1, .int (jI t))] := hl
  have fstypes : 0 ≤ X 40 0 2 ∧ X 40 0 2 ≤ 8 := hR 40 0 2
  have fsthings : 0 ≤ X 40 0 13 ∧ X 40 0 13 ≤ 30 := hR 40 0 13
  have fsmarks : 0 ≤ X 40 0 20 ∧ X 40 0 20 ≤ 4 := hR 40 0 20
  have fsnotes : 0 ≤ X 40 0 22 ∧ X 40 0 22 ≤ 80 := hR 40 0 22
  refine lv_aload_n hx hb dX9_unchecked_0 rfl (lv_at hl 0 rfl) ?_
  refine lv_iconst (v := jI 0) hx hb dX9_unchecked_1 rfl ?_
  refine x_puti (jz := 0) hx hb hf9 ⟨tyX9_ok, nmX9⟩ hw hS (by first | exact Int.le_refl 0 | omega) (by first | exact zlt hc40 | omega) sl_40_0 rfl lk145 rfl (tyX9_ok 0 (by decide)) rfl rfl dX9_unchecked_2 (fun H locs hw hS => ?_)
  obtain ⟨X1, hX1⟩ : ∃ Xq, Xq = u3 X 40 0 0 0 := ⟨_, rfl⟩
  rw [← hX1] at hw
  have hRX1 : Rng X1 := by rw [hX1]; exact rng_set hR (show (-2147483648) ≤ 0 ∧ 0 ≤ 2147483647 by omega)
  have hVX1 : X1 40 0 0 = 0 := by rw [hX1]; exact u3_s _ _ _ _ _
  have hFX1 : Frm [4001, 4900] X X1 := by rw [hX1]; exact Frm.set Frm.rf (show 4001 ∈ [4001, 4900] by first | exact nlm_in rfl | decide)
  refine lv_aload_n hx hb dX9_unchecked_5 rfl (lv_at hl 0 rfl) ?_
  refine lv_iload_n hx hb dX9_unchecked_6 rfl (lv_at hl 1 rfl) ?_
  refine gos_i (run_V (As := [.int (jI t)]) (rest := []) hx hb hml hown hts (c_X9_isType l D tc base ad cnt X1 Y ln hRX1 hFx t (by omega)) (cwV 1 hts gX9_unchecked_X9_isType rfl rfl rfl (by first | exact hd_X9_isType | decide +kernel) ⟨Nat.le_of_ble_eq_true rfl, Nat.le_of_ble_eq_true rfl⟩) hK hw (by first | exact Int.le_refl 0 | omega) (by first | exact zlt hc40 | omega) sl_40_0 rfl rfl hl.1 rfl (Nat.le_of_ble_eq_true rfl) dX9_unchecked_7 ⟨Nat.le_of_ble_eq_true rfl, Nat.le_of_ble_eq_true rfl⟩) hS (fun z2 u3 H locs p4 hw hS => ?_)
  obtain ⟨eu3, p4⟩ := p4
  subst eu3
  have e5 : X1 40 0 2 = X 40 0 2 := by rw [hX1, u3_j _ _ _ _ (by decide)]
  simp only [e5] at p4
  rcases p4 with ⟨ez2, p4⟩ | ⟨ez2, p4⟩
  · subst ez2
    refine x_if_neT (tgt := 15) hx hb (by omega) (by decide) dX9_unchecked_10 (by decide) ?_
    refine lv_aload_n hx hb dX9_unchecked_15 rfl (lv_at hl 0 rfl) ?_
    refine x_geto hx hb hf9 hw (by first | exact Int.le_refl 0 | omega) (by first | exact zlt hc40 | omega) sl_40_8 lk30 dX9_unchecked_16 ?_
    refine lv_iload_n hx hb dX9_unchecked_19 rfl (lv_at hl 1 rfl) ?_
    refine x_iald hx hb hK.1 hw (by first | exact Int.le_refl 0 | omega) (by first | exact zlt hc49 | omega) ar_49 (len_E ar_49 (by first | exact Nat.ne_of_beq_eq_false rfl | decide)) (by omega) (by omega) (by omega) dX9_unchecked_20 ?_
    have e6 : ∀ p9 q9 : Int, X1 49 p9 q9 = X 49 p9 q9 := fun p9 q9 => by rw [hX1, u3_k _ _ _ _ (by first | exact Nat.ne_of_beq_eq_false rfl | decide)]
    rw [e6 0 t]
    have f7 : 0 ≤ X 49 0 t ∧ X 49 0 t ≤ 4 := hR 49 0 t
    refine lv_istore_n (lv' := [(2, .int (jI (X 49 0 t))), (0, .ref (ad 40 0)), (1, .int (jI t))]) hx hb dX9_unchecked_21 rfl hl (by decide) rfl (fun ls hl => ?_)
    refine lv_aload_n hx hb dX9_unchecked_22 rfl (lv_at hl 1 rfl) ?_
    refine x_geto hx hb hf9 hw (by first | exact Int.le_refl 0 | omega) (by first | exact zlt hc40 | omega) sl_40_8 lk30 dX9_unchecked_23 ?_
    refine lv_iload_n hx hb dX9_unchecked_26 rfl (lv_at hl 2 rfl) ?_
    refine lv_iconst (v := jI 0) hx hb dX9_unchecked_27 rfl ?_
    refine x_iast hx hb hK.1 hw hS (by first | exact Int.le_refl 0 | omega) (by first | exact zlt hc49 | omega) ar_49 (len_E ar_49 (by first | exact Nat.ne_of_beq_eq_false rfl | decide)) (by omega) (by omega) (by omega) dX9_unchecked_28 (fun H locs hw hS => ?_)
    obtain ⟨X8, hX8⟩ : ∃ Xq, Xq = u3 X1 49 0 t 0 := ⟨_, rfl⟩
    rw [← hX8] at hw
    have hRX8 : Rng X8 := by rw [hX8]; exact rng_set hRX1 (show 0 ≤ 0 ∧ 0 ≤ 4 by omega)
    have hVX8 : X8 49 0 t = 0 := by rw [hX8]; exact u3_s _ _ _ _ _
    have hFX8 : Frm [4001, 4900] X X8 := by rw [hX8]; exact Frm.set hFX1 (show 4900 ∈ [4001, 4900] by first | exact nlm_in rfl | decide)
    refine lv_iload_n hx hb dX9_unchecked_29 rfl (lv_at hl 0 rfl) ?_
    rw [hQ9]
    refine ret_i (mc := 0) (ms := 0) hx hb hr hlocks hw hS (by first | exact Nat.le_of_ble_eq_true rfl | omega) (by first | exact Nat.le_of_ble_eq_true rfl | omega) dX9_unchecked_30 ?_
    have q10 : Frm [4001, 4900] X X1 := by rw [hX1]; exact Frm.set Frm.rf (show 4001 ∈ [4001, 4900] by first | exact nlm_in rfl | decide)
    have q11 : Frm [4001, 4900] X X8 := by rw [hX8]; exact Frm.set q10 (show 4900 ∈ [4001, 4900] by first | exact nlm_in rfl | decide)
    have hMq9 : MInv X8 := minv_frm hMI q11 (by decide)
    have e12 : X8 49 0 t = 0 := (by exact hVX8)
    exact ⟨X8, rfl, hRX8, hFX8, hMq9, by omega, (by (try delta Hid at *); first | exact Or.inl ⟨by omega, by omega, by omega, by omega⟩ | omega), fun y hy => (by rw [hX8, u3_j _ _ _ _ hy, hX1, u3_k _ _ _ _ (by first | exact Nat.ne_of_beq_eq_false rfl | decide)])⟩
  · subst ez2
    refine x_if_neF (tgt := 15) hx hb (by omega) (by decide) dX9_unchecked_10 (by decide) ?_
    refine lv_iconst (v := jI (-1)) hx hb dX9_unchecked_13 rfl ?_
    rw [hQ9]
    refine ret_i (mc := 0) (ms := 0) hx hb hr hlocks hw hS (by first | exact Nat.le_of_ble_eq_true rfl | omega) (by first | exact Nat.le_of_ble_eq_true rfl | omega) dX9_unchecked_14 ?_
    have q14 : Frm [4001] X X1 := by rw [hX1]; exact Frm.set Frm.rf (show 4001 ∈ [4001] by first | exact nlm_in rfl | decide)
    have hMq13 : MInv X1 := minv_frm hMI q14 (by decide)
    have e15 : X1 49 0 t = X 49 0 t := (by rw [hX1, u3_k _ _ _ _ (by first | exact Nat.ne_of_beq_eq_false rfl | decide)])
    exact ⟨X1, rfl, hRX1, hFX1, hMq13, by omega, (by (try delta Hid at *); first | exact Or.inr ((⟨(fun q => by omega), by omega, by omega⟩)) | exact Or.inl ⟨by omega, by omega, by omega, by omega⟩ | omega), fun y hy => (by rw [hX1, u3_k _ _ _ _ (by first | exact Nat.ne_of_beq_eq_false rfl | decide)])⟩

set_option maxHeartbeats 4000000 in
set_option maxRecDepth 100000 in
theorem c_X9_word (l : Launch) (D : va_G) (tc : Nat → ClassId) (base : Nat) (ad : Nat → Int → Nat) (cnt : Nat → Int) (X : Nat → Int → Int → Int) (Y : Nat → Int → Int → Option Int) (ln : Int → Int) (hR : Rng X) (hFx : Fx cnt) (hMI : MInv X) (w on : Int) (hw : -2147483648 ≤ w ∧ w ≤ 2147483647) (hon : 0 ≤ on ∧ on ≤ 1) : KI l D tc base yX9_word wsX9_word ({ frames := 0, cells := 0, slots := 0, locals := 0 } : Room) [.ref (ad 40 0), .int (jI w), .int (jI on)] (ad, cnt, X, Y, ln) 0 0 (fun z u => ∃ X1 : Nat → Int → Int → Int, u = (ad, cnt, X1, Y, ln) ∧ Rng X1 ∧ Frm [4001, 4200] X X1 ∧ MInv X1 ∧ (-2147483648 ≤ z ∧ z ≤ 2147483647) ∧ ((0 ≤ w ∧ w < 16 ∧ z = 1 - X 42 0 w ∧ X1 42 0 w = 1 - on) ∨ (¬ (0 ≤ w ∧ w < 16) ∧ z = -1 ∧ X1 42 0 w = X 42 0 w)) ∧ ∀ y, y ≠ w → X1 42 0 y = X 42 0 y) := by
  refine K_of (cc := cX9_word) (maxL := 4) (ret := (some .int)) (by decide) rfl (Nat.le_of_ble_eq_true rfl) ?_
  intro p e s m below meth c ls hx hb hr hml hown hts hlocks hl hK hw hS
  have hown : s.vm.findClass RX9 = some m.cls := hown
  obtain ⟨av9, hav9⟩ : ∃ a9 : Array Value, a9 = ([.ref (ad 40 0), .int (jI w), .int (jI on)] : List Value).toArray := ⟨_, rfl⟩
  rw [← hav9] at hts ⊢
  obtain ⟨Q9, hQ9⟩ : ∃ q9Q : State → Prop, q9Q = MQ below (QI D tc base (fun z u => ∃ X1 : Nat → Int → Int → Int, u = (ad, cnt, X1, Y, ln) ∧ Rng X1 ∧ Frm [4001, 4200] X X1 ∧ MInv X1 ∧ (-2147483648 ≤ z ∧ z ≤ 2147483647) ∧ ((0 ≤ w ∧ w < 16 ∧ z = 1 - X 42 0 w ∧ X1 42 0 w = 1 - on) ∨ (¬ (0 ≤ w ∧ w < 16) ∧ z = -1 ∧ X1 42 0 w = X 42 0 w)) ∧ ∀ y, y ≠ w → X1 42 0 y = X 42 0 y)) av9 s 0 0 (frA base) := ⟨_, rfl⟩
  rw [← hQ9]
  have hi9 : ∀ w ∈ wsX90, w ∈ wsX9_word := fun w h => List.mem_cons_of_mem _ (List.mem_append_right _ h)
  have hf9 : fctx s m _ RX9 wsX9_word D tc RX9 TX9 51 9 := ⟨hts, hi9, hown, hK.1, rfl⟩
  have lk7 := hts (.fieldLink RX9 7 (TX9 1).1 (TX9 1).2.1 (TX9 1).2.2.1) (gj_X9_word_0 _ (gp_1 gp_h))
  have lk145 := hts (.fieldLink RX9 145 (TX9 0).1 (TX9 0).2.1 (TX9 0).2.2.1) (gj_X9_word_0 _ (gp_h))
  have hc40 : cnt 40 = 1 := hFx.at 40 1 (by decide)
  have hc42 : cnt 42 = 1 := hFx.at 42 1 (by decide)
  have hl : lv_has ls 4 [(0, .ref (ad 40 0)), (1, .int (jI w)), (2, .int (jI on))] := hl
  have fstypes : 0 ≤ X 40 0 2 ∧ X 40 0 2 ≤ 8 := hR 40 0 2
  have fsthings : 0 ≤ X 40 0 13 ∧ X 40 0 13 ≤ 30 := hR 40 0 13
  have fsmarks : 0 ≤ X 40 0 20 ∧ X 40 0 20 ≤ 4 := hR 40 0 20
  have fsnotes : 0 ≤ X 40 0 22 ∧ X 40 0 22 ≤ 80 := hR 40 0 22
  refine lv_aload_n hx hb dX9_word_0 rfl (lv_at hl 0 rfl) ?_
  refine lv_iconst (v := jI 0) hx hb dX9_word_1 rfl ?_
  refine x_puti (jz := 0) hx hb hf9 ⟨tyX9_ok, nmX9⟩ hw hS (by first | exact Int.le_refl 0 | omega) (by first | exact zlt hc40 | omega) sl_40_0 rfl lk145 rfl (tyX9_ok 0 (by decide)) rfl rfl dX9_word_2 (fun H locs hw hS => ?_)
  obtain ⟨X1, hX1⟩ : ∃ Xq, Xq = u3 X 40 0 0 0 := ⟨_, rfl⟩
  rw [← hX1] at hw
  have hRX1 : Rng X1 := by rw [hX1]; exact rng_set hR (show (-2147483648) ≤ 0 ∧ 0 ≤ 2147483647 by omega)
  have hVX1 : X1 40 0 0 = 0 := by rw [hX1]; exact u3_s _ _ _ _ _
  have hFX1 : Frm [4001, 4200] X X1 := by rw [hX1]; exact Frm.set Frm.rf (show 4001 ∈ [4001, 4200] by first | exact nlm_in rfl | decide)
  refine lv_iload_n hx hb dX9_word_5 rfl (lv_at hl 1 rfl) ?_
  refine x_if_lt (tgt := 15) hx hb (by omega) dX9_word_6 (by decide) (fun c2 => ?_) (fun c2 => ?_)
  · refine lv_iconst (v := jI (-1)) hx hb dX9_word_15 rfl ?_
    rw [hQ9]
    refine ret_i (mc := 0) (ms := 0) hx hb hr hlocks hw hS (by first | exact Nat.le_of_ble_eq_true rfl | omega) (by first | exact Nat.le_of_ble_eq_true rfl | omega) dX9_word_16 ?_
    have q4 : Frm [4001] X X1 := by rw [hX1]; exact Frm.set Frm.rf (show 4001 ∈ [4001] by first | exact nlm_in rfl | decide)
    have hMq3 : MInv X1 := minv_frm hMI q4 (by decide)
    have e5 : X1 42 0 w = X 42 0 w := (by rw [hX1, u3_k _ _ _ _ (by first | exact Nat.ne_of_beq_eq_false rfl | decide)])
    exact ⟨X1, rfl, hRX1, hFX1, hMq3, by omega, (by (try delta Hid at *); first | exact Or.inr ((⟨(fun q => by omega), by omega, by omega⟩)) | exact Or.inl ⟨by omega, by omega, by omega, by omega⟩ | omega), fun y hy => (by rw [hX1, u3_k _ _ _ _ (by first | exact Nat.ne_of_beq_eq_false rfl | decide)])⟩
  · refine lv_iload_n hx hb dX9_word_9 rfl (lv_at hl 1 rfl) ?_
    refine lv_bipush (v := jI 15) hx hb dX9_word_10 (by decide) ?_
    refine x_icmp_le (tgt := 17) hx hb (by omega) (by omega) dX9_word_12 (by decide) (fun c6 => ?_) (fun c6 => ?_)
    · refine lv_aload_n hx hb dX9_word_17 rfl (lv_at hl 0 rfl) ?_
      refine x_geto hx hb hf9 hw (by first | exact Int.le_refl 0 | omega) (by first | exact zlt hc40 | omega) sl_40_1 lk7 dX9_word_18 ?_
      refine lv_iload_n hx hb dX9_word_21 rfl (lv_at hl 1 rfl) ?_
      refine x_zald hx hb hK.1 hw (by first | exact Int.le_refl 0 | omega) (by first | exact zlt hc42 | omega) ar_42 (len_E ar_42 (by first | exact Nat.ne_of_beq_eq_false rfl | decide)) (by omega) (by omega) (by omega) dX9_word_22 ?_
      have e7 : ∀ p9 q9 : Int, X1 42 p9 q9 = X 42 p9 q9 := fun p9 q9 => by rw [hX1, u3_k _ _ _ _ (by first | exact Nat.ne_of_beq_eq_false rfl | decide)]
      rw [e7 0 w]
      have f8 : 0 ≤ X 42 0 w ∧ X 42 0 w ≤ 1 := hR 42 0 w
      refine x_if_ne (tgt := 30) hx hb (by omega) dX9_word_23 (by decide) (fun c9 => ?_) (fun c9 => ?_)
      · refine lv_iconst (v := jI 0) hx hb dX9_word_30 rfl ?_
        refine lv_istore_n (lv' := [(3, .int (jI 0)), (0, .ref (ad 40 0)), (1, .int (jI w)), (2, .int (jI on))]) hx hb dX9_word_31 rfl hl (by decide) rfl (fun ls hl => ?_)
        refine lv_aload_n hx hb dX9_word_32 rfl (lv_at hl 1 rfl) ?_
        refine x_geto hx hb hf9 hw (by first | exact Int.le_refl 0 | omega) (by first | exact zlt hc40 | omega) sl_40_1 lk7 dX9_word_33 ?_
        refine lv_iload_n hx hb dX9_word_36 rfl (lv_at hl 2 rfl) ?_
        refine lv_iload_n hx hb dX9_word_37 rfl (lv_at hl 3 rfl) ?_
        refine x_if_ne (tgt := 45) hx hb (by omega) dX9_word_38 (by decide) (fun c10 => ?_) (fun c10 => ?_)
        · refine lv_iconst (v := jI 0) hx hb dX9_word_45 rfl ?_
          refine x_zast hx hb hK.1 hw hS (by first | exact Int.le_refl 0 | omega) (by first | exact zlt hc42 | omega) ar_42 (len_E ar_42 (by first | exact Nat.ne_of_beq_eq_false rfl | decide)) (by omega) (by omega) (by omega) (by omega) (by omega) dX9_word_46 (fun H locs hw hS => ?_)
          obtain ⟨X11, hX11⟩ : ∃ Xq, Xq = u3 X1 42 0 w 0 := ⟨_, rfl⟩
          rw [← hX11] at hw
          have hRX11 : Rng X11 := by rw [hX11]; exact rng_set hRX1 (show 0 ≤ 0 ∧ 0 ≤ 1 by omega)
          have hVX11 : X11 42 0 w = 0 := by rw [hX11]; exact u3_s _ _ _ _ _
          have hFX11 : Frm [4001, 4200] X X11 := by rw [hX11]; exact Frm.set hFX1 (show 4200 ∈ [4001, 4200] by first | exact nlm_in rfl | decide)
          refine lv_iload_n hx hb dX9_word_47 rfl (lv_at hl 0 rfl) ?_
          refine x_if_eqT (tgt := 55) hx hb (by omega) (by decide) dX9_word_48 (by decide) ?_
          refine lv_iconst (v := jI 0) hx hb dX9_word_55 rfl ?_
          rw [hQ9]
          refine ret_i (mc := 0) (ms := 0) hx hb hr hlocks hw hS (by first | exact Nat.le_of_ble_eq_true rfl | omega) (by first | exact Nat.le_of_ble_eq_true rfl | omega) dX9_word_56 ?_
          have q13 : Frm [4001, 4200] X X1 := by rw [hX1]; exact Frm.set Frm.rf (show 4001 ∈ [4001, 4200] by first | exact nlm_in rfl | decide)
          have q14 : Frm [4001, 4200] X X11 := by rw [hX11]; exact Frm.set q13 (show 4200 ∈ [4001, 4200] by first | exact nlm_in rfl | decide)
          have hMq12 : MInv X11 := minv_frm hMI q14 (by decide)
          have e15 : X11 42 0 w = 0 := (by exact hVX11)
          exact ⟨X11, rfl, hRX11, hFX11, hMq12, by omega, (by (try delta Hid at *); first | exact Or.inl ⟨by omega, by omega, by omega, by omega⟩ | omega), fun y hy => (by rw [hX11, u3_j _ _ _ _ hy, hX1, u3_k _ _ _ _ (by first | exact Nat.ne_of_beq_eq_false rfl | decide)])⟩
        · refine lv_iconst (v := jI 1) hx hb dX9_word_41 rfl ?_
          refine lv_goto (tgt := 46) hx hb dX9_word_42 (by decide) ?_
          refine x_zast hx hb hK.1 hw hS (by first | exact Int.le_refl 0 | omega) (by first | exact zlt hc42 | omega) ar_42 (len_E ar_42 (by first | exact Nat.ne_of_beq_eq_false rfl | decide)) (by omega) (by omega) (by omega) (by omega) (by omega) dX9_word_46 (fun H locs hw hS => ?_)
          obtain ⟨X16, hX16⟩ : ∃ Xq, Xq = u3 X1 42 0 w 1 := ⟨_, rfl⟩
          rw [← hX16] at hw
          have hRX16 : Rng X16 := by rw [hX16]; exact rng_set hRX1 (show 0 ≤ 1 ∧ 1 ≤ 1 by omega)
          have hVX16 : X16 42 0 w = 1 := by rw [hX16]; exact u3_s _ _ _ _ _
          have hFX16 : Frm [4001, 4200] X X16 := by rw [hX16]; exact Frm.set hFX1 (show 4200 ∈ [4001, 4200] by first | exact nlm_in rfl | decide)
          refine lv_iload_n hx hb dX9_word_47 rfl (lv_at hl 0 rfl) ?_
          refine x_if_eqT (tgt := 55) hx hb (by omega) (by decide) dX9_word_48 (by decide) ?_
          refine lv_iconst (v := jI 0) hx hb dX9_word_55 rfl ?_
          rw [hQ9]
          refine ret_i (mc := 0) (ms := 0) hx hb hr hlocks hw hS (by first | exact Nat.le_of_ble_eq_true rfl | omega) (by first | exact Nat.le_of_ble_eq_true rfl | omega) dX9_word_56 ?_
          have q18 : Frm [4001, 4200] X X1 := by rw [hX1]; exact Frm.set Frm.rf (show 4001 ∈ [4001, 4200] by first | exact nlm_in rfl | decide)
          have q19 : Frm [4001, 4200] X X16 := by rw [hX16]; exact Frm.set q18 (show 4200 ∈ [4001, 4200] by first | exact nlm_in rfl | decide)
          have hMq17 : MInv X16 := minv_frm hMI q19 (by decide)
          have e20 : X16 42 0 w = 1 := (by exact hVX16)
          exact ⟨X16, rfl, hRX16, hFX16, hMq17, by omega, (by (try delta Hid at *); first | exact Or.inl ⟨by omega, by omega, by omega, by omega⟩ | omega), fun y hy => (by rw [hX16, u3_j _ _ _ _ hy, hX1, u3_k _ _ _ _ (by first | exact Nat.ne_of_beq_eq_false rfl | decide)])⟩
      · refine lv_iconst (v := jI 1) hx hb dX9_word_26 rfl ?_
        refine lv_goto (tgt := 31) hx hb dX9_word_27 (by decide) ?_
        refine lv_istore_n (lv' := [(3, .int (jI 1)), (0, .ref (ad 40 0)), (1, .int (jI w)), (2, .int (jI on))]) hx hb dX9_word_31 rfl hl (by decide) rfl (fun ls hl => ?_)
        refine lv_aload_n hx hb dX9_word_32 rfl (lv_at hl 1 rfl) ?_
        refine x_geto hx hb hf9 hw (by first | exact Int.le_refl 0 | omega) (by first | exact zlt hc40 | omega) sl_40_1 lk7 dX9_word_33 ?_
        refine lv_iload_n hx hb dX9_word_36 rfl (lv_at hl 2 rfl) ?_
        refine lv_iload_n hx hb dX9_word_37 rfl (lv_at hl 3 rfl) ?_
        refine x_if_ne (tgt := 45) hx hb (by omega) dX9_word_38 (by decide) (fun c21 => ?_) (fun c21 => ?_)
        · refine lv_iconst (v := jI 0) hx hb dX9_word_45 rfl ?_
          refine x_zast hx hb hK.1 hw hS (by first | exact Int.le_refl 0 | omega) (by first | exact zlt hc42 | omega) ar_42 (len_E ar_42 (by first | exact Nat.ne_of_beq_eq_false rfl | decide)) (by omega) (by omega) (by omega) (by omega) (by omega) dX9_word_46 (fun H locs hw hS => ?_)
          obtain ⟨X22, hX22⟩ : ∃ Xq, Xq = u3 X1 42 0 w 0 := ⟨_, rfl⟩
          rw [← hX22] at hw
          have hRX22 : Rng X22 := by rw [hX22]; exact rng_set hRX1 (show 0 ≤ 0 ∧ 0 ≤ 1 by omega)
          have hVX22 : X22 42 0 w = 0 := by rw [hX22]; exact u3_s _ _ _ _ _
          have hFX22 : Frm [4001, 4200] X X22 := by rw [hX22]; exact Frm.set hFX1 (show 4200 ∈ [4001, 4200] by first | exact nlm_in rfl | decide)
          refine lv_iload_n hx hb dX9_word_47 rfl (lv_at hl 0 rfl) ?_
          refine x_if_eqF (tgt := 55) hx hb (by omega) (by decide) dX9_word_48 (by decide) ?_
          refine lv_iconst (v := jI 1) hx hb dX9_word_51 rfl ?_
          refine lv_goto (tgt := 56) hx hb dX9_word_52 (by decide) ?_
          rw [hQ9]
          refine ret_i (mc := 0) (ms := 0) hx hb hr hlocks hw hS (by first | exact Nat.le_of_ble_eq_true rfl | omega) (by first | exact Nat.le_of_ble_eq_true rfl | omega) dX9_word_56 ?_
          have q24 : Frm [4001, 4200] X X1 := by rw [hX1]; exact Frm.set Frm.rf (show 4001 ∈ [4001, 4200] by first | exact nlm_in rfl | decide)
          have q25 : Frm [4001, 4200] X X22 := by rw [hX22]; exact Frm.set q24 (show 4200 ∈ [4001, 4200] by first | exact nlm_in rfl | decide)
          have hMq23 : MInv X22 := minv_frm hMI q25 (by decide)
          have e26 : X22 42 0 w = 0 := (by exact hVX22)
          exact ⟨X22, rfl, hRX22, hFX22, hMq23, by omega, (by (try delta Hid at *); first | exact Or.inl ⟨by omega, by omega, by omega, by omega⟩ | omega), fun y hy => (by rw [hX22, u3_j _ _ _ _ hy, hX1, u3_k _ _ _ _ (by first | exact Nat.ne_of_beq_eq_false rfl | decide)])⟩
        · refine lv_iconst (v := jI 1) hx hb dX9_word_41 rfl ?_
          refine lv_goto (tgt := 46) hx hb dX9_word_42 (by decide) ?_
          refine x_zast hx hb hK.1 hw hS (by first | exact Int.le_refl 0 | omega) (by first | exact zlt hc42 | omega) ar_42 (len_E ar_42 (by first | exact Nat.ne_of_beq_eq_false rfl | decide)) (by omega) (by omega) (by omega) (by omega) (by omega) dX9_word_46 (fun H locs hw hS => ?_)
          obtain ⟨X27, hX27⟩ : ∃ Xq, Xq = u3 X1 42 0 w 1 := ⟨_, rfl⟩
          rw [← hX27] at hw
          have hRX27 : Rng X27 := by rw [hX27]; exact rng_set hRX1 (show 0 ≤ 1 ∧ 1 ≤ 1 by omega)
          have hVX27 : X27 42 0 w = 1 := by rw [hX27]; exact u3_s _ _ _ _ _
          have hFX27 : Frm [4001, 4200] X X27 := by rw [hX27]; exact Frm.set hFX1 (show 4200 ∈ [4001, 4200] by first | exact nlm_in rfl | decide)
          refine lv_iload_n hx hb dX9_word_47 rfl (lv_at hl 0 rfl) ?_
          refine x_if_eqF (tgt := 55) hx hb (by omega) (by decide) dX9_word_48 (by decide) ?_
          refine lv_iconst (v := jI 1) hx hb dX9_word_51 rfl ?_
          refine lv_goto (tgt := 56) hx hb dX9_word_52 (by decide) ?_
          rw [hQ9]
          refine ret_i (mc := 0) (ms := 0) hx hb hr hlocks hw hS (by first | exact Nat.le_of_ble_eq_true rfl | omega) (by first | exact Nat.le_of_ble_eq_true rfl | omega) dX9_word_56 ?_
          have q29 : Frm [4001, 4200] X X1 := by rw [hX1]; exact Frm.set Frm.rf (show 4001 ∈ [4001, 4200] by first | exact nlm_in rfl | decide)
          have q30 : Frm [4001, 4200] X X27 := by rw [hX27]; exact Frm.set q29 (show 4200 ∈ [4001, 4200] by first | exact nlm_in rfl | decide)
          have hMq28 : MInv X27 := minv_frm hMI q30 (by decide)
          have e31 : X27 42 0 w = 1 := (by exact hVX27)
          exact ⟨X27, rfl, hRX27, hFX27, hMq28, by omega, (by (try delta Hid at *); first | exact Or.inl ⟨by omega, by omega, by omega, by omega⟩ | omega), fun y hy => (by rw [hX27, u3_j _ _ _ _ hy, hX1, u3_k _ _ _ _ (by first | exact Nat.ne_of_beq_eq_false rfl | decide)])⟩
    · refine lv_iconst (v := jI (-1)) hx hb dX9_word_15 rfl ?_
      rw [hQ9]
      refine ret_i (mc := 0) (ms := 0) hx hb hr hlocks hw hS (by first | exact Nat.le_of_ble_eq_true rfl | omega) (by first | exact Nat.le_of_ble_eq_true rfl | omega) dX9_word_16 ?_
      have q33 : Frm [4001] X X1 := by rw [hX1]; exact Frm.set Frm.rf (show 4001 ∈ [4001] by first | exact nlm_in rfl | decide)
      have hMq32 : MInv X1 := minv_frm hMI q33 (by decide)
      have e34 : X1 42 0 w = X 42 0 w := (by rw [hX1, u3_k _ _ _ _ (by first | exact Nat.ne_of_beq_eq_false rfl | decide)])
      exact ⟨X1, rfl, hRX1, hFX1, hMq32, by omega, (by (try delta Hid at *); first | exact Or.inr ((⟨(fun q => by omega), by omega, by omega⟩)) | exact Or.inl ⟨by omega, by omega, by omega, by omega⟩ | omega), fun y hy => (by rw [hX1, u3_k _ _ _ _ (by first | exact Nat.ne_of_beq_eq_false rfl | decide)])⟩

set_option maxHeartbeats 4000000 in
set_option maxRecDepth 100000 in
theorem c_X9_told (l : Launch) (D : va_G) (tc : Nat → ClassId) (base : Nat) (ad : Nat → Int → Nat) (cnt : Nat → Int) (X : Nat → Int → Int → Int) (Y : Nat → Int → Int → Option Int) (ln : Int → Int) (hR : Rng X) (hFx : Fx cnt) (hMI : MInv X) (x what : Int) (hx : -2147483648 ≤ x ∧ x ≤ 2147483647) (hwhat : -2147483648 ≤ what ∧ what ≤ 2147483647) : KI l D tc base yX9_told wsX9_told ({ frames := 1, cells := 0, slots := 0, locals := 21 } : Room) [.ref (ad 40 0), .int (jI x), .int (jI what)] (ad, cnt, X, Y, ln) 0 0 (fun z u => ∃ X1 : Nat → Int → Int → Int, u = (ad, cnt, X1, Y, ln) ∧ Rng X1 ∧ Frm [4001] X X1 ∧ MInv X1 ∧ (-2147483648 ≤ z ∧ z ≤ 2147483647) ∧ ((¬ (0 ≤ x ∧ x < X 40 0 13) ∧ z = -1) ∨ ((0 ≤ x ∧ x < X 40 0 13) ∧ what = 0 ∧ z = X 55 0 x) ∨ ((0 ≤ x ∧ x < X 40 0 13) ∧ what = 1 ∧ z = X 44 0 (X 55 0 x)) ∨ ((0 ≤ x ∧ x < X 40 0 13) ∧ what ≠ 0 ∧ what ≠ 1 ∧ z = -2))) := by
  refine K_of (cc := cX9_told) (maxL := 3) (ret := (some .int)) (by decide) rfl (Nat.le_of_ble_eq_true rfl) ?_
  intro p e s m below meth c ls hx hb hr hml hown hts hlocks hl hK hw hS
  have hown : s.vm.findClass RX9 = some m.cls := hown
  obtain ⟨av9, hav9⟩ : ∃ a9 : Array Value, a9 = ([.ref (ad 40 0), .int (jI x), .int (jI what)] : List Value).toArray := ⟨_, rfl⟩
  rw [← hav9] at hts ⊢
  obtain ⟨Q9, hQ9⟩ : ∃ q9Q : State → Prop, q9Q = MQ below (QI D tc base (fun z u => ∃ X1 : Nat → Int → Int → Int, u = (ad, cnt, X1, Y, ln) ∧ Rng X1 ∧ Frm [4001] X X1 ∧ MInv X1 ∧ (-2147483648 ≤ z ∧ z ≤ 2147483647) ∧ ((¬ (0 ≤ x ∧ x < X 40 0 13) ∧ z = -1) ∨ ((0 ≤ x ∧ x < X 40 0 13) ∧ what = 0 ∧ z = X 55 0 x) ∨ ((0 ≤ x ∧ x < X 40 0 13) ∧ what = 1 ∧ z = X 44 0 (X 55 0 x)) ∨ ((0 ≤ x ∧ x < X 40 0 13) ∧ what ≠ 0 ∧ what ≠ 1 ∧ z = -2)))) av9 s 0 0 (frA base) := ⟨_, rfl⟩
  rw [← hQ9]
  have hi9 : ∀ w ∈ wsX90, w ∈ wsX9_told := fun w h => List.mem_cons_of_mem _ (List.mem_append_right _ h)
  have hf9 : fctx s m _ RX9 wsX9_told D tc RX9 TX9 51 9 := ⟨hts, hi9, hown, hK.1, rfl⟩
  have lk13 := hts (.fieldLink RX9 13 (TX9 3).1 (TX9 3).2.1 (TX9 3).2.2.1) (gj_X9_told_0 _ (gp_1 (gp_1 gp_h)))
  have lk45 := hts (.fieldLink RX9 45 (TX9 14).1 (TX9 14).2.1 (TX9 14).2.2.1) (gj_X9_told_0 _ (gp_1 gp_h))
  have lk145 := hts (.fieldLink RX9 145 (TX9 0).1 (TX9 0).2.1 (TX9 0).2.2.1) (gj_X9_told_0 _ (gp_h))
  have hc40 : cnt 40 = 1 := hFx.at 40 1 (by decide)
  have hc44 : cnt 44 = 1 := hFx.at 44 1 (by decide)
  have hc55 : cnt 55 = 1 := hFx.at 55 1 (by decide)
  have hl : lv_has ls 3 [(0, .ref (ad 40 0)), (1, .int (jI x)), (2, .int (jI what))] := hl
  have fstypes : 0 ≤ X 40 0 2 ∧ X 40 0 2 ≤ 8 := hR 40 0 2
  have fsthings : 0 ≤ X 40 0 13 ∧ X 40 0 13 ≤ 30 := hR 40 0 13
  have fsmarks : 0 ≤ X 40 0 20 ∧ X 40 0 20 ≤ 4 := hR 40 0 20
  have fsnotes : 0 ≤ X 40 0 22 ∧ X 40 0 22 ≤ 80 := hR 40 0 22
  refine lv_aload_n hx hb dX9_told_0 rfl (lv_at hl 0 rfl) ?_
  refine lv_iconst (v := jI 0) hx hb dX9_told_1 rfl ?_
  refine x_puti (jz := 0) hx hb hf9 ⟨tyX9_ok, nmX9⟩ hw hS (by first | exact Int.le_refl 0 | omega) (by first | exact zlt hc40 | omega) sl_40_0 rfl lk145 rfl (tyX9_ok 0 (by decide)) rfl rfl dX9_told_2 (fun H locs hw hS => ?_)
  obtain ⟨X1, hX1⟩ : ∃ Xq, Xq = u3 X 40 0 0 0 := ⟨_, rfl⟩
  rw [← hX1] at hw
  have hRX1 : Rng X1 := by rw [hX1]; exact rng_set hR (show (-2147483648) ≤ 0 ∧ 0 ≤ 2147483647 by omega)
  have hVX1 : X1 40 0 0 = 0 := by rw [hX1]; exact u3_s _ _ _ _ _
  have hFX1 : Frm [4001] X X1 := by rw [hX1]; exact Frm.set Frm.rf (show 4001 ∈ [4001] by first | exact nlm_in rfl | decide)
  refine lv_aload_n hx hb dX9_told_5 rfl (lv_at hl 0 rfl) ?_
  refine lv_iload_n hx hb dX9_told_6 rfl (lv_at hl 1 rfl) ?_
  refine gos_i (run_V (As := [.int (jI x)]) (rest := []) hx hb hml hown hts (c_X9_isThing l D tc base ad cnt X1 Y ln hRX1 hFx x (by omega)) (cwV 1 hts gX9_told_X9_isThing rfl rfl rfl (by first | exact hd_X9_isThing | decide +kernel) ⟨Nat.le_of_ble_eq_true rfl, Nat.le_of_ble_eq_true rfl⟩) hK hw (by first | exact Int.le_refl 0 | omega) (by first | exact zlt hc40 | omega) sl_40_0 rfl rfl hl.1 rfl (Nat.le_of_ble_eq_true rfl) dX9_told_7 ⟨Nat.le_of_ble_eq_true rfl, Nat.le_of_ble_eq_true rfl⟩) hS (fun z2 u3 H locs p4 hw hS => ?_)
  obtain ⟨eu3, p4⟩ := p4
  subst eu3
  have e5 : X1 40 0 13 = X 40 0 13 := by rw [hX1, u3_j _ _ _ _ (by decide)]
  simp only [e5] at p4
  rcases p4 with ⟨ez2, p4⟩ | ⟨ez2, p4⟩
  · subst ez2
    refine x_if_neT (tgt := 15) hx hb (by omega) (by decide) dX9_told_10 (by decide) ?_
    refine lv_iload_n hx hb dX9_told_15 rfl (lv_at hl 2 rfl) ?_
    refine x_if_ne (tgt := 28) hx hb (by omega) dX9_told_16 (by decide) (fun c6 => ?_) (fun c6 => ?_)
    · refine lv_iload_n hx hb dX9_told_28 rfl (lv_at hl 2 rfl) ?_
      refine lv_iconst (v := jI 1) hx hb dX9_told_29 rfl ?_
      refine x_icmp_ne (tgt := 47) hx hb (by omega) (by omega) dX9_told_30 (by decide) (fun c7 => ?_) (fun c7 => ?_)
      · refine lv_bipush (v := jI (-2)) hx hb dX9_told_47 (by decide) ?_
        rw [hQ9]
        refine ret_i (mc := 0) (ms := 0) hx hb hr hlocks hw hS (by first | exact Nat.le_of_ble_eq_true rfl | omega) (by first | exact Nat.le_of_ble_eq_true rfl | omega) dX9_told_49 ?_
        have q9 : Frm [4001] X X1 := by rw [hX1]; exact Frm.set Frm.rf (show 4001 ∈ [4001] by first | exact nlm_in rfl | decide)
        have hMq8 : MInv X1 := minv_frm hMI q9 (by decide)
        exact ⟨X1, rfl, hRX1, hFX1, hMq8, by omega, (by (try delta Hid at *); first | exact Or.inr (Or.inr (Or.inr (⟨(by omega), by omega, by omega, by omega⟩))) | exact Or.inr (Or.inl ⟨(by omega), by omega, by omega⟩) | exact Or.inr (Or.inr (Or.inl ⟨(by omega), by omega, by omega⟩)))⟩
      · refine lv_aload_n hx hb dX9_told_33 rfl (lv_at hl 0 rfl) ?_
        refine x_geto hx hb hf9 hw (by first | exact Int.le_refl 0 | omega) (by first | exact zlt hc40 | omega) sl_40_3 lk13 dX9_told_34 ?_
        refine lv_aload_n hx hb dX9_told_37 rfl (lv_at hl 0 rfl) ?_
        refine x_geto hx hb hf9 hw (by first | exact Int.le_refl 0 | omega) (by first | exact zlt hc40 | omega) sl_40_14 lk45 dX9_told_38 ?_
        refine lv_iload_n hx hb dX9_told_41 rfl (lv_at hl 1 rfl) ?_
        refine x_iald hx hb hK.1 hw (by first | exact Int.le_refl 0 | omega) (by first | exact zlt hc55 | omega) ar_55 (len_E ar_55 (by first | exact Nat.ne_of_beq_eq_false rfl | decide)) (by omega) (by omega) (by omega) dX9_told_42 ?_
        have e10 : ∀ p9 q9 : Int, X1 55 p9 q9 = X 55 p9 q9 := fun p9 q9 => by rw [hX1, u3_k _ _ _ _ (by first | exact Nat.ne_of_beq_eq_false rfl | decide)]
        rw [e10 0 x]
        have f11 : 0 ≤ X 55 0 x ∧ X 55 0 x ≤ 7 := hR 55 0 x
        refine x_iald hx hb hK.1 hw (by first | exact Int.le_refl 0 | omega) (by first | exact zlt hc44 | omega) ar_44 (len_E ar_44 (by first | exact Nat.ne_of_beq_eq_false rfl | decide)) (by omega) (by omega) (by omega) dX9_told_43 ?_
        have e12 : ∀ p9 q9 : Int, X1 44 p9 q9 = X 44 p9 q9 := fun p9 q9 => by rw [hX1, u3_k _ _ _ _ (by first | exact Nat.ne_of_beq_eq_false rfl | decide)]
        rw [e12 0 (X 55 0 x)]
        have f13 : 0 ≤ X 44 0 (X 55 0 x) ∧ X 44 0 (X 55 0 x) ≤ 5 := hR 44 0 (X 55 0 x)
        refine lv_goto (tgt := 49) hx hb dX9_told_44 (by decide) ?_
        rw [hQ9]
        refine ret_i (mc := 0) (ms := 0) hx hb hr hlocks hw hS (by first | exact Nat.le_of_ble_eq_true rfl | omega) (by first | exact Nat.le_of_ble_eq_true rfl | omega) dX9_told_49 ?_
        have q15 : Frm [4001] X X1 := by rw [hX1]; exact Frm.set Frm.rf (show 4001 ∈ [4001] by first | exact nlm_in rfl | decide)
        have hMq14 : MInv X1 := minv_frm hMI q15 (by decide)
        exact ⟨X1, rfl, hRX1, hFX1, hMq14, by omega, (by (try delta Hid at *); first | exact Or.inr (Or.inr (Or.inl ⟨(by omega), by omega, by omega⟩)) | exact Or.inr (Or.inl ⟨(by omega), by omega, by omega⟩) | exact Or.inl ⟨(fun q => by omega), by omega⟩ | exact Or.inr (Or.inr (Or.inr (⟨(by omega), by omega, by omega, by omega⟩))))⟩
    · refine lv_aload_n hx hb dX9_told_19 rfl (lv_at hl 0 rfl) ?_
      refine x_geto hx hb hf9 hw (by first | exact Int.le_refl 0 | omega) (by first | exact zlt hc40 | omega) sl_40_14 lk45 dX9_told_20 ?_
      refine lv_iload_n hx hb dX9_told_23 rfl (lv_at hl 1 rfl) ?_
      refine x_iald hx hb hK.1 hw (by first | exact Int.le_refl 0 | omega) (by first | exact zlt hc55 | omega) ar_55 (len_E ar_55 (by first | exact Nat.ne_of_beq_eq_false rfl | decide)) (by omega) (by omega) (by omega) dX9_told_24 ?_
      have e16 : ∀ p9 q9 : Int, X1 55 p9 q9 = X 55 p9 q9 := fun p9 q9 => by rw [hX1, u3_k _ _ _ _ (by first | exact Nat.ne_of_beq_eq_false rfl | decide)]
      rw [e16 0 x]
      have f17 : 0 ≤ X 55 0 x ∧ X 55 0 x ≤ 7 := hR 55 0 x
      refine lv_goto (tgt := 49) hx hb dX9_told_25 (by decide) ?_
      rw [hQ9]
      refine ret_i (mc := 0) (ms := 0) hx hb hr hlocks hw hS (by first | exact Nat.le_of_ble_eq_true rfl | omega) (by first | exact Nat.le_of_ble_eq_true rfl | omega) dX9_told_49 ?_
      have q19 : Frm [4001] X X1 := by rw [hX1]; exact Frm.set Frm.rf (show 4001 ∈ [4001] by first | exact nlm_in rfl | decide)
      have hMq18 : MInv X1 := minv_frm hMI q19 (by decide)
      exact ⟨X1, rfl, hRX1, hFX1, hMq18, by omega, (by (try delta Hid at *); first | exact Or.inr (Or.inl ⟨(by omega), by omega, by omega⟩) | exact Or.inr (Or.inr (Or.inl ⟨(by omega), by omega, by omega⟩)) | exact Or.inl ⟨(fun q => by omega), by omega⟩ | exact Or.inr (Or.inr (Or.inr (⟨(by omega), by omega, by omega, by omega⟩))))⟩
  · subst ez2
    refine x_if_neF (tgt := 15) hx hb (by omega) (by decide) dX9_told_10 (by decide) ?_
    refine lv_iconst (v := jI (-1)) hx hb dX9_told_13 rfl ?_
    rw [hQ9]
    refine ret_i (mc := 0) (ms := 0) hx hb hr hlocks hw hS (by first | exact Nat.le_of_ble_eq_true rfl | omega) (by first | exact Nat.le_of_ble_eq_true rfl | omega) dX9_told_14 ?_
    have q21 : Frm [4001] X X1 := by rw [hX1]; exact Frm.set Frm.rf (show 4001 ∈ [4001] by first | exact nlm_in rfl | decide)
    have hMq20 : MInv X1 := minv_frm hMI q21 (by decide)
    exact ⟨X1, rfl, hRX1, hFX1, hMq20, by omega, (by (try delta Hid at *); first | exact Or.inl ⟨(fun q => by omega), by omega⟩ | exact Or.inr (Or.inl ⟨(by omega), by omega, by omega⟩) | exact Or.inr (Or.inr (Or.inl ⟨(by omega), by omega, by omega⟩)))⟩

set_option maxHeartbeats 4000000 in
set_option maxRecDepth 100000 in
theorem c_X9_fault (l : Launch) (D : va_G) (tc : Nat → ClassId) (base : Nat) (ad : Nat → Int → Nat) (cnt : Nat → Int) (X : Nat → Int → Int → Int) (Y : Nat → Int → Int → Option Int) (ln : Int → Int) (hR : Rng X) (hFx : Fx cnt) (hMI : MInv X) (what : Int) (hwhat : -2147483648 ≤ what ∧ what ≤ 2147483647) : KI l D tc base yX9_fault wsX9_fault ({ frames := 0, cells := 0, slots := 0, locals := 0 } : Room) [.ref (ad 40 0), .int (jI what)] (ad, cnt, X, Y, ln) 0 0 (fun z u => ∃ X1 : Nat → Int → Int → Int, u = (ad, cnt, X1, Y, ln) ∧ Rng X1 ∧ Frm [4001] X X1 ∧ MInv X1 ∧ (-2147483648 ≤ z ∧ z ≤ 2147483647)) := by
  refine K_of (cc := cX9_fault) (maxL := 2) (ret := (some .int)) (by decide) rfl (Nat.le_of_ble_eq_true rfl) ?_
  intro p e s m below meth c ls hx hb hr hml hown hts hlocks hl hK hw hS
  have hown : s.vm.findClass RX9 = some m.cls := hown
  obtain ⟨av9, hav9⟩ : ∃ a9 : Array Value, a9 = ([.ref (ad 40 0), .int (jI what)] : List Value).toArray := ⟨_, rfl⟩
  rw [← hav9] at hts ⊢
  obtain ⟨Q9, hQ9⟩ : ∃ q9Q : State → Prop, q9Q = MQ below (QI D tc base (fun z u => ∃ X1 : Nat → Int → Int → Int, u = (ad, cnt, X1, Y, ln) ∧ Rng X1 ∧ Frm [4001] X X1 ∧ MInv X1 ∧ (-2147483648 ≤ z ∧ z ≤ 2147483647))) av9 s 0 0 (frA base) := ⟨_, rfl⟩
  rw [← hQ9]
  have hi9 : ∀ w ∈ wsX90, w ∈ wsX9_fault := fun w h => List.mem_cons_of_mem _ (List.mem_append_right _ h)
  have hf9 : fctx s m _ RX9 wsX9_fault D tc RX9 TX9 51 9 := ⟨hts, hi9, hown, hK.1, rfl⟩
  have lk117 := hts (.fieldLink RX9 117 (TX9 41).1 (TX9 41).2.1 (TX9 41).2.2.1) (gj_X9_fault_0 _ (gp_1 gp_h))
  have lk121 := hts (.fieldLink RX9 121 (TX9 42).1 (TX9 42).2.1 (TX9 42).2.2.1) (gj_X9_fault_0 _ (gp_1 (gp_1 gp_h)))
  have lk124 := hts (.fieldLink RX9 124 (TX9 43).1 (TX9 43).2.1 (TX9 43).2.2.1) (gj_X9_fault_0 _ (gp_1 (gp_1 (gp_1 gp_h))))
  have lk145 := hts (.fieldLink RX9 145 (TX9 0).1 (TX9 0).2.1 (TX9 0).2.2.1) (gj_X9_fault_0 _ (gp_h))
  have hc40 : cnt 40 = 1 := hFx.at 40 1 (by decide)
  have hl : lv_has ls 2 [(0, .ref (ad 40 0)), (1, .int (jI what))] := hl
  have fstypes : 0 ≤ X 40 0 2 ∧ X 40 0 2 ≤ 8 := hR 40 0 2
  have fsthings : 0 ≤ X 40 0 13 ∧ X 40 0 13 ≤ 30 := hR 40 0 13
  have fsmarks : 0 ≤ X 40 0 20 ∧ X 40 0 20 ≤ 4 := hR 40 0 20
  have fsnotes : 0 ≤ X 40 0 22 ∧ X 40 0 22 ≤ 80 := hR 40 0 22
  refine lv_aload_n hx hb dX9_fault_0 rfl (lv_at hl 0 rfl) ?_
  refine lv_iconst (v := jI 0) hx hb dX9_fault_1 rfl ?_
  refine x_puti (jz := 0) hx hb hf9 ⟨tyX9_ok, nmX9⟩ hw hS (by first | exact Int.le_refl 0 | omega) (by first | exact zlt hc40 | omega) sl_40_0 rfl lk145 rfl (tyX9_ok 0 (by decide)) rfl rfl dX9_fault_2 (fun H locs hw hS => ?_)
  obtain ⟨X1, hX1⟩ : ∃ Xq, Xq = u3 X 40 0 0 0 := ⟨_, rfl⟩
  rw [← hX1] at hw
  have hRX1 : Rng X1 := by rw [hX1]; exact rng_set hR (show (-2147483648) ≤ 0 ∧ 0 ≤ 2147483647 by omega)
  have hVX1 : X1 40 0 0 = 0 := by rw [hX1]; exact u3_s _ _ _ _ _
  have hFX1 : Frm [4001] X X1 := by rw [hX1]; exact Frm.set Frm.rf (show 4001 ∈ [4001] by first | exact nlm_in rfl | decide)
  refine lv_iload_n hx hb dX9_fault_5 rfl (lv_at hl 1 rfl) ?_
  refine x_if_ne (tgt := 16) hx hb (by omega) dX9_fault_6 (by decide) (fun c2 => ?_) (fun c2 => ?_)
  · refine lv_iload_n hx hb dX9_fault_16 rfl (lv_at hl 1 rfl) ?_
    refine lv_iconst (v := jI 1) hx hb dX9_fault_17 rfl ?_
    refine x_icmp_ne (tgt := 28) hx hb (by omega) (by omega) dX9_fault_18 (by decide) (fun c3 => ?_) (fun c3 => ?_)
    · refine lv_iload_n hx hb dX9_fault_28 rfl (lv_at hl 1 rfl) ?_
      refine lv_iconst (v := jI 2) hx hb dX9_fault_29 rfl ?_
      refine x_icmp_ne (tgt := 40) hx hb (by omega) (by omega) dX9_fault_30 (by decide) (fun c4 => ?_) (fun c4 => ?_)
      · refine lv_bipush (v := jI (-2)) hx hb dX9_fault_40 (by decide) ?_
        rw [hQ9]
        refine ret_i (mc := 0) (ms := 0) hx hb hr hlocks hw hS (by first | exact Nat.le_of_ble_eq_true rfl | omega) (by first | exact Nat.le_of_ble_eq_true rfl | omega) dX9_fault_42 ?_
        have q6 : Frm [4001] X X1 := by rw [hX1]; exact Frm.set Frm.rf (show 4001 ∈ [4001] by first | exact nlm_in rfl | decide)
        have hMq5 : MInv X1 := minv_frm hMI q6 (by decide)
        exact ⟨X1, rfl, hRX1, hFX1, hMq5, by omega⟩
      · refine lv_aload_n hx hb dX9_fault_33 rfl (lv_at hl 0 rfl) ?_
        refine x_geti (jz := 43) hx hb hf9 hw (by first | exact Int.le_refl 0 | omega) (by first | exact zlt hc40 | omega) sl_40_43 rfl lk124 dX9_fault_34 ?_
        have e7 : X1 40 0 43 = X 40 0 43 := by rw [hX1, u3_j _ _ _ _ (by decide)]
        rw [e7]
        have f8 : (-2147483648) ≤ X 40 0 43 ∧ X 40 0 43 ≤ 2147483647 := hR 40 0 43
        refine lv_goto (tgt := 42) hx hb dX9_fault_37 (by decide) ?_
        rw [hQ9]
        refine ret_i (mc := 0) (ms := 0) hx hb hr hlocks hw hS (by first | exact Nat.le_of_ble_eq_true rfl | omega) (by first | exact Nat.le_of_ble_eq_true rfl | omega) dX9_fault_42 ?_
        have q10 : Frm [4001] X X1 := by rw [hX1]; exact Frm.set Frm.rf (show 4001 ∈ [4001] by first | exact nlm_in rfl | decide)
        have hMq9 : MInv X1 := minv_frm hMI q10 (by decide)
        exact ⟨X1, rfl, hRX1, hFX1, hMq9, by omega⟩
    · refine lv_aload_n hx hb dX9_fault_21 rfl (lv_at hl 0 rfl) ?_
      refine x_geti (jz := 42) hx hb hf9 hw (by first | exact Int.le_refl 0 | omega) (by first | exact zlt hc40 | omega) sl_40_42 rfl lk121 dX9_fault_22 ?_
      have e11 : X1 40 0 42 = X 40 0 42 := by rw [hX1, u3_j _ _ _ _ (by decide)]
      rw [e11]
      have f12 : (-2147483648) ≤ X 40 0 42 ∧ X 40 0 42 ≤ 2147483647 := hR 40 0 42
      refine lv_goto (tgt := 42) hx hb dX9_fault_25 (by decide) ?_
      rw [hQ9]
      refine ret_i (mc := 0) (ms := 0) hx hb hr hlocks hw hS (by first | exact Nat.le_of_ble_eq_true rfl | omega) (by first | exact Nat.le_of_ble_eq_true rfl | omega) dX9_fault_42 ?_
      have q14 : Frm [4001] X X1 := by rw [hX1]; exact Frm.set Frm.rf (show 4001 ∈ [4001] by first | exact nlm_in rfl | decide)
      have hMq13 : MInv X1 := minv_frm hMI q14 (by decide)
      exact ⟨X1, rfl, hRX1, hFX1, hMq13, by omega⟩
  · refine lv_aload_n hx hb dX9_fault_9 rfl (lv_at hl 0 rfl) ?_
    refine x_geti (jz := 41) hx hb hf9 hw (by first | exact Int.le_refl 0 | omega) (by first | exact zlt hc40 | omega) sl_40_41 rfl lk117 dX9_fault_10 ?_
    have e15 : X1 40 0 41 = X 40 0 41 := by rw [hX1, u3_j _ _ _ _ (by decide)]
    rw [e15]
    have f16 : (-2147483648) ≤ X 40 0 41 ∧ X 40 0 41 ≤ 2147483647 := hR 40 0 41
    refine lv_goto (tgt := 42) hx hb dX9_fault_13 (by decide) ?_
    rw [hQ9]
    refine ret_i (mc := 0) (ms := 0) hx hb hr hlocks hw hS (by first | exact Nat.le_of_ble_eq_true rfl | omega) (by first | exact Nat.le_of_ble_eq_true rfl | omega) dX9_fault_42 ?_
    have q18 : Frm [4001] X X1 := by rw [hX1]; exact Frm.set Frm.rf (show 4001 ∈ [4001] by first | exact nlm_in rfl | decide)
    have hMq17 : MInv X1 := minv_frm hMI q18 (by decide)
    exact ⟨X1, rfl, hRX1, hFX1, hMq17, by omega⟩

set_option maxHeartbeats 4000000 in
set_option maxRecDepth 100000 in
theorem c_X9_count (l : Launch) (D : va_G) (tc : Nat → ClassId) (base : Nat) (ad : Nat → Int → Nat) (cnt : Nat → Int) (X : Nat → Int → Int → Int) (Y : Nat → Int → Int → Option Int) (ln : Int → Int) (hR : Rng X) (hFx : Fx cnt) (hMI : MInv X) (what : Int) (hwhat : -2147483648 ≤ what ∧ what ≤ 2147483647) : KI l D tc base yX9_count wsX9_count ({ frames := 0, cells := 0, slots := 0, locals := 0 } : Room) [.ref (ad 40 0), .int (jI what)] (ad, cnt, X, Y, ln) 0 0 (fun z u => ∃ X1 : Nat → Int → Int → Int, u = (ad, cnt, X1, Y, ln) ∧ Rng X1 ∧ Frm [4001] X X1 ∧ MInv X1 ∧ (-2147483648 ≤ z ∧ z ≤ 2147483647) ∧ ((what = 0 ∧ z = X 40 0 2) ∨ (what = 1 ∧ z = X 40 0 13) ∨ (what = 2 ∧ z = X 40 0 20) ∨ (what = 3 ∧ z = X 40 0 22) ∨ (¬ (0 ≤ what ∧ what ≤ 3) ∧ z = -2))) := by
  refine K_of (cc := cX9_count) (maxL := 2) (ret := (some .int)) (by decide) rfl (Nat.le_of_ble_eq_true rfl) ?_
  intro p e s m below meth c ls hx hb hr hml hown hts hlocks hl hK hw hS
  have hown : s.vm.findClass RX9 = some m.cls := hown
  obtain ⟨av9, hav9⟩ : ∃ a9 : Array Value, a9 = ([.ref (ad 40 0), .int (jI what)] : List Value).toArray := ⟨_, rfl⟩
  rw [← hav9] at hts ⊢
  obtain ⟨Q9, hQ9⟩ : ∃ q9Q : State → Prop, q9Q = MQ below (QI D tc base (fun z u => ∃ X1 : Nat → Int → Int → Int, u = (ad, cnt, X1, Y, ln) ∧ Rng X1 ∧ Frm [4001] X X1 ∧ MInv X1 ∧ (-2147483648 ≤ z ∧ z ≤ 2147483647) ∧ ((what = 0 ∧ z = X 40 0 2) ∨ (what = 1 ∧ z = X 40 0 13) ∨ (what = 2 ∧ z = X 40 0 20) ∨ (what = 3 ∧ z = X 40 0 22) ∨ (¬ (0 ≤ what ∧ what ≤ 3) ∧ z = -2)))) av9 s 0 0 (frA base) := ⟨_, rfl⟩
  rw [← hQ9]
  have hi9 : ∀ w ∈ wsX90, w ∈ wsX9_count := fun w h => List.mem_cons_of_mem _ (List.mem_append_right _ h)
  have hf9 : fctx s m _ RX9 wsX9_count D tc RX9 TX9 51 9 := ⟨hts, hi9, hown, hK.1, rfl⟩
  have lk145 := hts (.fieldLink RX9 145 (TX9 0).1 (TX9 0).2.1 (TX9 0).2.2.1) (gj_X9_count_0 _ (gp_h))
  have lk148 := hts (.fieldLink RX9 148 (TX9 2).1 (TX9 2).2.1 (TX9 2).2.2.1) (gj_X9_count_0 _ (gp_1 gp_h))
  have lk151 := hts (.fieldLink RX9 151 (TX9 13).1 (TX9 13).2.1 (TX9 13).2.2.1) (gj_X9_count_0 _ (gp_1 (gp_1 gp_h)))
  have lk165 := hts (.fieldLink RX9 165 (TX9 20).1 (TX9 20).2.1 (TX9 20).2.2.1) (gj_X9_count_0 _ (gp_1 (gp_1 (gp_1 gp_h))))
  have lk173 := hts (.fieldLink RX9 173 (TX9 22).1 (TX9 22).2.1 (TX9 22).2.2.1) (gj_X9_count_0 _ (gp_4 gp_h))
  have hc40 : cnt 40 = 1 := hFx.at 40 1 (by decide)
  have hl : lv_has ls 2 [(0, .ref (ad 40 0)), (1, .int (jI what))] := hl
  have fstypes : 0 ≤ X 40 0 2 ∧ X 40 0 2 ≤ 8 := hR 40 0 2
  have fsthings : 0 ≤ X 40 0 13 ∧ X 40 0 13 ≤ 30 := hR 40 0 13
  have fsmarks : 0 ≤ X 40 0 20 ∧ X 40 0 20 ≤ 4 := hR 40 0 20
  have fsnotes : 0 ≤ X 40 0 22 ∧ X 40 0 22 ≤ 80 := hR 40 0 22
  refine lv_aload_n hx hb dX9_count_0 rfl (lv_at hl 0 rfl) ?_
  refine lv_iconst (v := jI 0) hx hb dX9_count_1 rfl ?_
  refine x_puti (jz := 0) hx hb hf9 ⟨tyX9_ok, nmX9⟩ hw hS (by first | exact Int.le_refl 0 | omega) (by first | exact zlt hc40 | omega) sl_40_0 rfl lk145 rfl (tyX9_ok 0 (by decide)) rfl rfl dX9_count_2 (fun H locs hw hS => ?_)
  obtain ⟨X1, hX1⟩ : ∃ Xq, Xq = u3 X 40 0 0 0 := ⟨_, rfl⟩
  rw [← hX1] at hw
  have hRX1 : Rng X1 := by rw [hX1]; exact rng_set hR (show (-2147483648) ≤ 0 ∧ 0 ≤ 2147483647 by omega)
  have hVX1 : X1 40 0 0 = 0 := by rw [hX1]; exact u3_s _ _ _ _ _
  have hFX1 : Frm [4001] X X1 := by rw [hX1]; exact Frm.set Frm.rf (show 4001 ∈ [4001] by first | exact nlm_in rfl | decide)
  refine lv_iload_n hx hb dX9_count_5 rfl (lv_at hl 1 rfl) ?_
  refine x_if_ne (tgt := 16) hx hb (by omega) dX9_count_6 (by decide) (fun c2 => ?_) (fun c2 => ?_)
  · refine lv_iload_n hx hb dX9_count_16 rfl (lv_at hl 1 rfl) ?_
    refine lv_iconst (v := jI 1) hx hb dX9_count_17 rfl ?_
    refine x_icmp_ne (tgt := 28) hx hb (by omega) (by omega) dX9_count_18 (by decide) (fun c3 => ?_) (fun c3 => ?_)
    · refine lv_iload_n hx hb dX9_count_28 rfl (lv_at hl 1 rfl) ?_
      refine lv_iconst (v := jI 2) hx hb dX9_count_29 rfl ?_
      refine x_icmp_ne (tgt := 40) hx hb (by omega) (by omega) dX9_count_30 (by decide) (fun c4 => ?_) (fun c4 => ?_)
      · refine lv_iload_n hx hb dX9_count_40 rfl (lv_at hl 1 rfl) ?_
        refine lv_iconst (v := jI 3) hx hb dX9_count_41 rfl ?_
        refine x_icmp_ne (tgt := 52) hx hb (by omega) (by omega) dX9_count_42 (by decide) (fun c5 => ?_) (fun c5 => ?_)
        · refine lv_bipush (v := jI (-2)) hx hb dX9_count_52 (by decide) ?_
          rw [hQ9]
          refine ret_i (mc := 0) (ms := 0) hx hb hr hlocks hw hS (by first | exact Nat.le_of_ble_eq_true rfl | omega) (by first | exact Nat.le_of_ble_eq_true rfl | omega) dX9_count_54 ?_
          have q7 : Frm [4001] X X1 := by rw [hX1]; exact Frm.set Frm.rf (show 4001 ∈ [4001] by first | exact nlm_in rfl | decide)
          have hMq6 : MInv X1 := minv_frm hMI q7 (by decide)
          exact ⟨X1, rfl, hRX1, hFX1, hMq6, by omega, (by (try delta Hid at *); first | exact Or.inr (Or.inr (Or.inr (Or.inr (⟨(fun q => by omega), by omega⟩)))) | exact Or.inl ⟨by omega, by omega⟩ | exact Or.inr (Or.inl ⟨by omega, by omega⟩) | exact Or.inr (Or.inr (Or.inl ⟨by omega, by omega⟩)) | exact Or.inr (Or.inr (Or.inr (Or.inl ⟨by omega, by omega⟩))))⟩
        · refine lv_aload_n hx hb dX9_count_45 rfl (lv_at hl 0 rfl) ?_
          refine x_geti (jz := 22) hx hb hf9 hw (by first | exact Int.le_refl 0 | omega) (by first | exact zlt hc40 | omega) sl_40_22 rfl lk173 dX9_count_46 ?_
          have e8 : X1 40 0 22 = X 40 0 22 := by rw [hX1, u3_j _ _ _ _ (by decide)]
          rw [e8]
          have f9 : 0 ≤ X 40 0 22 ∧ X 40 0 22 ≤ 80 := hR 40 0 22
          refine lv_goto (tgt := 54) hx hb dX9_count_49 (by decide) ?_
          rw [hQ9]
          refine ret_i (mc := 0) (ms := 0) hx hb hr hlocks hw hS (by first | exact Nat.le_of_ble_eq_true rfl | omega) (by first | exact Nat.le_of_ble_eq_true rfl | omega) dX9_count_54 ?_
          have q11 : Frm [4001] X X1 := by rw [hX1]; exact Frm.set Frm.rf (show 4001 ∈ [4001] by first | exact nlm_in rfl | decide)
          have hMq10 : MInv X1 := minv_frm hMI q11 (by decide)
          exact ⟨X1, rfl, hRX1, hFX1, hMq10, by omega, (by (try delta Hid at *); first | exact Or.inr (Or.inr (Or.inr (Or.inl ⟨by omega, by omega⟩))) | exact Or.inl ⟨by omega, by omega⟩ | exact Or.inr (Or.inl ⟨by omega, by omega⟩) | exact Or.inr (Or.inr (Or.inl ⟨by omega, by omega⟩)) | exact Or.inr (Or.inr (Or.inr (Or.inr (⟨(fun q => by omega), by omega⟩)))))⟩
      · refine lv_aload_n hx hb dX9_count_33 rfl (lv_at hl 0 rfl) ?_
        refine x_geti (jz := 20) hx hb hf9 hw (by first | exact Int.le_refl 0 | omega) (by first | exact zlt hc40 | omega) sl_40_20 rfl lk165 dX9_count_34 ?_
        have e12 : X1 40 0 20 = X 40 0 20 := by rw [hX1, u3_j _ _ _ _ (by decide)]
        rw [e12]
        have f13 : 0 ≤ X 40 0 20 ∧ X 40 0 20 ≤ 4 := hR 40 0 20
        refine lv_goto (tgt := 54) hx hb dX9_count_37 (by decide) ?_
        rw [hQ9]
        refine ret_i (mc := 0) (ms := 0) hx hb hr hlocks hw hS (by first | exact Nat.le_of_ble_eq_true rfl | omega) (by first | exact Nat.le_of_ble_eq_true rfl | omega) dX9_count_54 ?_
        have q15 : Frm [4001] X X1 := by rw [hX1]; exact Frm.set Frm.rf (show 4001 ∈ [4001] by first | exact nlm_in rfl | decide)
        have hMq14 : MInv X1 := minv_frm hMI q15 (by decide)
        exact ⟨X1, rfl, hRX1, hFX1, hMq14, by omega, (by (try delta Hid at *); first | exact Or.inr (Or.inr (Or.inl ⟨by omega, by omega⟩)) | exact Or.inl ⟨by omega, by omega⟩ | exact Or.inr (Or.inl ⟨by omega, by omega⟩) | exact Or.inr (Or.inr (Or.inr (Or.inl ⟨by omega, by omega⟩))) | exact Or.inr (Or.inr (Or.inr (Or.inr (⟨(fun q => by omega), by omega⟩)))))⟩
    · refine lv_aload_n hx hb dX9_count_21 rfl (lv_at hl 0 rfl) ?_
      refine x_geti (jz := 13) hx hb hf9 hw (by first | exact Int.le_refl 0 | omega) (by first | exact zlt hc40 | omega) sl_40_13 rfl lk151 dX9_count_22 ?_
      have e16 : X1 40 0 13 = X 40 0 13 := by rw [hX1, u3_j _ _ _ _ (by decide)]
      rw [e16]
      have f17 : 0 ≤ X 40 0 13 ∧ X 40 0 13 ≤ 30 := hR 40 0 13
      refine lv_goto (tgt := 54) hx hb dX9_count_25 (by decide) ?_
      rw [hQ9]
      refine ret_i (mc := 0) (ms := 0) hx hb hr hlocks hw hS (by first | exact Nat.le_of_ble_eq_true rfl | omega) (by first | exact Nat.le_of_ble_eq_true rfl | omega) dX9_count_54 ?_
      have q19 : Frm [4001] X X1 := by rw [hX1]; exact Frm.set Frm.rf (show 4001 ∈ [4001] by first | exact nlm_in rfl | decide)
      have hMq18 : MInv X1 := minv_frm hMI q19 (by decide)
      exact ⟨X1, rfl, hRX1, hFX1, hMq18, by omega, (by (try delta Hid at *); first | exact Or.inr (Or.inl ⟨by omega, by omega⟩) | exact Or.inl ⟨by omega, by omega⟩ | exact Or.inr (Or.inr (Or.inl ⟨by omega, by omega⟩)) | exact Or.inr (Or.inr (Or.inr (Or.inl ⟨by omega, by omega⟩))) | exact Or.inr (Or.inr (Or.inr (Or.inr (⟨(fun q => by omega), by omega⟩)))))⟩
  · refine lv_aload_n hx hb dX9_count_9 rfl (lv_at hl 0 rfl) ?_
    refine x_geti (jz := 2) hx hb hf9 hw (by first | exact Int.le_refl 0 | omega) (by first | exact zlt hc40 | omega) sl_40_2 rfl lk148 dX9_count_10 ?_
    have e20 : X1 40 0 2 = X 40 0 2 := by rw [hX1, u3_j _ _ _ _ (by decide)]
    rw [e20]
    have f21 : 0 ≤ X 40 0 2 ∧ X 40 0 2 ≤ 8 := hR 40 0 2
    refine lv_goto (tgt := 54) hx hb dX9_count_13 (by decide) ?_
    rw [hQ9]
    refine ret_i (mc := 0) (ms := 0) hx hb hr hlocks hw hS (by first | exact Nat.le_of_ble_eq_true rfl | omega) (by first | exact Nat.le_of_ble_eq_true rfl | omega) dX9_count_54 ?_
    have q23 : Frm [4001] X X1 := by rw [hX1]; exact Frm.set Frm.rf (show 4001 ∈ [4001] by first | exact nlm_in rfl | decide)
    have hMq22 : MInv X1 := minv_frm hMI q23 (by decide)
    exact ⟨X1, rfl, hRX1, hFX1, hMq22, by omega, (by (try delta Hid at *); first | exact Or.inl ⟨by omega, by omega⟩ | exact Or.inr (Or.inl ⟨by omega, by omega⟩) | exact Or.inr (Or.inr (Or.inl ⟨by omega, by omega⟩)) | exact Or.inr (Or.inr (Or.inr (Or.inl ⟨by omega, by omega⟩))) | exact Or.inr (Or.inr (Or.inr (Or.inr (⟨(fun q => by omega), by omega⟩)))))⟩

set_option maxHeartbeats 4000000 in
set_option maxRecDepth 100000 in
theorem c_X9_faulty (l : Launch) (D : va_G) (tc : Nat → ClassId) (base : Nat) (ad : Nat → Int → Nat) (cnt : Nat → Int) (X : Nat → Int → Int → Int) (Y : Nat → Int → Int → Option Int) (ln : Int → Int) (hR : Rng X) (hFx : Fx cnt) (hMI : MInv X) (kind r name cq : Int) (hkind : 0 ≤ kind ∧ kind ≤ 10) (hr : -2147483648 ≤ r ∧ r ≤ 2147483647) (hname : -2147483648 ≤ name ∧ name ≤ 2147483647) (hcq : -2147483648 ≤ cq ∧ cq ≤ 2147483647) : KI l D tc base yX9_faulty wsX9_faulty ({ frames := 0, cells := 0, slots := 0, locals := 0 } : Room) [.ref (ad 40 0), .int (jI kind), .int (jI r), .int (jI name), .int (jI cq)] (ad, cnt, X, Y, ln) 0 0 (fun z u => ∃ X1 : Nat → Int → Int → Int, u = (ad, cnt, X1, Y, ln) ∧ Rng X1 ∧ Frm [4042, 4043, 4044] X X1 ∧ MInv X1 ∧ z = -10 - kind) := by
  refine K_of (cc := cX9_faulty) (maxL := 5) (ret := (some .int)) (by decide) rfl (Nat.le_of_ble_eq_true rfl) ?_
  intro p e s m below meth c ls hx hb hr hml hown hts hlocks hl hK hw hS
  have hown : s.vm.findClass RX9 = some m.cls := hown
  obtain ⟨av9, hav9⟩ : ∃ a9 : Array Value, a9 = ([.ref (ad 40 0), .int (jI kind), .int (jI r), .int (jI name), .int (jI cq)] : List Value).toArray := ⟨_, rfl⟩
  rw [← hav9] at hts ⊢
  obtain ⟨Q9, hQ9⟩ : ∃ q9Q : State → Prop, q9Q = MQ below (QI D tc base (fun z u => ∃ X1 : Nat → Int → Int → Int, u = (ad, cnt, X1, Y, ln) ∧ Rng X1 ∧ Frm [4042, 4043, 4044] X X1 ∧ MInv X1 ∧ z = -10 - kind)) av9 s 0 0 (frA base) := ⟨_, rfl⟩
  rw [← hQ9]
  have hi9 : ∀ w ∈ wsX90, w ∈ wsX9_faulty := fun w h => List.mem_cons_of_mem _ (List.mem_append_right _ h)
  have hf9 : fctx s m _ RX9 wsX9_faulty D tc RX9 TX9 51 9 := ⟨hts, hi9, hown, hK.1, rfl⟩
  have lk117 := hts (.fieldLink RX9 117 (TX9 41).1 (TX9 41).2.1 (TX9 41).2.2.1) (gj_X9_faulty_0 _ (gp_h))
  have lk121 := hts (.fieldLink RX9 121 (TX9 42).1 (TX9 42).2.1 (TX9 42).2.2.1) (gj_X9_faulty_0 _ (gp_1 gp_h))
  have lk124 := hts (.fieldLink RX9 124 (TX9 43).1 (TX9 43).2.1 (TX9 43).2.2.1) (gj_X9_faulty_0 _ (gp_1 (gp_1 gp_h)))
  have hc40 : cnt 40 = 1 := hFx.at 40 1 (by decide)
  have hl : lv_has ls 5 [(0, .ref (ad 40 0)), (1, .int (jI kind)), (2, .int (jI r)), (3, .int (jI name)), (4, .int (jI cq))] := hl
  have fstypes : 0 ≤ X 40 0 2 ∧ X 40 0 2 ≤ 8 := hR 40 0 2
  have fsthings : 0 ≤ X 40 0 13 ∧ X 40 0 13 ≤ 30 := hR 40 0 13
  have fsmarks : 0 ≤ X 40 0 20 ∧ X 40 0 20 ≤ 4 := hR 40 0 20
  have fsnotes : 0 ≤ X 40 0 22 ∧ X 40 0 22 ≤ 80 := hR 40 0 22
  refine lv_aload_n hx hb dX9_faulty_0 rfl (lv_at hl 0 rfl) ?_
  refine lv_iload_n hx hb dX9_faulty_1 rfl (lv_at hl 2 rfl) ?_
  refine x_puti (jz := 41) hx hb hf9 ⟨tyX9_ok, nmX9⟩ hw hS (by first | exact Int.le_refl 0 | omega) (by first | exact zlt hc40 | omega) sl_40_41 rfl lk117 rfl (tyX9_ok 41 (by decide)) rfl rfl dX9_faulty_2 (fun H locs hw hS => ?_)
  obtain ⟨X1, hX1⟩ : ∃ Xq, Xq = u3 X 40 0 41 r := ⟨_, rfl⟩
  rw [← hX1] at hw
  have hRX1 : Rng X1 := by rw [hX1]; exact rng_set hR (show (-2147483648) ≤ r ∧ r ≤ 2147483647 by omega)
  have hVX1 : X1 40 0 41 = r := by rw [hX1]; exact u3_s _ _ _ _ _
  have hFX1 : Frm [4042, 4043, 4044] X X1 := by rw [hX1]; exact Frm.set Frm.rf (show 4042 ∈ [4042, 4043, 4044] by first | exact nlm_in rfl | decide)
  refine lv_aload_n hx hb dX9_faulty_5 rfl (lv_at hl 0 rfl) ?_
  refine lv_iload_n hx hb dX9_faulty_6 rfl (lv_at hl 3 rfl) ?_
  refine x_puti (jz := 42) hx hb hf9 ⟨tyX9_ok, nmX9⟩ hw hS (by first | exact Int.le_refl 0 | omega) (by first | exact zlt hc40 | omega) sl_40_42 rfl lk121 rfl (tyX9_ok 42 (by decide)) rfl rfl dX9_faulty_7 (fun H locs hw hS => ?_)
  obtain ⟨X2, hX2⟩ : ∃ Xq, Xq = u3 X1 40 0 42 name := ⟨_, rfl⟩
  rw [← hX2] at hw
  have hRX2 : Rng X2 := by rw [hX2]; exact rng_set hRX1 (show (-2147483648) ≤ name ∧ name ≤ 2147483647 by omega)
  have hVX2 : X2 40 0 42 = name := by rw [hX2]; exact u3_s _ _ _ _ _
  have hFX2 : Frm [4042, 4043, 4044] X X2 := by rw [hX2]; exact Frm.set hFX1 (show 4043 ∈ [4042, 4043, 4044] by first | exact nlm_in rfl | decide)
  refine lv_aload_n hx hb dX9_faulty_10 rfl (lv_at hl 0 rfl) ?_
  refine lv_iload hx hb dX9_faulty_11 (lv_at hl 4 rfl) ?_
  refine x_puti (jz := 43) hx hb hf9 ⟨tyX9_ok, nmX9⟩ hw hS (by first | exact Int.le_refl 0 | omega) (by first | exact zlt hc40 | omega) sl_40_43 rfl lk124 rfl (tyX9_ok 43 (by decide)) rfl rfl dX9_faulty_13 (fun H locs hw hS => ?_)
  obtain ⟨X3, hX3⟩ : ∃ Xq, Xq = u3 X2 40 0 43 cq := ⟨_, rfl⟩
  rw [← hX3] at hw
  have hRX3 : Rng X3 := by rw [hX3]; exact rng_set hRX2 (show (-2147483648) ≤ cq ∧ cq ≤ 2147483647 by omega)
  have hVX3 : X3 40 0 43 = cq := by rw [hX3]; exact u3_s _ _ _ _ _
  have hFX3 : Frm [4042, 4043, 4044] X X3 := by rw [hX3]; exact Frm.set hFX2 (show 4044 ∈ [4042, 4043, 4044] by first | exact nlm_in rfl | decide)
  refine lv_bipush (v := jI (-10)) hx hb dX9_faulty_16 (by decide) ?_
  refine lv_iload_n hx hb dX9_faulty_18 rfl (lv_at hl 1 rfl) ?_
  refine x_isub hx hb dX9_faulty_19 ?_
  rw [hQ9]
  refine ret_i (mc := 0) (ms := 0) hx hb hr hlocks hw hS (by first | exact Nat.le_of_ble_eq_true rfl | omega) (by first | exact Nat.le_of_ble_eq_true rfl | omega) dX9_faulty_20 ?_
  have q5 : Frm [4042, 4043, 4044] X X1 := by rw [hX1]; exact Frm.set Frm.rf (show 4042 ∈ [4042, 4043, 4044] by first | exact nlm_in rfl | decide)
  have q6 : Frm [4042, 4043, 4044] X X2 := by rw [hX2]; exact Frm.set q5 (show 4043 ∈ [4042, 4043, 4044] by first | exact nlm_in rfl | decide)
  have q7 : Frm [4042, 4043, 4044] X X3 := by rw [hX3]; exact Frm.set q6 (show 4044 ∈ [4042, 4043, 4044] by first | exact nlm_in rfl | decide)
  have hMq4 : MInv X3 := minv_frm hMI q7 (by decide)
  exact ⟨X3, rfl, hRX3, hFX3, hMq4, by omega⟩

set_option maxHeartbeats 4000000 in
set_option maxRecDepth 100000 in
theorem c_X9_cut (l : Launch) (D : va_G) (tc : Nat → ClassId) (base : Nat) (ad : Nat → Int → Nat) (cnt : Nat → Int) (X : Nat → Int → Int → Int) (Y : Nat → Int → Int → Option Int) (ln : Int → Int) (lane v : Int) (hlane : 0 ≤ lane ∧ lane ≤ 5) (hv : -9223372036854775808 ≤ v ∧ v ≤ 9223372036854775807) : KL l D tc base yX9_cut wsX9_cut ({ frames := 0, cells := 0, slots := 0, locals := 0 } : Room) [.int (jI lane), .long (jL v)] (ad, cnt, X, Y, ln) 0 0 (fun z u => u = (ad, cnt, X, Y, ln) ∧ (-9223372036854775808 ≤ z ∧ z ≤ 9223372036854775807) ∧ z = cutZ lane v) := by
  refine K_of (cc := cX9_cut) (maxL := 3) (ret := (some .long)) (by decide) rfl (Nat.le_of_ble_eq_true rfl) ?_
  intro p e s m below meth c ls hx hb hr hml hown hts hlocks hl hK hw hS
  have hown : s.vm.findClass RX9 = some m.cls := hown
  obtain ⟨av9, hav9⟩ : ∃ a9 : Array Value, a9 = ([.int (jI lane), .long (jL v)] : List Value).toArray := ⟨_, rfl⟩
  rw [← hav9] at hts ⊢
  obtain ⟨Q9, hQ9⟩ : ∃ q9Q : State → Prop, q9Q = MQ below (QL D tc base (fun z u => u = (ad, cnt, X, Y, ln) ∧ (-9223372036854775808 ≤ z ∧ z ≤ 9223372036854775807) ∧ z = cutZ lane v)) av9 s 0 0 (frA base) := ⟨_, rfl⟩
  rw [← hQ9]
  have hl : lv_has ls 3 [(0, .int (jI lane)), (1, .long (jL v))] := hl
  refine lv_iload_n hx hb dX9_cut_0 rfl (lv_at hl 0 rfl) ?_
  refine lv_iconst (v := jI 3) hx hb dX9_cut_1 rfl ?_
  refine x_icmp_ne (tgt := 12) hx hb (by omega) (by omega) dX9_cut_2 (by decide) (fun c1 => ?_) (fun c1 => ?_)
  · refine lv_iload_n hx hb dX9_cut_12 rfl (lv_at hl 0 rfl) ?_
    refine lv_iconst (v := jI 4) hx hb dX9_cut_13 rfl ?_
    refine x_icmp_ne (tgt := 23) hx hb (by omega) (by omega) dX9_cut_14 (by decide) (fun c2 => ?_) (fun c2 => ?_)
    · refine lv_lload_n hx hb dX9_cut_23 rfl (lv_at hl 1 rfl) ?_
      rw [hQ9]
      refine ret_l (mc := 0) (ms := 0) hx hb hr hlocks hw hS (by first | exact Nat.le_of_ble_eq_true rfl | omega) (by first | exact Nat.le_of_ble_eq_true rfl | omega) dX9_cut_24 ?_
      exact ⟨rfl, by omega, by first | (unfold cutZ; rw [if_pos (by omega)]; assumption) | (unfold cutZ; rw [if_neg (by omega), if_pos (by omega)]; assumption) | (unfold cutZ; rw [if_neg (by omega), if_neg (by omega)])⟩
    · refine lv_lload_n hx hb dX9_cut_17 rfl (lv_at hl 1 rfl) ?_
      refine x_l2i hx hb dX9_cut_18 ?_
      refine x_eqi (fun z3 hz3 ez3 => ?_)
      refine x_i2l hx hb (by omega) dX9_cut_19 ?_
      refine lv_goto (tgt := 24) hx hb dX9_cut_20 (by decide) ?_
      rw [hQ9]
      refine ret_l (mc := 0) (ms := 0) hx hb hr hlocks hw hS (by first | exact Nat.le_of_ble_eq_true rfl | omega) (by first | exact Nat.le_of_ble_eq_true rfl | omega) dX9_cut_24 ?_
      exact ⟨rfl, by omega, by first | (unfold cutZ; rw [if_pos (by omega)]; assumption) | (unfold cutZ; rw [if_neg (by omega), if_pos (by omega)]; assumption) | (unfold cutZ; rw [if_neg (by omega), if_neg (by omega)])⟩
  · refine lv_lload_n hx hb dX9_cut_5 rfl (lv_at hl 1 rfl) ?_
    refine x_l2i hx hb dX9_cut_6 ?_
    refine lv_i2b hx hb dX9_cut_7 rfl ?_
    refine x_eqi (fun z4 hz4 ez4 => ?_)
    refine x_i2l hx hb (by omega) dX9_cut_8 ?_
    refine lv_goto (tgt := 24) hx hb dX9_cut_9 (by decide) ?_
    rw [hQ9]
    refine ret_l (mc := 0) (ms := 0) hx hb hr hlocks hw hS (by first | exact Nat.le_of_ble_eq_true rfl | omega) (by first | exact Nat.le_of_ble_eq_true rfl | omega) dX9_cut_24 ?_
    exact ⟨rfl, by omega, by first | (unfold cutZ; rw [if_pos (by omega)]; assumption) | (unfold cutZ; rw [if_neg (by omega), if_pos (by omega)]; assumption) | (unfold cutZ; rw [if_neg (by omega), if_neg (by omega)])⟩

set_option maxHeartbeats 4000000 in
set_option maxRecDepth 100000 in
theorem c_X9_type (l : Launch) (D : va_G) (tc : Nat → ClassId) (base : Nat) (ad : Nat → Int → Nat) (cnt : Nat → Int) (X : Nat → Int → Int → Int) (Y : Nat → Int → Int → Option Int) (ln : Int → Int) (hR : Rng X) (hFx : Fx cnt) (hMI : MInv X)  : KI l D tc base yX9_type wsX9_type ({ frames := 0, cells := 0, slots := 0, locals := 0 } : Room) [.ref (ad 40 0)] (ad, cnt, X, Y, ln) 0 0 (fun z u => ∃ X1 : Nat → Int → Int → Int, u = (ad, cnt, X1, Y, ln) ∧ Rng X1 ∧ Frm [4001, 4400, 4900, 4003] X X1 ∧ MInv X1 ∧ (-2147483648 ≤ z ∧ z ≤ 2147483647) ∧ ((X 40 0 2 = 8 ∧ z = -4 ∧ X1 40 0 2 = 8) ∨ (X 40 0 2 < 8 ∧ z = X 40 0 2 ∧ X1 40 0 2 = X 40 0 2 + 1 ∧ X1 44 0 (X 40 0 2) = 0 ∧ X1 49 0 (X 40 0 2) = 0)) ∧ (∀ y, y ≠ X 40 0 2 → X1 44 0 y = X 44 0 y) ∧ ∀ y, y ≠ X 40 0 2 → X1 49 0 y = X 49 0 y) := by
  refine K_of (cc := cX9_type) (maxL := 1) (ret := (some .int)) (by decide) rfl (Nat.le_of_ble_eq_true rfl) ?_
  intro p e s m below meth c ls hx hb hr hml hown hts hlocks hl hK hw hS
  have hown : s.vm.findClass RX9 = some m.cls := hown
  obtain ⟨av9, hav9⟩ : ∃ a9 : Array Value, a9 = ([.ref (ad 40 0)] : List Value).toArray := ⟨_, rfl⟩
  rw [← hav9] at hts ⊢
  obtain ⟨Q9, hQ9⟩ : ∃ q9Q : State → Prop, q9Q = MQ below (QI D tc base (fun z u => ∃ X1 : Nat → Int → Int → Int, u = (ad, cnt, X1, Y, ln) ∧ Rng X1 ∧ Frm [4001, 4400, 4900, 4003] X X1 ∧ MInv X1 ∧ (-2147483648 ≤ z ∧ z ≤ 2147483647) ∧ ((X 40 0 2 = 8 ∧ z = -4 ∧ X1 40 0 2 = 8) ∨ (X 40 0 2 < 8 ∧ z = X 40 0 2 ∧ X1 40 0 2 = X 40 0 2 + 1 ∧ X1 44 0 (X 40 0 2) = 0 ∧ X1 49 0 (X 40 0 2) = 0)) ∧ (∀ y, y ≠ X 40 0 2 → X1 44 0 y = X 44 0 y) ∧ ∀ y, y ≠ X 40 0 2 → X1 49 0 y = X 49 0 y)) av9 s 0 0 (frA base) := ⟨_, rfl⟩
  rw [← hQ9]
  have hi9 : ∀ w ∈ wsX90, w ∈ wsX9_type := fun w h => List.mem_cons_of_mem _ (List.mem_append_right _ h)
  have hf9 : fctx s m _ RX9 wsX9_type D tc RX9 TX9 51 9 := ⟨hts, hi9, hown, hK.1, rfl⟩
  have lk13 := hts (.fieldLink RX9 13 (TX9 3).1 (TX9 3).2.1 (TX9 3).2.2.1) (gj_X9_type_0 _ (gp_1 (gp_1 gp_h)))
  have lk30 := hts (.fieldLink RX9 30 (TX9 8).1 (TX9 8).2.1 (TX9 8).2.2.1) (gj_X9_type_0 _ (gp_1 (gp_1 (gp_1 gp_h))))
  have lk145 := hts (.fieldLink RX9 145 (TX9 0).1 (TX9 0).2.1 (TX9 0).2.2.1) (gj_X9_type_0 _ (gp_h))
  have lk148 := hts (.fieldLink RX9 148 (TX9 2).1 (TX9 2).2.1 (TX9 2).2.2.1) (gj_X9_type_0 _ (gp_1 gp_h))
  have hc40 : cnt 40 = 1 := hFx.at 40 1 (by decide)
  have hc44 : cnt 44 = 1 := hFx.at 44 1 (by decide)
  have hc49 : cnt 49 = 1 := hFx.at 49 1 (by decide)
  have hl : lv_has ls 1 [(0, .ref (ad 40 0))] := hl
  have fstypes : 0 ≤ X 40 0 2 ∧ X 40 0 2 ≤ 8 := hR 40 0 2
  have fsthings : 0 ≤ X 40 0 13 ∧ X 40 0 13 ≤ 30 := hR 40 0 13
  have fsmarks : 0 ≤ X 40 0 20 ∧ X 40 0 20 ≤ 4 := hR 40 0 20
  have fsnotes : 0 ≤ X 40 0 22 ∧ X 40 0 22 ≤ 80 := hR 40 0 22
  refine lv_aload_n hx hb dX9_type_0 rfl (lv_at hl 0 rfl) ?_
  refine lv_iconst (v := jI 0) hx hb dX9_type_1 rfl ?_
  refine x_puti (jz := 0) hx hb hf9 ⟨tyX9_ok, nmX9⟩ hw hS (by first | exact Int.le_refl 0 | omega) (by first | exact zlt hc40 | omega) sl_40_0 rfl lk145 rfl (tyX9_ok 0 (by decide)) rfl rfl dX9_type_2 (fun H locs hw hS => ?_)
  obtain ⟨X1, hX1⟩ : ∃ Xq, Xq = u3 X 40 0 0 0 := ⟨_, rfl⟩
  rw [← hX1] at hw
  have hRX1 : Rng X1 := by rw [hX1]; exact rng_set hR (show (-2147483648) ≤ 0 ∧ 0 ≤ 2147483647 by omega)
  have hVX1 : X1 40 0 0 = 0 := by rw [hX1]; exact u3_s _ _ _ _ _
  have hFX1 : Frm [4001, 4400, 4900, 4003] X X1 := by rw [hX1]; exact Frm.set Frm.rf (show 4001 ∈ [4001, 4400, 4900, 4003] by first | exact nlm_in rfl | decide)
  refine lv_aload_n hx hb dX9_type_5 rfl (lv_at hl 0 rfl) ?_
  refine x_geti (jz := 2) hx hb hf9 hw (by first | exact Int.le_refl 0 | omega) (by first | exact zlt hc40 | omega) sl_40_2 rfl lk148 dX9_type_6 ?_
  have e2 : X1 40 0 2 = X 40 0 2 := by rw [hX1, u3_j _ _ _ _ (by decide)]
  rw [e2]
  have f3 : 0 ≤ X 40 0 2 ∧ X 40 0 2 ≤ 8 := hR 40 0 2
  refine lv_bipush (v := jI 8) hx hb dX9_type_9 (by decide) ?_
  refine x_icmp_ne (tgt := 17) hx hb (by omega) (by omega) dX9_type_11 (by decide) (fun c4 => ?_) (fun c4 => ?_)
  · refine lv_aload_n hx hb dX9_type_17 rfl (lv_at hl 0 rfl) ?_
    refine x_geto hx hb hf9 hw (by first | exact Int.le_refl 0 | omega) (by first | exact zlt hc40 | omega) sl_40_3 lk13 dX9_type_18 ?_
    refine lv_aload_n hx hb dX9_type_21 rfl (lv_at hl 0 rfl) ?_
    refine x_geti (jz := 2) hx hb hf9 hw (by first | exact Int.le_refl 0 | omega) (by first | exact zlt hc40 | omega) sl_40_2 rfl lk148 dX9_type_22 ?_
    have e5 : X1 40 0 2 = X 40 0 2 := by rw [hX1, u3_j _ _ _ _ (by decide)]
    rw [e5]
    have f6 : 0 ≤ X 40 0 2 ∧ X 40 0 2 ≤ 8 := hR 40 0 2
    refine lv_iconst (v := jI 0) hx hb dX9_type_25 rfl ?_
    refine x_iast hx hb hK.1 hw hS (by first | exact Int.le_refl 0 | omega) (by first | exact zlt hc44 | omega) ar_44 (len_E ar_44 (by first | exact Nat.ne_of_beq_eq_false rfl | decide)) (by omega) (by omega) (by omega) dX9_type_26 (fun H locs hw hS => ?_)
    obtain ⟨X7, hX7⟩ : ∃ Xq, Xq = u3 X1 44 0 (X 40 0 2) 0 := ⟨_, rfl⟩
    rw [← hX7] at hw
    have hRX7 : Rng X7 := by rw [hX7]; exact rng_set hRX1 (show 0 ≤ 0 ∧ 0 ≤ 5 by omega)
    have hVX7 : X7 44 0 (X 40 0 2) = 0 := by rw [hX7]; exact u3_s _ _ _ _ _
    have hFX7 : Frm [4001, 4400, 4900, 4003] X X7 := by rw [hX7]; exact Frm.set hFX1 (show 4400 ∈ [4001, 4400, 4900, 4003] by first | exact nlm_in rfl | decide)
    refine lv_aload_n hx hb dX9_type_27 rfl (lv_at hl 0 rfl) ?_
    refine x_geto hx hb hf9 hw (by first | exact Int.le_refl 0 | omega) (by first | exact zlt hc40 | omega) sl_40_8 lk30 dX9_type_28 ?_
    refine lv_aload_n hx hb dX9_type_31 rfl (lv_at hl 0 rfl) ?_
    refine x_geti (jz := 2) hx hb hf9 hw (by first | exact Int.le_refl 0 | omega) (by first | exact zlt hc40 | omega) sl_40_2 rfl lk148 dX9_type_32 ?_
    have e8 : X7 40 0 2 = X 40 0 2 := by rw [hX7, u3_k _ _ _ _ (by first | exact Nat.ne_of_beq_eq_false rfl | decide), hX1, u3_j _ _ _ _ (by decide)]
    rw [e8]
    have f9 : 0 ≤ X 40 0 2 ∧ X 40 0 2 ≤ 8 := hR 40 0 2
    refine lv_iconst (v := jI 0) hx hb dX9_type_35 rfl ?_
    refine x_iast hx hb hK.1 hw hS (by first | exact Int.le_refl 0 | omega) (by first | exact zlt hc49 | omega) ar_49 (len_E ar_49 (by first | exact Nat.ne_of_beq_eq_false rfl | decide)) (by omega) (by omega) (by omega) dX9_type_36 (fun H locs hw hS => ?_)
    obtain ⟨X10, hX10⟩ : ∃ Xq, Xq = u3 X7 49 0 (X 40 0 2) 0 := ⟨_, rfl⟩
    rw [← hX10] at hw
    have hRX10 : Rng X10 := by rw [hX10]; exact rng_set hRX7 (show 0 ≤ 0 ∧ 0 ≤ 4 by omega)
    have hVX10 : X10 49 0 (X 40 0 2) = 0 := by rw [hX10]; exact u3_s _ _ _ _ _
    have hFX10 : Frm [4001, 4400, 4900, 4003] X X10 := by rw [hX10]; exact Frm.set hFX7 (show 4900 ∈ [4001, 4400, 4900, 4003] by first | exact nlm_in rfl | decide)
    refine lv_aload_n hx hb dX9_type_37 rfl (lv_at hl 0 rfl) ?_
    refine lv_dup hx hb dX9_type_38 rfl ?_
    refine x_geti (jz := 2) hx hb hf9 hw (by first | exact Int.le_refl 0 | omega) (by first | exact zlt hc40 | omega) sl_40_2 rfl lk148 dX9_type_39 ?_
    have e11 : X10 40 0 2 = X 40 0 2 := by rw [hX10, u3_k _ _ _ _ (by first | exact Nat.ne_of_beq_eq_false rfl | decide), hX7, u3_k _ _ _ _ (by first | exact Nat.ne_of_beq_eq_false rfl | decide), hX1, u3_j _ _ _ _ (by decide)]
    rw [e11]
    have f12 : 0 ≤ X 40 0 2 ∧ X 40 0 2 ≤ 8 := hR 40 0 2
    refine lv_iconst (v := jI 1) hx hb dX9_type_42 rfl ?_
    refine x_iadd hx hb dX9_type_43 ?_
    refine x_puti (jz := 2) hx hb hf9 ⟨tyX9_ok, nmX9⟩ hw hS (by first | exact Int.le_refl 0 | omega) (by first | exact zlt hc40 | omega) sl_40_2 rfl lk148 rfl (tyX9_ok 2 (by decide)) rfl rfl dX9_type_44 (fun H locs hw hS => ?_)
    obtain ⟨X13, hX13⟩ : ∃ Xq, Xq = u3 X10 40 0 2 ((X 40 0 2) + 1) := ⟨_, rfl⟩
    rw [← hX13] at hw
    have hRX13 : Rng X13 := by rw [hX13]; exact rng_set hRX10 (show 0 ≤ ((X 40 0 2) + 1) ∧ ((X 40 0 2) + 1) ≤ 8 by omega)
    have hVX13 : X13 40 0 2 = ((X 40 0 2) + 1) := by rw [hX13]; exact u3_s _ _ _ _ _
    have hFX13 : Frm [4001, 4400, 4900, 4003] X X13 := by rw [hX13]; exact Frm.set hFX10 (show 4003 ∈ [4001, 4400, 4900, 4003] by first | exact nlm_in rfl | decide)
    refine lv_aload_n hx hb dX9_type_47 rfl (lv_at hl 0 rfl) ?_
    refine x_geti (jz := 2) hx hb hf9 hw (by first | exact Int.le_refl 0 | omega) (by first | exact zlt hc40 | omega) sl_40_2 rfl lk148 dX9_type_48 ?_
    rw [hVX13]
    refine lv_iconst (v := jI 1) hx hb dX9_type_51 rfl ?_
    refine x_isub hx hb dX9_type_52 ?_
    rw [hQ9]
    refine ret_i (mc := 0) (ms := 0) hx hb hr hlocks hw hS (by first | exact Nat.le_of_ble_eq_true rfl | omega) (by first | exact Nat.le_of_ble_eq_true rfl | omega) dX9_type_53 ?_
    have e14 : X13 40 0 2 = ((X 40 0 2) + 1) := (by exact hVX13)
    have e15 : X13 44 0 (X 40 0 2) = 0 := (by rw [hX13, u3_k _ _ _ _ (by first | exact Nat.ne_of_beq_eq_false rfl | decide), hX10, u3_k _ _ _ _ (by first | exact Nat.ne_of_beq_eq_false rfl | decide)]; exact hVX7)
    have e16 : X13 49 0 (X 40 0 2) = 0 := (by rw [hX13, u3_k _ _ _ _ (by first | exact Nat.ne_of_beq_eq_false rfl | decide)]; exact hVX10)
    refine ⟨X13, rfl, hRX13, hFX13, ?g9p46, ?g9p47, ?g9p48, ?g9p49, ?g9p50⟩
    case g9p46 => exact minv_type hMI hR hFX13 (fun j hj => (by rw [hX13, u3_k _ _ _ _ (by first | exact Nat.ne_of_beq_eq_false rfl | decide), hX10, u3_k _ _ _ _ (by first | exact Nat.ne_of_beq_eq_false rfl | decide), hX7, u3_j _ _ _ _ hj, hX1, u3_k _ _ _ _ (by first | exact Nat.ne_of_beq_eq_false rfl | decide)])) (by rw [hX13, u3_k _ _ _ _ (by first | exact Nat.ne_of_beq_eq_false rfl | decide), hX10, u3_k _ _ _ _ (by first | exact Nat.ne_of_beq_eq_false rfl | decide)]; exact hVX7) hVX13
    case g9p47 => omega
    case g9p48 => omega
    case g9p49 => exact fun y hy => (by rw [hX13, u3_k _ _ _ _ (by first | exact Nat.ne_of_beq_eq_false rfl | decide), hX10, u3_k _ _ _ _ (by first | exact Nat.ne_of_beq_eq_false rfl | decide), hX7, u3_j _ _ _ _ hy, hX1, u3_k _ _ _ _ (by first | exact Nat.ne_of_beq_eq_false rfl | decide)])
    case g9p50 => exact fun y hy => (by rw [hX13, u3_k _ _ _ _ (by first | exact Nat.ne_of_beq_eq_false rfl | decide), hX10, u3_j _ _ _ _ hy, hX7, u3_k _ _ _ _ (by first | exact Nat.ne_of_beq_eq_false rfl | decide), hX1, u3_k _ _ _ _ (by first | exact Nat.ne_of_beq_eq_false rfl | decide)])
  · refine lv_bipush (v := jI (-4)) hx hb dX9_type_14 (by decide) ?_
    rw [hQ9]
    refine ret_i (mc := 0) (ms := 0) hx hb hr hlocks hw hS (by first | exact Nat.le_of_ble_eq_true rfl | omega) (by first | exact Nat.le_of_ble_eq_true rfl | omega) dX9_type_16 ?_
    have q18 : Frm [4001] X X1 := by rw [hX1]; exact Frm.set Frm.rf (show 4001 ∈ [4001] by first | exact nlm_in rfl | decide)
    have hMq17 : MInv X1 := minv_frm hMI q18 (by decide)
    have e19 : X1 40 0 2 = X 40 0 2 := (by rw [hX1, u3_j _ _ _ _ (by decide)])
    exact ⟨X1, rfl, hRX1, hFX1, hMq17, by omega, by omega, fun y hy => (by rw [hX1, u3_k _ _ _ _ (by first | exact Nat.ne_of_beq_eq_false rfl | decide)]), fun y hy => (by rw [hX1, u3_k _ _ _ _ (by first | exact Nat.ne_of_beq_eq_false rfl | decide)])⟩

set_option maxHeartbeats 4000000 in
set_option maxRecDepth 100000 in
theorem c_X9_forget (l : Launch) (D : va_G) (tc : Nat → ClassId) (base : Nat) (ad : Nat → Int → Nat) (cnt : Nat → Int) (X : Nat → Int → Int → Int) (Y : Nat → Int → Int → Option Int) (ln : Int → Int) (hR : Rng X) (hFx : Fx cnt) (hMI : MInv X)  : KI l D tc base yX9_forget wsX9_forget ({ frames := 0, cells := 0, slots := 0, locals := 0 } : Room) [.ref (ad 40 0)] (ad, cnt, X, Y, ln) 0 0 (fun z u => ∃ X1 : Nat → Int → Int → Int, u = (ad, cnt, X1, Y, ln) ∧ Rng X1 ∧ Frm [4001, 4014] X X1 ∧ MInv X1 ∧ (-2147483648 ≤ z ∧ z ≤ 2147483647) ∧ ((0 < X 40 0 20 ∧ z = -3 ∧ X1 40 0 13 = X 40 0 13) ∨ (X 40 0 20 = 0 ∧ z = X 40 0 13 ∧ X1 40 0 13 = 0))) := by
  refine K_of (cc := cX9_forget) (maxL := 2) (ret := (some .int)) (by decide) rfl (Nat.le_of_ble_eq_true rfl) ?_
  intro p e s m below meth c ls hx hb hr hml hown hts hlocks hl hK hw hS
  have hown : s.vm.findClass RX9 = some m.cls := hown
  obtain ⟨av9, hav9⟩ : ∃ a9 : Array Value, a9 = ([.ref (ad 40 0)] : List Value).toArray := ⟨_, rfl⟩
  rw [← hav9] at hts ⊢
  obtain ⟨Q9, hQ9⟩ : ∃ q9Q : State → Prop, q9Q = MQ below (QI D tc base (fun z u => ∃ X1 : Nat → Int → Int → Int, u = (ad, cnt, X1, Y, ln) ∧ Rng X1 ∧ Frm [4001, 4014] X X1 ∧ MInv X1 ∧ (-2147483648 ≤ z ∧ z ≤ 2147483647) ∧ ((0 < X 40 0 20 ∧ z = -3 ∧ X1 40 0 13 = X 40 0 13) ∨ (X 40 0 20 = 0 ∧ z = X 40 0 13 ∧ X1 40 0 13 = 0)))) av9 s 0 0 (frA base) := ⟨_, rfl⟩
  rw [← hQ9]
  have hi9 : ∀ w ∈ wsX90, w ∈ wsX9_forget := fun w h => List.mem_cons_of_mem _ (List.mem_append_right _ h)
  have hf9 : fctx s m _ RX9 wsX9_forget D tc RX9 TX9 51 9 := ⟨hts, hi9, hown, hK.1, rfl⟩
  have lk145 := hts (.fieldLink RX9 145 (TX9 0).1 (TX9 0).2.1 (TX9 0).2.2.1) (gj_X9_forget_0 _ (gp_h))
  have lk151 := hts (.fieldLink RX9 151 (TX9 13).1 (TX9 13).2.1 (TX9 13).2.2.1) (gj_X9_forget_0 _ (gp_1 (gp_1 gp_h)))
  have lk165 := hts (.fieldLink RX9 165 (TX9 20).1 (TX9 20).2.1 (TX9 20).2.2.1) (gj_X9_forget_0 _ (gp_1 gp_h))
  have hc40 : cnt 40 = 1 := hFx.at 40 1 (by decide)
  have hl : lv_has ls 2 [(0, .ref (ad 40 0))] := hl
  have fstypes : 0 ≤ X 40 0 2 ∧ X 40 0 2 ≤ 8 := hR 40 0 2
  have fsthings : 0 ≤ X 40 0 13 ∧ X 40 0 13 ≤ 30 := hR 40 0 13
  have fsmarks : 0 ≤ X 40 0 20 ∧ X 40 0 20 ≤ 4 := hR 40 0 20
  have fsnotes : 0 ≤ X 40 0 22 ∧ X 40 0 22 ≤ 80 := hR 40 0 22
  refine lv_aload_n hx hb dX9_forget_0 rfl (lv_at hl 0 rfl) ?_
  refine lv_iconst (v := jI 0) hx hb dX9_forget_1 rfl ?_
  refine x_puti (jz := 0) hx hb hf9 ⟨tyX9_ok, nmX9⟩ hw hS (by first | exact Int.le_refl 0 | omega) (by first | exact zlt hc40 | omega) sl_40_0 rfl lk145 rfl (tyX9_ok 0 (by decide)) rfl rfl dX9_forget_2 (fun H locs hw hS => ?_)
  obtain ⟨X1, hX1⟩ : ∃ Xq, Xq = u3 X 40 0 0 0 := ⟨_, rfl⟩
  rw [← hX1] at hw
  have hRX1 : Rng X1 := by rw [hX1]; exact rng_set hR (show (-2147483648) ≤ 0 ∧ 0 ≤ 2147483647 by omega)
  have hVX1 : X1 40 0 0 = 0 := by rw [hX1]; exact u3_s _ _ _ _ _
  have hFX1 : Frm [4001, 4014] X X1 := by rw [hX1]; exact Frm.set Frm.rf (show 4001 ∈ [4001, 4014] by first | exact nlm_in rfl | decide)
  refine lv_aload_n hx hb dX9_forget_5 rfl (lv_at hl 0 rfl) ?_
  refine x_geti (jz := 20) hx hb hf9 hw (by first | exact Int.le_refl 0 | omega) (by first | exact zlt hc40 | omega) sl_40_20 rfl lk165 dX9_forget_6 ?_
  have e2 : X1 40 0 20 = X 40 0 20 := by rw [hX1, u3_j _ _ _ _ (by decide)]
  rw [e2]
  have f3 : 0 ≤ X 40 0 20 ∧ X 40 0 20 ≤ 4 := hR 40 0 20
  refine x_if_le (tgt := 15) hx hb (by omega) dX9_forget_9 (by decide) (fun c4 => ?_) (fun c4 => ?_)
  · refine lv_aload_n hx hb dX9_forget_15 rfl (lv_at hl 0 rfl) ?_
    refine x_geti (jz := 13) hx hb hf9 hw (by first | exact Int.le_refl 0 | omega) (by first | exact zlt hc40 | omega) sl_40_13 rfl lk151 dX9_forget_16 ?_
    have e5 : X1 40 0 13 = X 40 0 13 := by rw [hX1, u3_j _ _ _ _ (by decide)]
    rw [e5]
    have f6 : 0 ≤ X 40 0 13 ∧ X 40 0 13 ≤ 30 := hR 40 0 13
    refine lv_istore_n (lv' := [(1, .int (jI (X 40 0 13))), (0, .ref (ad 40 0))]) hx hb dX9_forget_19 rfl hl (by decide) rfl (fun ls hl => ?_)
    refine lv_aload_n hx hb dX9_forget_20 rfl (lv_at hl 1 rfl) ?_
    refine lv_iconst (v := jI 0) hx hb dX9_forget_21 rfl ?_
    refine x_puti (jz := 13) hx hb hf9 ⟨tyX9_ok, nmX9⟩ hw hS (by first | exact Int.le_refl 0 | omega) (by first | exact zlt hc40 | omega) sl_40_13 rfl lk151 rfl (tyX9_ok 13 (by decide)) rfl rfl dX9_forget_22 (fun H locs hw hS => ?_)
    obtain ⟨X7, hX7⟩ : ∃ Xq, Xq = u3 X1 40 0 13 0 := ⟨_, rfl⟩
    rw [← hX7] at hw
    have hRX7 : Rng X7 := by rw [hX7]; exact rng_set hRX1 (show 0 ≤ 0 ∧ 0 ≤ 30 by omega)
    have hVX7 : X7 40 0 13 = 0 := by rw [hX7]; exact u3_s _ _ _ _ _
    have hFX7 : Frm [4001, 4014] X X7 := by rw [hX7]; exact Frm.set hFX1 (show 4014 ∈ [4001, 4014] by first | exact nlm_in rfl | decide)
    refine lv_iload_n hx hb dX9_forget_25 rfl (lv_at hl 0 rfl) ?_
    rw [hQ9]
    refine ret_i (mc := 0) (ms := 0) hx hb hr hlocks hw hS (by first | exact Nat.le_of_ble_eq_true rfl | omega) (by first | exact Nat.le_of_ble_eq_true rfl | omega) dX9_forget_26 ?_
    have e8 : X7 40 0 13 = 0 := (by exact hVX7)
    exact ⟨X7, rfl, hRX7, hFX7, minv_forget hMI (by omega) hFX7 hVX7, by omega, (by (try delta Hid at *); first | exact Or.inr (⟨by omega, by omega, by omega⟩) | exact Or.inl ⟨by omega, by omega, by omega⟩)⟩
  · refine lv_bipush (v := jI (-3)) hx hb dX9_forget_12 (by decide) ?_
    rw [hQ9]
    refine ret_i (mc := 0) (ms := 0) hx hb hr hlocks hw hS (by first | exact Nat.le_of_ble_eq_true rfl | omega) (by first | exact Nat.le_of_ble_eq_true rfl | omega) dX9_forget_14 ?_
    have q10 : Frm [4001] X X1 := by rw [hX1]; exact Frm.set Frm.rf (show 4001 ∈ [4001] by first | exact nlm_in rfl | decide)
    have hMq9 : MInv X1 := minv_frm hMI q10 (by decide)
    have e11 : X1 40 0 13 = X 40 0 13 := (by rw [hX1, u3_j _ _ _ _ (by decide)])
    exact ⟨X1, rfl, hRX1, hFX1, hMq9, by omega, (by (try delta Hid at *); first | exact Or.inl ⟨by omega, by omega, by omega⟩ | exact Or.inr (⟨by omega, by omega, by omega⟩))⟩

set_option maxHeartbeats 4000000 in
set_option maxRecDepth 100000 in
theorem c_X9_mark (l : Launch) (D : va_G) (tc : Nat → ClassId) (base : Nat) (ad : Nat → Int → Nat) (cnt : Nat → Int) (X : Nat → Int → Int → Int) (Y : Nat → Int → Int → Option Int) (ln : Int → Int) (hR : Rng X) (hFx : Fx cnt) (hMI : MInv X)  : KI l D tc base yX9_mark wsX9_mark ({ frames := 0, cells := 0, slots := 0, locals := 0 } : Room) [.ref (ad 40 0)] (ad, cnt, X, Y, ln) 0 0 (fun z u => ∃ X1 : Nat → Int → Int → Int, u = (ad, cnt, X1, Y, ln) ∧ Rng X1 ∧ Frm [4001, 6200, 4021] X X1 ∧ MInv X1 ∧ (-2147483648 ≤ z ∧ z ≤ 2147483647) ∧ ((X 40 0 20 = 4 ∧ z = -4 ∧ X1 40 0 20 = X 40 0 20) ∨ (X 40 0 20 < 4 ∧ z = X 40 0 20 + 1 ∧ X1 40 0 20 = X 40 0 20 + 1)) ∧ (0 ≤ z → X1 62 0 (X 40 0 20) = X 40 0 22) ∧ (∀ j, j ≠ X 40 0 20 → X1 62 0 j = X 62 0 j) ∧ (z < 0 → Frm [4001] X X1)) := by
  refine K_of (cc := cX9_mark) (maxL := 1) (ret := (some .int)) (by decide) rfl (Nat.le_of_ble_eq_true rfl) ?_
  intro p e s m below meth c ls hx hb hr hml hown hts hlocks hl hK hw hS
  have hown : s.vm.findClass RX9 = some m.cls := hown
  obtain ⟨av9, hav9⟩ : ∃ a9 : Array Value, a9 = ([.ref (ad 40 0)] : List Value).toArray := ⟨_, rfl⟩
  rw [← hav9] at hts ⊢
  obtain ⟨Q9, hQ9⟩ : ∃ q9Q : State → Prop, q9Q = MQ below (QI D tc base (fun z u => ∃ X1 : Nat → Int → Int → Int, u = (ad, cnt, X1, Y, ln) ∧ Rng X1 ∧ Frm [4001, 6200, 4021] X X1 ∧ MInv X1 ∧ (-2147483648 ≤ z ∧ z ≤ 2147483647) ∧ ((X 40 0 20 = 4 ∧ z = -4 ∧ X1 40 0 20 = X 40 0 20) ∨ (X 40 0 20 < 4 ∧ z = X 40 0 20 + 1 ∧ X1 40 0 20 = X 40 0 20 + 1)) ∧ (0 ≤ z → X1 62 0 (X 40 0 20) = X 40 0 22) ∧ (∀ j, j ≠ X 40 0 20 → X1 62 0 j = X 62 0 j) ∧ (z < 0 → Frm [4001] X X1))) av9 s 0 0 (frA base) := ⟨_, rfl⟩
  rw [← hQ9]
  have hi9 : ∀ w ∈ wsX90, w ∈ wsX9_mark := fun w h => List.mem_cons_of_mem _ (List.mem_append_right _ h)
  have hf9 : fctx s m _ RX9 wsX9_mark D tc RX9 TX9 51 9 := ⟨hts, hi9, hown, hK.1, rfl⟩
  have lk63 := hts (.fieldLink RX9 63 (TX9 21).1 (TX9 21).2.1 (TX9 21).2.2.1) (gj_X9_mark_0 _ (gp_1 (gp_1 gp_h)))
  have lk145 := hts (.fieldLink RX9 145 (TX9 0).1 (TX9 0).2.1 (TX9 0).2.2.1) (gj_X9_mark_0 _ (gp_h))
  have lk165 := hts (.fieldLink RX9 165 (TX9 20).1 (TX9 20).2.1 (TX9 20).2.2.1) (gj_X9_mark_0 _ (gp_1 gp_h))
  have lk173 := hts (.fieldLink RX9 173 (TX9 22).1 (TX9 22).2.1 (TX9 22).2.2.1) (gj_X9_mark_0 _ (gp_1 (gp_1 (gp_1 gp_h))))
  have hc40 : cnt 40 = 1 := hFx.at 40 1 (by decide)
  have hc62 : cnt 62 = 1 := hFx.at 62 1 (by decide)
  have hl : lv_has ls 1 [(0, .ref (ad 40 0))] := hl
  have fstypes : 0 ≤ X 40 0 2 ∧ X 40 0 2 ≤ 8 := hR 40 0 2
  have fsthings : 0 ≤ X 40 0 13 ∧ X 40 0 13 ≤ 30 := hR 40 0 13
  have fsmarks : 0 ≤ X 40 0 20 ∧ X 40 0 20 ≤ 4 := hR 40 0 20
  have fsnotes : 0 ≤ X 40 0 22 ∧ X 40 0 22 ≤ 80 := hR 40 0 22
  refine lv_aload_n hx hb dX9_mark_0 rfl (lv_at hl 0 rfl) ?_
  refine lv_iconst (v := jI 0) hx hb dX9_mark_1 rfl ?_
  refine x_puti (jz := 0) hx hb hf9 ⟨tyX9_ok, nmX9⟩ hw hS (by first | exact Int.le_refl 0 | omega) (by first | exact zlt hc40 | omega) sl_40_0 rfl lk145 rfl (tyX9_ok 0 (by decide)) rfl rfl dX9_mark_2 (fun H locs hw hS => ?_)
  obtain ⟨X1, hX1⟩ : ∃ Xq, Xq = u3 X 40 0 0 0 := ⟨_, rfl⟩
  rw [← hX1] at hw
  have hRX1 : Rng X1 := by rw [hX1]; exact rng_set hR (show (-2147483648) ≤ 0 ∧ 0 ≤ 2147483647 by omega)
  have hVX1 : X1 40 0 0 = 0 := by rw [hX1]; exact u3_s _ _ _ _ _
  have hFX1 : Frm [4001, 6200, 4021] X X1 := by rw [hX1]; exact Frm.set Frm.rf (show 4001 ∈ [4001, 6200, 4021] by first | exact nlm_in rfl | decide)
  refine lv_aload_n hx hb dX9_mark_5 rfl (lv_at hl 0 rfl) ?_
  refine x_geti (jz := 20) hx hb hf9 hw (by first | exact Int.le_refl 0 | omega) (by first | exact zlt hc40 | omega) sl_40_20 rfl lk165 dX9_mark_6 ?_
  have e2 : X1 40 0 20 = X 40 0 20 := by rw [hX1, u3_j _ _ _ _ (by decide)]
  rw [e2]
  have f3 : 0 ≤ X 40 0 20 ∧ X 40 0 20 ≤ 4 := hR 40 0 20
  refine lv_iconst (v := jI 4) hx hb dX9_mark_9 rfl ?_
  refine x_icmp_ne (tgt := 16) hx hb (by omega) (by omega) dX9_mark_10 (by decide) (fun c4 => ?_) (fun c4 => ?_)
  · refine lv_aload_n hx hb dX9_mark_16 rfl (lv_at hl 0 rfl) ?_
    refine x_geto hx hb hf9 hw (by first | exact Int.le_refl 0 | omega) (by first | exact zlt hc40 | omega) sl_40_21 lk63 dX9_mark_17 ?_
    refine lv_aload_n hx hb dX9_mark_20 rfl (lv_at hl 0 rfl) ?_
    refine x_geti (jz := 20) hx hb hf9 hw (by first | exact Int.le_refl 0 | omega) (by first | exact zlt hc40 | omega) sl_40_20 rfl lk165 dX9_mark_21 ?_
    have e5 : X1 40 0 20 = X 40 0 20 := by rw [hX1, u3_j _ _ _ _ (by decide)]
    rw [e5]
    have f6 : 0 ≤ X 40 0 20 ∧ X 40 0 20 ≤ 4 := hR 40 0 20
    refine lv_aload_n hx hb dX9_mark_24 rfl (lv_at hl 0 rfl) ?_
    refine x_geti (jz := 22) hx hb hf9 hw (by first | exact Int.le_refl 0 | omega) (by first | exact zlt hc40 | omega) sl_40_22 rfl lk173 dX9_mark_25 ?_
    have e7 : X1 40 0 22 = X 40 0 22 := by rw [hX1, u3_j _ _ _ _ (by decide)]
    rw [e7]
    have f8 : 0 ≤ X 40 0 22 ∧ X 40 0 22 ≤ 80 := hR 40 0 22
    refine x_iast hx hb hK.1 hw hS (by first | exact Int.le_refl 0 | omega) (by first | exact zlt hc62 | omega) ar_62 (len_E ar_62 (by first | exact Nat.ne_of_beq_eq_false rfl | decide)) (by omega) (by omega) (by omega) dX9_mark_28 (fun H locs hw hS => ?_)
    obtain ⟨X9, hX9⟩ : ∃ Xq, Xq = u3 X1 62 0 (X 40 0 20) (X 40 0 22) := ⟨_, rfl⟩
    rw [← hX9] at hw
    have hRX9 : Rng X9 := by rw [hX9]; exact rng_set hRX1 (show 0 ≤ (X 40 0 22) ∧ (X 40 0 22) ≤ 80 by omega)
    have hVX9 : X9 62 0 (X 40 0 20) = (X 40 0 22) := by rw [hX9]; exact u3_s _ _ _ _ _
    have hFX9 : Frm [4001, 6200, 4021] X X9 := by rw [hX9]; exact Frm.set hFX1 (show 6200 ∈ [4001, 6200, 4021] by first | exact nlm_in rfl | decide)
    refine lv_aload_n hx hb dX9_mark_29 rfl (lv_at hl 0 rfl) ?_
    refine lv_dup hx hb dX9_mark_30 rfl ?_
    refine x_geti (jz := 20) hx hb hf9 hw (by first | exact Int.le_refl 0 | omega) (by first | exact zlt hc40 | omega) sl_40_20 rfl lk165 dX9_mark_31 ?_
    have e10 : X9 40 0 20 = X 40 0 20 := by rw [hX9, u3_k _ _ _ _ (by first | exact Nat.ne_of_beq_eq_false rfl | decide), hX1, u3_j _ _ _ _ (by decide)]
    rw [e10]
    have f11 : 0 ≤ X 40 0 20 ∧ X 40 0 20 ≤ 4 := hR 40 0 20
    refine lv_iconst (v := jI 1) hx hb dX9_mark_34 rfl ?_
    refine x_iadd hx hb dX9_mark_35 ?_
    refine x_puti (jz := 20) hx hb hf9 ⟨tyX9_ok, nmX9⟩ hw hS (by first | exact Int.le_refl 0 | omega) (by first | exact zlt hc40 | omega) sl_40_20 rfl lk165 rfl (tyX9_ok 20 (by decide)) rfl rfl dX9_mark_36 (fun H locs hw hS => ?_)
    obtain ⟨X12, hX12⟩ : ∃ Xq, Xq = u3 X9 40 0 20 ((X 40 0 20) + 1) := ⟨_, rfl⟩
    rw [← hX12] at hw
    have hRX12 : Rng X12 := by rw [hX12]; exact rng_set hRX9 (show 0 ≤ ((X 40 0 20) + 1) ∧ ((X 40 0 20) + 1) ≤ 4 by omega)
    have hVX12 : X12 40 0 20 = ((X 40 0 20) + 1) := by rw [hX12]; exact u3_s _ _ _ _ _
    have hFX12 : Frm [4001, 6200, 4021] X X12 := by rw [hX12]; exact Frm.set hFX9 (show 4021 ∈ [4001, 6200, 4021] by first | exact nlm_in rfl | decide)
    refine lv_aload_n hx hb dX9_mark_39 rfl (lv_at hl 0 rfl) ?_
    refine x_geti (jz := 20) hx hb hf9 hw (by first | exact Int.le_refl 0 | omega) (by first | exact zlt hc40 | omega) sl_40_20 rfl lk165 dX9_mark_40 ?_
    rw [hVX12]
    rw [hQ9]
    refine ret_i (mc := 0) (ms := 0) hx hb hr hlocks hw hS (by first | exact Nat.le_of_ble_eq_true rfl | omega) (by first | exact Nat.le_of_ble_eq_true rfl | omega) dX9_mark_43 ?_
    have e13 : X12 40 0 20 = ((X 40 0 20) + 1) := (by exact hVX12)
    refine ⟨X12, rfl, hRX12, hFX12, ?g9p51, ?g9p52, ?g9p53, ?g9p54, ?g9p55, ?g9p56⟩
    case g9p51 => exact minv_mark hMI hR hFX12 (fun j hj => (by rw [hX12, u3_k _ _ _ _ (by first | exact Nat.ne_of_beq_eq_false rfl | decide), hX9, u3_j _ _ _ _ hj, hX1, u3_k _ _ _ _ (by first | exact Nat.ne_of_beq_eq_false rfl | decide)])) (by rw [hX12, u3_k _ _ _ _ (by first | exact Nat.ne_of_beq_eq_false rfl | decide)]; exact hVX9) hVX12
    case g9p52 => omega
    case g9p53 => omega
    case g9p54 => exact fun _ => (by rw [hX12, u3_k _ _ _ _ (by first | exact Nat.ne_of_beq_eq_false rfl | decide)]; exact hVX9)
    case g9p55 => exact (fun j hj => (by rw [hX12, u3_k _ _ _ _ (by first | exact Nat.ne_of_beq_eq_false rfl | decide), hX9, u3_j _ _ _ _ hj, hX1, u3_k _ _ _ _ (by first | exact Nat.ne_of_beq_eq_false rfl | decide)]))
    case g9p56 => exact fun q => (by exfalso; omega)
  · refine lv_bipush (v := jI (-4)) hx hb dX9_mark_13 (by decide) ?_
    rw [hQ9]
    refine ret_i (mc := 0) (ms := 0) hx hb hr hlocks hw hS (by first | exact Nat.le_of_ble_eq_true rfl | omega) (by first | exact Nat.le_of_ble_eq_true rfl | omega) dX9_mark_15 ?_
    have q15 : Frm [4001] X X1 := by rw [hX1]; exact Frm.set Frm.rf (show 4001 ∈ [4001] by first | exact nlm_in rfl | decide)
    have hMq14 : MInv X1 := minv_frm hMI q15 (by decide)
    have e16 : X1 40 0 20 = X 40 0 20 := (by rw [hX1, u3_j _ _ _ _ (by decide)])
    have q17 : Frm [4001] X X1 := by rw [hX1]; exact Frm.set Frm.rf (show 4001 ∈ [4001] by first | exact nlm_in rfl | decide)
    exact ⟨X1, rfl, hRX1, hFX1, hMq14, by omega, by omega, fun q => (by exfalso; omega), (fun j _ => (by rw [hX1, u3_k _ _ _ _ (by first | exact Nat.ne_of_beq_eq_false rfl | decide)])), fun _ => q17⟩

set_option maxHeartbeats 4000000 in
set_option maxRecDepth 100000 in
theorem c_X9_becomes (l : Launch) (D : va_G) (tc : Nat → ClassId) (base : Nat) (ad : Nat → Int → Nat) (cnt : Nat → Int) (X : Nat → Int → Int → Int) (Y : Nat → Int → Int → Option Int) (ln : Int → Int) (hR : Rng X) (hFx : Fx cnt) (hMI : MInv X) (x k v : Int) (hx0 : 0 ≤ x ∧ x ≤ 29) (hk0 : 0 ≤ k ∧ k ≤ 4) (hv : -9223372036854775808 ≤ v ∧ v ≤ 9223372036854775807) (hxt : x < X 40 0 13) (hkf : k < X 44 0 (X 55 0 x)) (htv : tyv (X 40 0 13) (X 46 0 (5 * X 55 0 x + k)) v) (hfu : X 40 0 20 = 0 ∨ X 40 0 22 ≤ 79) : KV l D tc base yX9_becomes wsX9_becomes ({ frames := 1, cells := 0, slots := 0, locals := 22 } : Room) [.ref (ad 40 0), .int (jI x), .int (jI k), .long (jL v)] (ad, cnt, X, Y, ln) 0 0 (fun u => ∃ X1 : Nat → Int → Int → Int, u = (ad, cnt, X1, Y, ln) ∧ Rng X1 ∧ Frm [6400, 6500, 6700, 6800, 6600, 4023, 5600] X X1 ∧ MInv X1 ∧ (0 : Int) ≤ 0 ∧ eNoteM X X1 x k (if 3 ≤ X 46 0 (5 * X 55 0 x + k) then X 56 0 (5 * x + k) else -1) (-1) (X 56 0 (5 * x + k)) ∧ X1 56 0 (5 * x + k) = v ∧ ∀ y, y ≠ 5 * x + k → X1 56 0 y = X 56 0 y) := by
  refine K_of (cc := cX9_becomes) (maxL := 5) (ret := none) (by decide) rfl (Nat.le_of_ble_eq_true rfl) ?_
  intro p e s m below meth c ls hx hb hr hml hown hts hlocks hl hK hw hS
  have hown : s.vm.findClass RX9 = some m.cls := hown
  obtain ⟨av9, hav9⟩ : ∃ a9 : Array Value, a9 = ([.ref (ad 40 0), .int (jI x), .int (jI k), .long (jL v)] : List Value).toArray := ⟨_, rfl⟩
  rw [← hav9] at hts ⊢
  obtain ⟨Q9, hQ9⟩ : ∃ q9Q : State → Prop, q9Q = MQ below (QV D tc base (fun u => ∃ X1 : Nat → Int → Int → Int, u = (ad, cnt, X1, Y, ln) ∧ Rng X1 ∧ Frm [6400, 6500, 6700, 6800, 6600, 4023, 5600] X X1 ∧ MInv X1 ∧ (0 : Int) ≤ 0 ∧ eNoteM X X1 x k (if 3 ≤ X 46 0 (5 * X 55 0 x + k) then X 56 0 (5 * x + k) else -1) (-1) (X 56 0 (5 * x + k)) ∧ X1 56 0 (5 * x + k) = v ∧ ∀ y, y ≠ 5 * x + k → X1 56 0 y = X 56 0 y)) av9 s 0 0 (frA base) := ⟨_, rfl⟩
  rw [← hQ9]
  have hi9 : ∀ w ∈ wsX90, w ∈ wsX9_becomes := fun w h => List.mem_cons_of_mem _ (List.mem_append_right _ h)
  have hf9 : fctx s m _ RX9 wsX9_becomes D tc RX9 TX9 51 9 := ⟨hts, hi9, hown, hK.1, rfl⟩
  have lk48 := hts (.fieldLink RX9 48 (TX9 15).1 (TX9 15).2.1 (TX9 15).2.2.1) (gj_X9_becomes_0 _ (gp_4 (gp_1 (gp_1 gp_h))))
  have lk66 := hts (.fieldLink RX9 66 (TX9 23).1 (TX9 23).2.1 (TX9 23).2.2.1) (gj_X9_becomes_0 _ (gp_1 gp_h))
  have lk69 := hts (.fieldLink RX9 69 (TX9 24).1 (TX9 24).2.1 (TX9 24).2.2.1) (gj_X9_becomes_0 _ (gp_1 (gp_1 (gp_1 gp_h))))
  have lk72 := hts (.fieldLink RX9 72 (TX9 25).1 (TX9 25).2.1 (TX9 25).2.2.1) (gj_X9_becomes_0 _ (gp_4 (gp_1 (gp_1 (gp_1 gp_h)))))
  have lk75 := hts (.fieldLink RX9 75 (TX9 26).1 (TX9 26).2.1 (TX9 26).2.2.1) (gj_X9_becomes_0 _ (gp_4 gp_h))
  have lk78 := hts (.fieldLink RX9 78 (TX9 27).1 (TX9 27).2.1 (TX9 27).2.2.1) (gj_X9_becomes_0 _ (gp_4 (gp_1 gp_h)))
  have lk165 := hts (.fieldLink RX9 165 (TX9 20).1 (TX9 20).2.1 (TX9 20).2.2.1) (gj_X9_becomes_0 _ (gp_h))
  have lk173 := hts (.fieldLink RX9 173 (TX9 22).1 (TX9 22).2.1 (TX9 22).2.2.1) (gj_X9_becomes_0 _ (gp_1 (gp_1 gp_h)))
  have hc40 : cnt 40 = 1 := hFx.at 40 1 (by decide)
  have hc56 : cnt 56 = 1 := hFx.at 56 1 (by decide)
  have hc64 : cnt 64 = 1 := hFx.at 64 1 (by decide)
  have hc65 : cnt 65 = 1 := hFx.at 65 1 (by decide)
  have hc66 : cnt 66 = 1 := hFx.at 66 1 (by decide)
  have hc67 : cnt 67 = 1 := hFx.at 67 1 (by decide)
  have hc68 : cnt 68 = 1 := hFx.at 68 1 (by decide)
  have hl : lv_has ls 5 [(0, .ref (ad 40 0)), (1, .int (jI x)), (2, .int (jI k)), (3, .long (jL v))] := hl
  have fstypes : 0 ≤ X 40 0 2 ∧ X 40 0 2 ≤ 8 := hR 40 0 2
  have fsthings : 0 ≤ X 40 0 13 ∧ X 40 0 13 ≤ 30 := hR 40 0 13
  have fsmarks : 0 ≤ X 40 0 20 ∧ X 40 0 20 ≤ 4 := hR 40 0 20
  have fsnotes : 0 ≤ X 40 0 22 ∧ X 40 0 22 ≤ 80 := hR 40 0 22
  obtain ⟨hy1, hy2, hy3⟩ := hMI.1 x k (by omega) (by omega) (by omega) (by omega)
  refine lv_aload_n hx hb dX9_becomes_0 rfl (lv_at hl 0 rfl) ?_
  refine x_geti (jz := 20) hx hb hf9 hw (by first | exact Int.le_refl 0 | omega) (by first | exact zlt hc40 | omega) sl_40_20 rfl lk165 dX9_becomes_1 ?_
  have f1 : 0 ≤ X 40 0 20 ∧ X 40 0 20 ≤ 4 := hR 40 0 20
  refine x_if_le (tgt := 100) hx hb (by omega) dX9_becomes_4 (by decide) (fun c2 => ?_) (fun c2 => ?_)
  · refine lv_aload_n hx hb dX9_becomes_100 rfl (lv_at hl 0 rfl) ?_
    refine x_geto hx hb hf9 hw (by first | exact Int.le_refl 0 | omega) (by first | exact zlt hc40 | omega) sl_40_15 lk48 dX9_becomes_101 ?_
    refine lv_iconst (v := jI 5) hx hb dX9_becomes_104 rfl ?_
    refine lv_iload_n hx hb dX9_becomes_105 rfl (lv_at hl 1 rfl) ?_
    refine x_imul hx hb dX9_becomes_106 ?_
    refine lv_iload_n hx hb dX9_becomes_107 rfl (lv_at hl 2 rfl) ?_
    refine x_iadd hx hb dX9_becomes_108 ?_
    refine lv_lload_n hx hb dX9_becomes_109 rfl (lv_at hl 3 rfl) ?_
    refine x_last hx hb hK.1 hw hS (by first | exact Int.le_refl 0 | omega) (by first | exact zlt hc56 | omega) ar_56 (len_E ar_56 (by first | exact Nat.ne_of_beq_eq_false rfl | decide)) (by omega) (by omega) (by omega) dX9_becomes_110 (fun H locs hw hS => ?_)
    obtain ⟨X3, hX3⟩ : ∃ Xq, Xq = u3 X 56 0 ((5 * x) + k) v := ⟨_, rfl⟩
    rw [← hX3] at hw
    have hRX3 : Rng X3 := by rw [hX3]; exact rng_set hR (show (-9223372036854775808) ≤ v ∧ v ≤ 9223372036854775807 by omega)
    have hVX3 : X3 56 0 ((5 * x) + k) = v := by rw [hX3]; exact u3_s _ _ _ _ _
    have hFX3 : Frm [6400, 6500, 6700, 6800, 6600, 4023, 5600] X X3 := by rw [hX3]; exact Frm.set Frm.rf (show 5600 ∈ [6400, 6500, 6700, 6800, 6600, 4023, 5600] by first | exact nlm_in rfl | decide)
    rw [hQ9]
    refine ret_v (mc := 0) (ms := 0) hx hb hr hlocks hw hS (by first | exact Nat.le_of_ble_eq_true rfl | omega) (by first | exact Nat.le_of_ble_eq_true rfl | omega) dX9_becomes_111 ?_
    refine ⟨X3, rfl, hRX3, hFX3, ?g9p57, ?g9p58, ?g9p59, ?g9p60, ?g9p61⟩
    case g9p57 => rw [hX3]; exact minv_xval hMI hR (by omega) (by omega) (by omega) (by omega) htv
    case g9p58 => omega
    case g9p59 => exact Or.inl ⟨by omega, (by rw [hX3, u3_k _ _ _ _ (by first | exact Nat.ne_of_beq_eq_false rfl | decide)]), fun y => ⟨(by rw [hX3, u3_k _ _ _ _ (by first | exact Nat.ne_of_beq_eq_false rfl | decide)]), (by rw [hX3, u3_k _ _ _ _ (by first | exact Nat.ne_of_beq_eq_false rfl | decide)]), (by rw [hX3, u3_k _ _ _ _ (by first | exact Nat.ne_of_beq_eq_false rfl | decide)]), (by rw [hX3, u3_k _ _ _ _ (by first | exact Nat.ne_of_beq_eq_false rfl | decide)]), (by rw [hX3, u3_k _ _ _ _ (by first | exact Nat.ne_of_beq_eq_false rfl | decide)])⟩⟩
    case g9p60 => exact hVX3
    case g9p61 => exact fun y hy => (by rw [hX3, u3_j _ _ _ _ hy])
  · refine lv_aload_n hx hb dX9_becomes_7 rfl (lv_at hl 0 rfl) ?_
    refine x_geto hx hb hf9 hw (by first | exact Int.le_refl 0 | omega) (by first | exact zlt hc40 | omega) sl_40_23 lk66 dX9_becomes_8 ?_
    refine lv_aload_n hx hb dX9_becomes_11 rfl (lv_at hl 0 rfl) ?_
    refine x_geti (jz := 22) hx hb hf9 hw (by first | exact Int.le_refl 0 | omega) (by first | exact zlt hc40 | omega) sl_40_22 rfl lk173 dX9_becomes_12 ?_
    have f4 : 0 ≤ X 40 0 22 ∧ X 40 0 22 ≤ 80 := hR 40 0 22
    refine lv_iload_n hx hb dX9_becomes_15 rfl (lv_at hl 1 rfl) ?_
    refine x_iast hx hb hK.1 hw hS (by first | exact Int.le_refl 0 | omega) (by first | exact zlt hc64 | omega) ar_64 (len_E ar_64 (by first | exact Nat.ne_of_beq_eq_false rfl | decide)) (by omega) (by omega) (by omega) dX9_becomes_16 (fun H locs hw hS => ?_)
    obtain ⟨X5, hX5⟩ : ∃ Xq, Xq = u3 X 64 0 (X 40 0 22) x := ⟨_, rfl⟩
    rw [← hX5] at hw
    have hRX5 : Rng X5 := by rw [hX5]; exact rng_set hR (show 0 ≤ x ∧ x ≤ 29 by omega)
    have hVX5 : X5 64 0 (X 40 0 22) = x := by rw [hX5]; exact u3_s _ _ _ _ _
    have hFX5 : Frm [6400, 6500, 6700, 6800, 6600, 4023, 5600] X X5 := by rw [hX5]; exact Frm.set Frm.rf (show 6400 ∈ [6400, 6500, 6700, 6800, 6600, 4023, 5600] by first | exact nlm_in rfl | decide)
    refine lv_aload_n hx hb dX9_becomes_17 rfl (lv_at hl 0 rfl) ?_
    refine x_geto hx hb hf9 hw (by first | exact Int.le_refl 0 | omega) (by first | exact zlt hc40 | omega) sl_40_24 lk69 dX9_becomes_18 ?_
    refine lv_aload_n hx hb dX9_becomes_21 rfl (lv_at hl 0 rfl) ?_
    refine x_geti (jz := 22) hx hb hf9 hw (by first | exact Int.le_refl 0 | omega) (by first | exact zlt hc40 | omega) sl_40_22 rfl lk173 dX9_becomes_22 ?_
    have e6 : X5 40 0 22 = X 40 0 22 := by rw [hX5, u3_k _ _ _ _ (by first | exact Nat.ne_of_beq_eq_false rfl | decide)]
    rw [e6]
    have f7 : 0 ≤ X 40 0 22 ∧ X 40 0 22 ≤ 80 := hR 40 0 22
    refine lv_iload_n hx hb dX9_becomes_25 rfl (lv_at hl 2 rfl) ?_
    refine x_iast hx hb hK.1 hw hS (by first | exact Int.le_refl 0 | omega) (by first | exact zlt hc65 | omega) ar_65 (len_E ar_65 (by first | exact Nat.ne_of_beq_eq_false rfl | decide)) (by omega) (by omega) (by omega) dX9_becomes_26 (fun H locs hw hS => ?_)
    obtain ⟨X8, hX8⟩ : ∃ Xq, Xq = u3 X5 65 0 (X 40 0 22) k := ⟨_, rfl⟩
    rw [← hX8] at hw
    have hRX8 : Rng X8 := by rw [hX8]; exact rng_set hRX5 (show 0 ≤ k ∧ k ≤ 4 by omega)
    have hVX8 : X8 65 0 (X 40 0 22) = k := by rw [hX8]; exact u3_s _ _ _ _ _
    have hFX8 : Frm [6400, 6500, 6700, 6800, 6600, 4023, 5600] X X8 := by rw [hX8]; exact Frm.set hFX5 (show 6500 ∈ [6400, 6500, 6700, 6800, 6600, 4023, 5600] by first | exact nlm_in rfl | decide)
    refine lv_aload_n hx hb dX9_becomes_27 rfl (lv_at hl 0 rfl) ?_
    refine x_geto hx hb hf9 hw (by first | exact Int.le_refl 0 | omega) (by first | exact zlt hc40 | omega) sl_40_26 lk75 dX9_becomes_28 ?_
    refine lv_aload_n hx hb dX9_becomes_31 rfl (lv_at hl 0 rfl) ?_
    refine x_geti (jz := 22) hx hb hf9 hw (by first | exact Int.le_refl 0 | omega) (by first | exact zlt hc40 | omega) sl_40_22 rfl lk173 dX9_becomes_32 ?_
    have e9 : X8 40 0 22 = X 40 0 22 := by rw [hX8, u3_k _ _ _ _ (by first | exact Nat.ne_of_beq_eq_false rfl | decide), hX5, u3_k _ _ _ _ (by first | exact Nat.ne_of_beq_eq_false rfl | decide)]
    rw [e9]
    have f10 : 0 ≤ X 40 0 22 ∧ X 40 0 22 ≤ 80 := hR 40 0 22
    refine lv_iconst (v := jI (-1)) hx hb dX9_becomes_35 rfl ?_
    refine x_iast hx hb hK.1 hw hS (by first | exact Int.le_refl 0 | omega) (by first | exact zlt hc67 | omega) ar_67 (len_E ar_67 (by first | exact Nat.ne_of_beq_eq_false rfl | decide)) (by omega) (by omega) (by omega) dX9_becomes_36 (fun H locs hw hS => ?_)
    obtain ⟨X11, hX11⟩ : ∃ Xq, Xq = u3 X8 67 0 (X 40 0 22) (-1) := ⟨_, rfl⟩
    rw [← hX11] at hw
    have hRX11 : Rng X11 := by rw [hX11]; exact rng_set hRX8 (show (-1) ≤ (-1) ∧ (-1) ≤ 11 by omega)
    have hVX11 : X11 67 0 (X 40 0 22) = (-1) := by rw [hX11]; exact u3_s _ _ _ _ _
    have hFX11 : Frm [6400, 6500, 6700, 6800, 6600, 4023, 5600] X X11 := by rw [hX11]; exact Frm.set hFX8 (show 6700 ∈ [6400, 6500, 6700, 6800, 6600, 4023, 5600] by first | exact nlm_in rfl | decide)
    refine lv_aload_n hx hb dX9_becomes_37 rfl (lv_at hl 0 rfl) ?_
    refine x_geto hx hb hf9 hw (by first | exact Int.le_refl 0 | omega) (by first | exact zlt hc40 | omega) sl_40_27 lk78 dX9_becomes_38 ?_
    refine lv_aload_n hx hb dX9_becomes_41 rfl (lv_at hl 0 rfl) ?_
    refine x_geti (jz := 22) hx hb hf9 hw (by first | exact Int.le_refl 0 | omega) (by first | exact zlt hc40 | omega) sl_40_22 rfl lk173 dX9_becomes_42 ?_
    have e12 : X11 40 0 22 = X 40 0 22 := by rw [hX11, u3_k _ _ _ _ (by first | exact Nat.ne_of_beq_eq_false rfl | decide), hX8, u3_k _ _ _ _ (by first | exact Nat.ne_of_beq_eq_false rfl | decide), hX5, u3_k _ _ _ _ (by first | exact Nat.ne_of_beq_eq_false rfl | decide)]
    rw [e12]
    have f13 : 0 ≤ X 40 0 22 ∧ X 40 0 22 ≤ 80 := hR 40 0 22
    refine lv_aload_n hx hb dX9_becomes_45 rfl (lv_at hl 0 rfl) ?_
    refine x_geto hx hb hf9 hw (by first | exact Int.le_refl 0 | omega) (by first | exact zlt hc40 | omega) sl_40_15 lk48 dX9_becomes_46 ?_
    refine lv_iconst (v := jI 5) hx hb dX9_becomes_49 rfl ?_
    refine lv_iload_n hx hb dX9_becomes_50 rfl (lv_at hl 1 rfl) ?_
    refine x_imul hx hb dX9_becomes_51 ?_
    refine lv_iload_n hx hb dX9_becomes_52 rfl (lv_at hl 2 rfl) ?_
    refine x_iadd hx hb dX9_becomes_53 ?_
    refine x_lald hx hb hK.1 hw (by first | exact Int.le_refl 0 | omega) (by first | exact zlt hc56 | omega) ar_56 (len_E ar_56 (by first | exact Nat.ne_of_beq_eq_false rfl | decide)) (by omega) (by omega) (by omega) dX9_becomes_54 ?_
    have e14 : ∀ p9 q9 : Int, X11 56 p9 q9 = X 56 p9 q9 := fun p9 q9 => by rw [hX11, u3_k _ _ _ _ (by first | exact Nat.ne_of_beq_eq_false rfl | decide), hX8, u3_k _ _ _ _ (by first | exact Nat.ne_of_beq_eq_false rfl | decide), hX5, u3_k _ _ _ _ (by first | exact Nat.ne_of_beq_eq_false rfl | decide)]
    rw [e14 0 ((5 * x) + k)]
    have f15 : (-9223372036854775808) ≤ X 56 0 ((5 * x) + k) ∧ X 56 0 ((5 * x) + k) ≤ 9223372036854775807 := hR 56 0 ((5 * x) + k)
    refine x_last hx hb hK.1 hw hS (by first | exact Int.le_refl 0 | omega) (by first | exact zlt hc68 | omega) ar_68 (len_E ar_68 (by first | exact Nat.ne_of_beq_eq_false rfl | decide)) (by omega) (by omega) (by omega) dX9_becomes_55 (fun H locs hw hS => ?_)
    obtain ⟨X16, hX16⟩ : ∃ Xq, Xq = u3 X11 68 0 (X 40 0 22) (X 56 0 ((5 * x) + k)) := ⟨_, rfl⟩
    rw [← hX16] at hw
    have hRX16 : Rng X16 := by rw [hX16]; exact rng_set hRX11 (show (-9223372036854775808) ≤ (X 56 0 ((5 * x) + k)) ∧ (X 56 0 ((5 * x) + k)) ≤ 9223372036854775807 by omega)
    have hVX16 : X16 68 0 (X 40 0 22) = (X 56 0 ((5 * x) + k)) := by rw [hX16]; exact u3_s _ _ _ _ _
    have hFX16 : Frm [6400, 6500, 6700, 6800, 6600, 4023, 5600] X X16 := by rw [hX16]; exact Frm.set hFX11 (show 6800 ∈ [6400, 6500, 6700, 6800, 6600, 4023, 5600] by first | exact nlm_in rfl | decide)
    refine lv_aload_n hx hb dX9_becomes_56 rfl (lv_at hl 0 rfl) ?_
    refine x_geto hx hb hf9 hw (by first | exact Int.le_refl 0 | omega) (by first | exact zlt hc40 | omega) sl_40_25 lk72 dX9_becomes_57 ?_
    refine lv_aload_n hx hb dX9_becomes_60 rfl (lv_at hl 0 rfl) ?_
    refine x_geti (jz := 22) hx hb hf9 hw (by first | exact Int.le_refl 0 | omega) (by first | exact zlt hc40 | omega) sl_40_22 rfl lk173 dX9_becomes_61 ?_
    have e17 : X16 40 0 22 = X 40 0 22 := by rw [hX16, u3_k _ _ _ _ (by first | exact Nat.ne_of_beq_eq_false rfl | decide), hX11, u3_k _ _ _ _ (by first | exact Nat.ne_of_beq_eq_false rfl | decide), hX8, u3_k _ _ _ _ (by first | exact Nat.ne_of_beq_eq_false rfl | decide), hX5, u3_k _ _ _ _ (by first | exact Nat.ne_of_beq_eq_false rfl | decide)]
    rw [e17]
    have f18 : 0 ≤ X 40 0 22 ∧ X 40 0 22 ≤ 80 := hR 40 0 22
    refine lv_aload_n hx hb dX9_becomes_64 rfl (lv_at hl 0 rfl) ?_
    refine lv_iload_n hx hb dX9_becomes_65 rfl (lv_at hl 1 rfl) ?_
    refine lv_iload_n hx hb dX9_becomes_66 rfl (lv_at hl 2 rfl) ?_
    refine gos_i (run_V (As := [.int (jI x), .int (jI k)]) (rest := [.int (jI (X 40 0 22)), .ref (ad 66 0)]) hx hb hml hown hts (c_X9_lane l D tc base ad cnt X16 Y ln hRX16 hFx x k (by omega) (by omega)) (cwV 2 hts gX9_becomes_X9_lane rfl rfl rfl (by first | exact hd_X9_lane | decide +kernel) ⟨Nat.le_of_ble_eq_true rfl, Nat.le_of_ble_eq_true rfl⟩) hK hw (by first | exact Int.le_refl 0 | omega) (by first | exact zlt hc40 | omega) sl_40_0 rfl rfl hl.1 rfl (Nat.le_of_ble_eq_true rfl) dX9_becomes_67 ⟨Nat.le_of_ble_eq_true rfl, Nat.le_of_ble_eq_true rfl⟩) hS (fun z19 u20 H locs p21 hw hS => ?_)
    obtain ⟨eu20, p21⟩ := p21
    subst eu20
    have e22 : ∀ j : Int, X16 55 0 j = X 55 0 j := fun j => by rw [hX16, u3_k _ _ _ _ (by first | exact Nat.ne_of_beq_eq_false rfl | decide), hX11, u3_k _ _ _ _ (by first | exact Nat.ne_of_beq_eq_false rfl | decide), hX8, u3_k _ _ _ _ (by first | exact Nat.ne_of_beq_eq_false rfl | decide), hX5, u3_k _ _ _ _ (by first | exact Nat.ne_of_beq_eq_false rfl | decide)]
    have e23 : ∀ j : Int, X16 46 0 j = X 46 0 j := fun j => by rw [hX16, u3_k _ _ _ _ (by first | exact Nat.ne_of_beq_eq_false rfl | decide), hX11, u3_k _ _ _ _ (by first | exact Nat.ne_of_beq_eq_false rfl | decide), hX8, u3_k _ _ _ _ (by first | exact Nat.ne_of_beq_eq_false rfl | decide), hX5, u3_k _ _ _ _ (by first | exact Nat.ne_of_beq_eq_false rfl | decide)]
    simp only [e22, e23] at p21
    refine lv_iconst (v := jI 3) hx hb dX9_becomes_70 rfl ?_
    refine x_icmp_lt (tgt := 88) hx hb (by omega) (by omega) dX9_becomes_71 (by decide) (fun c24 => ?_) (fun c24 => ?_)
    · refine lv_iconst (v := jI (-1)) hx hb dX9_becomes_88 rfl ?_
      refine x_iast hx hb hK.1 hw hS (by first | exact Int.le_refl 0 | omega) (by first | exact zlt hc66 | omega) ar_66 (len_E ar_66 (by first | exact Nat.ne_of_beq_eq_false rfl | decide)) (by omega) (by omega) (by omega) dX9_becomes_89 (fun H locs hw hS => ?_)
      obtain ⟨X25, hX25⟩ : ∃ Xq, Xq = u3 X16 66 0 (X 40 0 22) (-1) := ⟨_, rfl⟩
      rw [← hX25] at hw
      have hRX25 : Rng X25 := by rw [hX25]; exact rng_set hRX16 (show (-1) ≤ (-1) ∧ (-1) ≤ 399 by omega)
      have hVX25 : X25 66 0 (X 40 0 22) = (-1) := by rw [hX25]; exact u3_s _ _ _ _ _
      have hFX25 : Frm [6400, 6500, 6700, 6800, 6600, 4023, 5600] X X25 := by rw [hX25]; exact Frm.set hFX16 (show 6600 ∈ [6400, 6500, 6700, 6800, 6600, 4023, 5600] by first | exact nlm_in rfl | decide)
      refine lv_aload_n hx hb dX9_becomes_90 rfl (lv_at hl 0 rfl) ?_
      refine lv_dup hx hb dX9_becomes_91 rfl ?_
      refine x_geti (jz := 22) hx hb hf9 hw (by first | exact Int.le_refl 0 | omega) (by first | exact zlt hc40 | omega) sl_40_22 rfl lk173 dX9_becomes_92 ?_
      have e26 : X25 40 0 22 = X 40 0 22 := by rw [hX25, u3_k _ _ _ _ (by first | exact Nat.ne_of_beq_eq_false rfl | decide), hX16, u3_k _ _ _ _ (by first | exact Nat.ne_of_beq_eq_false rfl | decide), hX11, u3_k _ _ _ _ (by first | exact Nat.ne_of_beq_eq_false rfl | decide), hX8, u3_k _ _ _ _ (by first | exact Nat.ne_of_beq_eq_false rfl | decide), hX5, u3_k _ _ _ _ (by first | exact Nat.ne_of_beq_eq_false rfl | decide)]
      rw [e26]
      have f27 : 0 ≤ X 40 0 22 ∧ X 40 0 22 ≤ 80 := hR 40 0 22
      refine lv_iconst (v := jI 1) hx hb dX9_becomes_95 rfl ?_
      refine x_iadd hx hb dX9_becomes_96 ?_
      refine x_puti (jz := 22) hx hb hf9 ⟨tyX9_ok, nmX9⟩ hw hS (by first | exact Int.le_refl 0 | omega) (by first | exact zlt hc40 | omega) sl_40_22 rfl lk173 rfl (tyX9_ok 22 (by decide)) rfl rfl dX9_becomes_97 (fun H locs hw hS => ?_)
      obtain ⟨X28, hX28⟩ : ∃ Xq, Xq = u3 X25 40 0 22 ((X 40 0 22) + 1) := ⟨_, rfl⟩
      rw [← hX28] at hw
      have hRX28 : Rng X28 := by rw [hX28]; exact rng_set hRX25 (show 0 ≤ ((X 40 0 22) + 1) ∧ ((X 40 0 22) + 1) ≤ 80 by omega)
      have hVX28 : X28 40 0 22 = ((X 40 0 22) + 1) := by rw [hX28]; exact u3_s _ _ _ _ _
      have hFX28 : Frm [6400, 6500, 6700, 6800, 6600, 4023, 5600] X X28 := by rw [hX28]; exact Frm.set hFX25 (show 4023 ∈ [6400, 6500, 6700, 6800, 6600, 4023, 5600] by first | exact nlm_in rfl | decide)
      refine lv_aload_n hx hb dX9_becomes_100 rfl (lv_at hl 0 rfl) ?_
      refine x_geto hx hb hf9 hw (by first | exact Int.le_refl 0 | omega) (by first | exact zlt hc40 | omega) sl_40_15 lk48 dX9_becomes_101 ?_
      refine lv_iconst (v := jI 5) hx hb dX9_becomes_104 rfl ?_
      refine lv_iload_n hx hb dX9_becomes_105 rfl (lv_at hl 1 rfl) ?_
      refine x_imul hx hb dX9_becomes_106 ?_
      refine lv_iload_n hx hb dX9_becomes_107 rfl (lv_at hl 2 rfl) ?_
      refine x_iadd hx hb dX9_becomes_108 ?_
      refine lv_lload_n hx hb dX9_becomes_109 rfl (lv_at hl 3 rfl) ?_
      refine x_last hx hb hK.1 hw hS (by first | exact Int.le_refl 0 | omega) (by first | exact zlt hc56 | omega) ar_56 (len_E ar_56 (by first | exact Nat.ne_of_beq_eq_false rfl | decide)) (by omega) (by omega) (by omega) dX9_becomes_110 (fun H locs hw hS => ?_)
      obtain ⟨X29, hX29⟩ : ∃ Xq, Xq = u3 X28 56 0 ((5 * x) + k) v := ⟨_, rfl⟩
      rw [← hX29] at hw
      have hRX29 : Rng X29 := by rw [hX29]; exact rng_set hRX28 (show (-9223372036854775808) ≤ v ∧ v ≤ 9223372036854775807 by omega)
      have hVX29 : X29 56 0 ((5 * x) + k) = v := by rw [hX29]; exact u3_s _ _ _ _ _
      have hFX29 : Frm [6400, 6500, 6700, 6800, 6600, 4023, 5600] X X29 := by rw [hX29]; exact Frm.set hFX28 (show 5600 ∈ [6400, 6500, 6700, 6800, 6600, 4023, 5600] by first | exact nlm_in rfl | decide)
      rw [hQ9]
      refine ret_v (mc := 0) (ms := 0) hx hb hr hlocks hw hS (by first | exact Nat.le_of_ble_eq_true rfl | omega) (by first | exact Nat.le_of_ble_eq_true rfl | omega) dX9_becomes_111 ?_
      have q31 : Frm [4001, 6400, 6500, 6600, 6700, 6800, 4023, 5900] X X5 := by rw [hX5]; exact Frm.set Frm.rf (show 6400 ∈ [4001, 6400, 6500, 6600, 6700, 6800, 4023, 5900] by first | exact nlm_in rfl | decide)
      have q32 : Frm [4001, 6400, 6500, 6600, 6700, 6800, 4023, 5900] X X8 := by rw [hX8]; exact Frm.set q31 (show 6500 ∈ [4001, 6400, 6500, 6600, 6700, 6800, 4023, 5900] by first | exact nlm_in rfl | decide)
      have q33 : Frm [4001, 6400, 6500, 6600, 6700, 6800, 4023, 5900] X X11 := by rw [hX11]; exact Frm.set q32 (show 6700 ∈ [4001, 6400, 6500, 6600, 6700, 6800, 4023, 5900] by first | exact nlm_in rfl | decide)
      have q34 : Frm [4001, 6400, 6500, 6600, 6700, 6800, 4023, 5900] X X16 := by rw [hX16]; exact Frm.set q33 (show 6800 ∈ [4001, 6400, 6500, 6600, 6700, 6800, 4023, 5900] by first | exact nlm_in rfl | decide)
      have q35 : Frm [4001, 6400, 6500, 6600, 6700, 6800, 4023, 5900] X X25 := by rw [hX25]; exact Frm.set q34 (show 6600 ∈ [4001, 6400, 6500, 6600, 6700, 6800, 4023, 5900] by first | exact nlm_in rfl | decide)
      have q36 : Frm [4001, 6400, 6500, 6600, 6700, 6800, 4023, 5900] X X28 := by rw [hX28]; exact Frm.set q35 (show 4023 ∈ [4001, 6400, 6500, 6600, 6700, 6800, 4023, 5900] by first | exact nlm_in rfl | decide)
      have hMn30 : MInv X28 := minv_note (th := x) (fd := k) (rw := 0) (it := -1) (ws := X 56 0 (5 * x + k)) hMI (by omega) q36 (by exact hVX28) (fun j hj => ⟨(by rw [hX28, u3_k _ _ _ _ (by first | exact Nat.ne_of_beq_eq_false rfl | decide), hX25, u3_k _ _ _ _ (by first | exact Nat.ne_of_beq_eq_false rfl | decide), hX16, u3_k _ _ _ _ (by first | exact Nat.ne_of_beq_eq_false rfl | decide), hX11, u3_k _ _ _ _ (by first | exact Nat.ne_of_beq_eq_false rfl | decide), hX8, u3_k _ _ _ _ (by first | exact Nat.ne_of_beq_eq_false rfl | decide), hX5, u3_j _ _ _ _ (by omega)]), (by rw [hX28, u3_k _ _ _ _ (by first | exact Nat.ne_of_beq_eq_false rfl | decide), hX25, u3_k _ _ _ _ (by first | exact Nat.ne_of_beq_eq_false rfl | decide), hX16, u3_k _ _ _ _ (by first | exact Nat.ne_of_beq_eq_false rfl | decide), hX11, u3_k _ _ _ _ (by first | exact Nat.ne_of_beq_eq_false rfl | decide), hX8, u3_j _ _ _ _ (by omega), hX5, u3_k _ _ _ _ (by first | exact Nat.ne_of_beq_eq_false rfl | decide)]), (by rw [hX28, u3_k _ _ _ _ (by first | exact Nat.ne_of_beq_eq_false rfl | decide), hX25, u3_j _ _ _ _ (by omega), hX16, u3_k _ _ _ _ (by first | exact Nat.ne_of_beq_eq_false rfl | decide), hX11, u3_k _ _ _ _ (by first | exact Nat.ne_of_beq_eq_false rfl | decide), hX8, u3_k _ _ _ _ (by first | exact Nat.ne_of_beq_eq_false rfl | decide), hX5, u3_k _ _ _ _ (by first | exact Nat.ne_of_beq_eq_false rfl | decide)]), (by rw [hX28, u3_k _ _ _ _ (by first | exact Nat.ne_of_beq_eq_false rfl | decide), hX25, u3_k _ _ _ _ (by first | exact Nat.ne_of_beq_eq_false rfl | decide), hX16, u3_k _ _ _ _ (by first | exact Nat.ne_of_beq_eq_false rfl | decide), hX11, u3_j _ _ _ _ (by omega), hX8, u3_k _ _ _ _ (by first | exact Nat.ne_of_beq_eq_false rfl | decide), hX5, u3_k _ _ _ _ (by first | exact Nat.ne_of_beq_eq_false rfl | decide)]), (by rw [hX28, u3_k _ _ _ _ (by first | exact Nat.ne_of_beq_eq_false rfl | decide), hX25, u3_k _ _ _ _ (by first | exact Nat.ne_of_beq_eq_false rfl | decide), hX16, u3_j _ _ _ _ (by omega), hX11, u3_k _ _ _ _ (by first | exact Nat.ne_of_beq_eq_false rfl | decide), hX8, u3_k _ _ _ _ (by first | exact Nat.ne_of_beq_eq_false rfl | decide), hX5, u3_k _ _ _ _ (by first | exact Nat.ne_of_beq_eq_false rfl | decide)])⟩) (by rw [hX28, u3_k _ _ _ _ (by first | exact Nat.ne_of_beq_eq_false rfl | decide), hX25, u3_k _ _ _ _ (by first | exact Nat.ne_of_beq_eq_false rfl | decide), hX16, u3_k _ _ _ _ (by first | exact Nat.ne_of_beq_eq_false rfl | decide)]; exact hVX11) ⟨fun _ => ⟨(by rw [hX28, u3_k _ _ _ _ (by first | exact Nat.ne_of_beq_eq_false rfl | decide), hX25, u3_k _ _ _ _ (by first | exact Nat.ne_of_beq_eq_false rfl | decide), hX16, u3_k _ _ _ _ (by first | exact Nat.ne_of_beq_eq_false rfl | decide), hX11, u3_k _ _ _ _ (by first | exact Nat.ne_of_beq_eq_false rfl | decide), hX8, u3_k _ _ _ _ (by first | exact Nat.ne_of_beq_eq_false rfl | decide)]; exact hVX5), (by rw [hX28, u3_k _ _ _ _ (by first | exact Nat.ne_of_beq_eq_false rfl | decide), hX25, u3_k _ _ _ _ (by first | exact Nat.ne_of_beq_eq_false rfl | decide), hX16, u3_k _ _ _ _ (by first | exact Nat.ne_of_beq_eq_false rfl | decide), hX11, u3_k _ _ _ _ (by first | exact Nat.ne_of_beq_eq_false rfl | decide)]; exact hVX8), (by rw [hX28, u3_k _ _ _ _ (by first | exact Nat.ne_of_beq_eq_false rfl | decide), hX25, u3_k _ _ _ _ (by first | exact Nat.ne_of_beq_eq_false rfl | decide)]; exact hVX16), by omega, by omega, hMI.1 x k (by omega) (by omega) (by omega) (by omega)⟩, fun q => by omega⟩
      have e37 : X28 40 0 13 = X 40 0 13 := by rw [hX28, u3_j _ _ _ _ (by decide), hX25, u3_k _ _ _ _ (by first | exact Nat.ne_of_beq_eq_false rfl | decide), hX16, u3_k _ _ _ _ (by first | exact Nat.ne_of_beq_eq_false rfl | decide), hX11, u3_k _ _ _ _ (by first | exact Nat.ne_of_beq_eq_false rfl | decide), hX8, u3_k _ _ _ _ (by first | exact Nat.ne_of_beq_eq_false rfl | decide), hX5, u3_k _ _ _ _ (by first | exact Nat.ne_of_beq_eq_false rfl | decide)]
      have e38 : ∀ j : Int, X28 44 0 j = X 44 0 j := fun j => by rw [hX28, u3_k _ _ _ _ (by first | exact Nat.ne_of_beq_eq_false rfl | decide), hX25, u3_k _ _ _ _ (by first | exact Nat.ne_of_beq_eq_false rfl | decide), hX16, u3_k _ _ _ _ (by first | exact Nat.ne_of_beq_eq_false rfl | decide), hX11, u3_k _ _ _ _ (by first | exact Nat.ne_of_beq_eq_false rfl | decide), hX8, u3_k _ _ _ _ (by first | exact Nat.ne_of_beq_eq_false rfl | decide), hX5, u3_k _ _ _ _ (by first | exact Nat.ne_of_beq_eq_false rfl | decide)]
      have e39 : ∀ j : Int, X28 46 0 j = X 46 0 j := fun j => by rw [hX28, u3_k _ _ _ _ (by first | exact Nat.ne_of_beq_eq_false rfl | decide), hX25, u3_k _ _ _ _ (by first | exact Nat.ne_of_beq_eq_false rfl | decide), hX16, u3_k _ _ _ _ (by first | exact Nat.ne_of_beq_eq_false rfl | decide), hX11, u3_k _ _ _ _ (by first | exact Nat.ne_of_beq_eq_false rfl | decide), hX8, u3_k _ _ _ _ (by first | exact Nat.ne_of_beq_eq_false rfl | decide), hX5, u3_k _ _ _ _ (by first | exact Nat.ne_of_beq_eq_false rfl | decide)]
      have e40 : ∀ j : Int, X28 55 0 j = X 55 0 j := fun j => by rw [hX28, u3_k _ _ _ _ (by first | exact Nat.ne_of_beq_eq_false rfl | decide), hX25, u3_k _ _ _ _ (by first | exact Nat.ne_of_beq_eq_false rfl | decide), hX16, u3_k _ _ _ _ (by first | exact Nat.ne_of_beq_eq_false rfl | decide), hX11, u3_k _ _ _ _ (by first | exact Nat.ne_of_beq_eq_false rfl | decide), hX8, u3_k _ _ _ _ (by first | exact Nat.ne_of_beq_eq_false rfl | decide), hX5, u3_k _ _ _ _ (by first | exact Nat.ne_of_beq_eq_false rfl | decide)]
      refine ⟨X29, rfl, hRX29, hFX29, ?g9p62, ?g9p63, ?g9p64, ?g9p65, ?g9p66⟩
      case g9p62 => rw [hX29]; exact minv_xval hMn30 hRX28 (by omega) (by simp only [e37, e38, e39, e40]; omega) (by omega) (by simp only [e37, e38, e39, e40]; omega) (by simp only [e37, e38, e39, e40]; exact htv)
      case g9p63 => omega
      case g9p64 => exact Or.inr ⟨by omega, (by rw [hX29, u3_k _ _ _ _ (by first | exact Nat.ne_of_beq_eq_false rfl | decide)]; exact hVX28), ⟨(by rw [hX29, u3_k _ _ _ _ (by first | exact Nat.ne_of_beq_eq_false rfl | decide), hX28, u3_k _ _ _ _ (by first | exact Nat.ne_of_beq_eq_false rfl | decide), hX25, u3_k _ _ _ _ (by first | exact Nat.ne_of_beq_eq_false rfl | decide), hX16, u3_k _ _ _ _ (by first | exact Nat.ne_of_beq_eq_false rfl | decide), hX11, u3_k _ _ _ _ (by first | exact Nat.ne_of_beq_eq_false rfl | decide), hX8, u3_k _ _ _ _ (by first | exact Nat.ne_of_beq_eq_false rfl | decide)]; exact hVX5), (by rw [hX29, u3_k _ _ _ _ (by first | exact Nat.ne_of_beq_eq_false rfl | decide), hX28, u3_k _ _ _ _ (by first | exact Nat.ne_of_beq_eq_false rfl | decide), hX25, u3_k _ _ _ _ (by first | exact Nat.ne_of_beq_eq_false rfl | decide), hX16, u3_k _ _ _ _ (by first | exact Nat.ne_of_beq_eq_false rfl | decide), hX11, u3_k _ _ _ _ (by first | exact Nat.ne_of_beq_eq_false rfl | decide)]; exact hVX8), (by rw [hX29, u3_k _ _ _ _ (by first | exact Nat.ne_of_beq_eq_false rfl | decide), hX28, u3_k _ _ _ _ (by first | exact Nat.ne_of_beq_eq_false rfl | decide)]; rw [hVX25]; split <;> omega), (by rw [hX29, u3_k _ _ _ _ (by first | exact Nat.ne_of_beq_eq_false rfl | decide), hX28, u3_k _ _ _ _ (by first | exact Nat.ne_of_beq_eq_false rfl | decide), hX25, u3_k _ _ _ _ (by first | exact Nat.ne_of_beq_eq_false rfl | decide), hX16, u3_k _ _ _ _ (by first | exact Nat.ne_of_beq_eq_false rfl | decide)]; exact hVX11), (by rw [hX29, u3_k _ _ _ _ (by first | exact Nat.ne_of_beq_eq_false rfl | decide), hX28, u3_k _ _ _ _ (by first | exact Nat.ne_of_beq_eq_false rfl | decide), hX25, u3_k _ _ _ _ (by first | exact Nat.ne_of_beq_eq_false rfl | decide)]; exact hVX16)⟩, fun y hy => ⟨(by rw [hX29, u3_k _ _ _ _ (by first | exact Nat.ne_of_beq_eq_false rfl | decide), hX28, u3_k _ _ _ _ (by first | exact Nat.ne_of_beq_eq_false rfl | decide), hX25, u3_k _ _ _ _ (by first | exact Nat.ne_of_beq_eq_false rfl | decide), hX16, u3_k _ _ _ _ (by first | exact Nat.ne_of_beq_eq_false rfl | decide), hX11, u3_k _ _ _ _ (by first | exact Nat.ne_of_beq_eq_false rfl | decide), hX8, u3_k _ _ _ _ (by first | exact Nat.ne_of_beq_eq_false rfl | decide), hX5, u3_j _ _ _ _ hy]), (by rw [hX29, u3_k _ _ _ _ (by first | exact Nat.ne_of_beq_eq_false rfl | decide), hX28, u3_k _ _ _ _ (by first | exact Nat.ne_of_beq_eq_false rfl | decide), hX25, u3_k _ _ _ _ (by first | exact Nat.ne_of_beq_eq_false rfl | decide), hX16, u3_k _ _ _ _ (by first | exact Nat.ne_of_beq_eq_false rfl | decide), hX11, u3_k _ _ _ _ (by first | exact Nat.ne_of_beq_eq_false rfl | decide), hX8, u3_j _ _ _ _ hy, hX5, u3_k _ _ _ _ (by first | exact Nat.ne_of_beq_eq_false rfl | decide)]), (by rw [hX29, u3_k _ _ _ _ (by first | exact Nat.ne_of_beq_eq_false rfl | decide), hX28, u3_k _ _ _ _ (by first | exact Nat.ne_of_beq_eq_false rfl | decide), hX25, u3_j _ _ _ _ hy, hX16, u3_k _ _ _ _ (by first | exact Nat.ne_of_beq_eq_false rfl | decide), hX11, u3_k _ _ _ _ (by first | exact Nat.ne_of_beq_eq_false rfl | decide), hX8, u3_k _ _ _ _ (by first | exact Nat.ne_of_beq_eq_false rfl | decide), hX5, u3_k _ _ _ _ (by first | exact Nat.ne_of_beq_eq_false rfl | decide)]), (by rw [hX29, u3_k _ _ _ _ (by first | exact Nat.ne_of_beq_eq_false rfl | decide), hX28, u3_k _ _ _ _ (by first | exact Nat.ne_of_beq_eq_false rfl | decide), hX25, u3_k _ _ _ _ (by first | exact Nat.ne_of_beq_eq_false rfl | decide), hX16, u3_k _ _ _ _ (by first | exact Nat.ne_of_beq_eq_false rfl | decide), hX11, u3_j _ _ _ _ hy, hX8, u3_k _ _ _ _ (by first | exact Nat.ne_of_beq_eq_false rfl | decide), hX5, u3_k _ _ _ _ (by first | exact Nat.ne_of_beq_eq_false rfl | decide)]), (by rw [hX29, u3_k _ _ _ _ (by first | exact Nat.ne_of_beq_eq_false rfl | decide), hX28, u3_k _ _ _ _ (by first | exact Nat.ne_of_beq_eq_false rfl | decide), hX25, u3_k _ _ _ _ (by first | exact Nat.ne_of_beq_eq_false rfl | decide), hX16, u3_j _ _ _ _ hy, hX11, u3_k _ _ _ _ (by first | exact Nat.ne_of_beq_eq_false rfl | decide), hX8, u3_k _ _ _ _ (by first | exact Nat.ne_of_beq_eq_false rfl | decide), hX5, u3_k _ _ _ _ (by first | exact Nat.ne_of_beq_eq_false rfl | decide)])⟩⟩
      case g9p65 => exact hVX29
      case g9p66 => exact fun y hy => (by rw [hX29, u3_j _ _ _ _ hy, hX28, u3_k _ _ _ _ (by first | exact Nat.ne_of_beq_eq_false rfl | decide), hX25, u3_k _ _ _ _ (by first | exact Nat.ne_of_beq_eq_false rfl | decide), hX16, u3_k _ _ _ _ (by first | exact Nat.ne_of_beq_eq_false rfl | decide), hX11, u3_k _ _ _ _ (by first | exact Nat.ne_of_beq_eq_false rfl | decide), hX8, u3_k _ _ _ _ (by first | exact Nat.ne_of_beq_eq_false rfl | decide), hX5, u3_k _ _ _ _ (by first | exact Nat.ne_of_beq_eq_false rfl | decide)])
    · refine lv_aload_n hx hb dX9_becomes_74 rfl (lv_at hl 0 rfl) ?_
      refine x_geto hx hb hf9 hw (by first | exact Int.le_refl 0 | omega) (by first | exact zlt hc40 | omega) sl_40_15 lk48 dX9_becomes_75 ?_
      refine lv_iconst (v := jI 5) hx hb dX9_becomes_78 rfl ?_
      refine lv_iload_n hx hb dX9_becomes_79 rfl (lv_at hl 1 rfl) ?_
      refine x_imul hx hb dX9_becomes_80 ?_
      refine lv_iload_n hx hb dX9_becomes_81 rfl (lv_at hl 2 rfl) ?_
      refine x_iadd hx hb dX9_becomes_82 ?_
      refine x_lald hx hb hK.1 hw (by first | exact Int.le_refl 0 | omega) (by first | exact zlt hc56 | omega) ar_56 (len_E ar_56 (by first | exact Nat.ne_of_beq_eq_false rfl | decide)) (by omega) (by omega) (by omega) dX9_becomes_83 ?_
      have e41 : ∀ p9 q9 : Int, X16 56 p9 q9 = X 56 p9 q9 := fun p9 q9 => by rw [hX16, u3_k _ _ _ _ (by first | exact Nat.ne_of_beq_eq_false rfl | decide), hX11, u3_k _ _ _ _ (by first | exact Nat.ne_of_beq_eq_false rfl | decide), hX8, u3_k _ _ _ _ (by first | exact Nat.ne_of_beq_eq_false rfl | decide), hX5, u3_k _ _ _ _ (by first | exact Nat.ne_of_beq_eq_false rfl | decide)]
      rw [e41 0 ((5 * x) + k)]
      have f42 : (-9223372036854775808) ≤ X 56 0 ((5 * x) + k) ∧ X 56 0 ((5 * x) + k) ≤ 9223372036854775807 := hR 56 0 ((5 * x) + k)
      refine x_l2i hx hb dX9_becomes_84 ?_
      refine lv_goto (tgt := 89) hx hb dX9_becomes_85 (by decide) ?_
      refine x_iast hx hb hK.1 hw hS (by first | exact Int.le_refl 0 | omega) (by first | exact zlt hc66 | omega) ar_66 (len_E ar_66 (by first | exact Nat.ne_of_beq_eq_false rfl | decide)) (by omega) (by omega) (by omega) dX9_becomes_89 (fun H locs hw hS => ?_)
      obtain ⟨X43, hX43⟩ : ∃ Xq, Xq = u3 X16 66 0 (X 40 0 22) (X 56 0 ((5 * x) + k)) := ⟨_, rfl⟩
      rw [← hX43] at hw
      have hRX43 : Rng X43 := by rw [hX43]; exact rng_set hRX16 (show (-1) ≤ (X 56 0 ((5 * x) + k)) ∧ (X 56 0 ((5 * x) + k)) ≤ 399 by omega)
      have hVX43 : X43 66 0 (X 40 0 22) = (X 56 0 ((5 * x) + k)) := by rw [hX43]; exact u3_s _ _ _ _ _
      have hFX43 : Frm [6400, 6500, 6700, 6800, 6600, 4023, 5600] X X43 := by rw [hX43]; exact Frm.set hFX16 (show 6600 ∈ [6400, 6500, 6700, 6800, 6600, 4023, 5600] by first | exact nlm_in rfl | decide)
      refine lv_aload_n hx hb dX9_becomes_90 rfl (lv_at hl 0 rfl) ?_
      refine lv_dup hx hb dX9_becomes_91 rfl ?_
      refine x_geti (jz := 22) hx hb hf9 hw (by first | exact Int.le_refl 0 | omega) (by first | exact zlt hc40 | omega) sl_40_22 rfl lk173 dX9_becomes_92 ?_
      have e44 : X43 40 0 22 = X 40 0 22 := by rw [hX43, u3_k _ _ _ _ (by first | exact Nat.ne_of_beq_eq_false rfl | decide), hX16, u3_k _ _ _ _ (by first | exact Nat.ne_of_beq_eq_false rfl | decide), hX11, u3_k _ _ _ _ (by first | exact Nat.ne_of_beq_eq_false rfl | decide), hX8, u3_k _ _ _ _ (by first | exact Nat.ne_of_beq_eq_false rfl | decide), hX5, u3_k _ _ _ _ (by first | exact Nat.ne_of_beq_eq_false rfl | decide)]
      rw [e44]
      have f45 : 0 ≤ X 40 0 22 ∧ X 40 0 22 ≤ 80 := hR 40 0 22
      refine lv_iconst (v := jI 1) hx hb dX9_becomes_95 rfl ?_
      refine x_iadd hx hb dX9_becomes_96 ?_
      refine x_puti (jz := 22) hx hb hf9 ⟨tyX9_ok, nmX9⟩ hw hS (by first | exact Int.le_refl 0 | omega) (by first | exact zlt hc40 | omega) sl_40_22 rfl lk173 rfl (tyX9_ok 22 (by decide)) rfl rfl dX9_becomes_97 (fun H locs hw hS => ?_)
      obtain ⟨X46, hX46⟩ : ∃ Xq, Xq = u3 X43 40 0 22 ((X 40 0 22) + 1) := ⟨_, rfl⟩
      rw [← hX46] at hw
      have hRX46 : Rng X46 := by rw [hX46]; exact rng_set hRX43 (show 0 ≤ ((X 40 0 22) + 1) ∧ ((X 40 0 22) + 1) ≤ 80 by omega)
      have hVX46 : X46 40 0 22 = ((X 40 0 22) + 1) := by rw [hX46]; exact u3_s _ _ _ _ _
      have hFX46 : Frm [6400, 6500, 6700, 6800, 6600, 4023, 5600] X X46 := by rw [hX46]; exact Frm.set hFX43 (show 4023 ∈ [6400, 6500, 6700, 6800, 6600, 4023, 5600] by first | exact nlm_in rfl | decide)
      refine lv_aload_n hx hb dX9_becomes_100 rfl (lv_at hl 0 rfl) ?_
      refine x_geto hx hb hf9 hw (by first | exact Int.le_refl 0 | omega) (by first | exact zlt hc40 | omega) sl_40_15 lk48 dX9_becomes_101 ?_
      refine lv_iconst (v := jI 5) hx hb dX9_becomes_104 rfl ?_
      refine lv_iload_n hx hb dX9_becomes_105 rfl (lv_at hl 1 rfl) ?_
      refine x_imul hx hb dX9_becomes_106 ?_
      refine lv_iload_n hx hb dX9_becomes_107 rfl (lv_at hl 2 rfl) ?_
      refine x_iadd hx hb dX9_becomes_108 ?_
      refine lv_lload_n hx hb dX9_becomes_109 rfl (lv_at hl 3 rfl) ?_
      refine x_last hx hb hK.1 hw hS (by first | exact Int.le_refl 0 | omega) (by first | exact zlt hc56 | omega) ar_56 (len_E ar_56 (by first | exact Nat.ne_of_beq_eq_false rfl | decide)) (by omega) (by omega) (by omega) dX9_becomes_110 (fun H locs hw hS => ?_)
      obtain ⟨X47, hX47⟩ : ∃ Xq, Xq = u3 X46 56 0 ((5 * x) + k) v := ⟨_, rfl⟩
      rw [← hX47] at hw
      have hRX47 : Rng X47 := by rw [hX47]; exact rng_set hRX46 (show (-9223372036854775808) ≤ v ∧ v ≤ 9223372036854775807 by omega)
      have hVX47 : X47 56 0 ((5 * x) + k) = v := by rw [hX47]; exact u3_s _ _ _ _ _
      have hFX47 : Frm [6400, 6500, 6700, 6800, 6600, 4023, 5600] X X47 := by rw [hX47]; exact Frm.set hFX46 (show 5600 ∈ [6400, 6500, 6700, 6800, 6600, 4023, 5600] by first | exact nlm_in rfl | decide)
      rw [hQ9]
      refine ret_v (mc := 0) (ms := 0) hx hb hr hlocks hw hS (by first | exact Nat.le_of_ble_eq_true rfl | omega) (by first | exact Nat.le_of_ble_eq_true rfl | omega) dX9_becomes_111 ?_
      have q49 : Frm [4001, 6400, 6500, 6600, 6700, 6800, 4023, 5900] X X5 := by rw [hX5]; exact Frm.set Frm.rf (show 6400 ∈ [4001, 6400, 6500, 6600, 6700, 6800, 4023, 5900] by first | exact nlm_in rfl | decide)
      have q50 : Frm [4001, 6400, 6500, 6600, 6700, 6800, 4023, 5900] X X8 := by rw [hX8]; exact Frm.set q49 (show 6500 ∈ [4001, 6400, 6500, 6600, 6700, 6800, 4023, 5900] by first | exact nlm_in rfl | decide)
      have q51 : Frm [4001, 6400, 6500, 6600, 6700, 6800, 4023, 5900] X X11 := by rw [hX11]; exact Frm.set q50 (show 6700 ∈ [4001, 6400, 6500, 6600, 6700, 6800, 4023, 5900] by first | exact nlm_in rfl | decide)
      have q52 : Frm [4001, 6400, 6500, 6600, 6700, 6800, 4023, 5900] X X16 := by rw [hX16]; exact Frm.set q51 (show 6800 ∈ [4001, 6400, 6500, 6600, 6700, 6800, 4023, 5900] by first | exact nlm_in rfl | decide)
      have q53 : Frm [4001, 6400, 6500, 6600, 6700, 6800, 4023, 5900] X X43 := by rw [hX43]; exact Frm.set q52 (show 6600 ∈ [4001, 6400, 6500, 6600, 6700, 6800, 4023, 5900] by first | exact nlm_in rfl | decide)
      have q54 : Frm [4001, 6400, 6500, 6600, 6700, 6800, 4023, 5900] X X46 := by rw [hX46]; exact Frm.set q53 (show 4023 ∈ [4001, 6400, 6500, 6600, 6700, 6800, 4023, 5900] by first | exact nlm_in rfl | decide)
      have hMn48 : MInv X46 := minv_note (th := x) (fd := k) (rw := 0) (it := -1) (ws := X 56 0 (5 * x + k)) hMI (by omega) q54 (by exact hVX46) (fun j hj => ⟨(by rw [hX46, u3_k _ _ _ _ (by first | exact Nat.ne_of_beq_eq_false rfl | decide), hX43, u3_k _ _ _ _ (by first | exact Nat.ne_of_beq_eq_false rfl | decide), hX16, u3_k _ _ _ _ (by first | exact Nat.ne_of_beq_eq_false rfl | decide), hX11, u3_k _ _ _ _ (by first | exact Nat.ne_of_beq_eq_false rfl | decide), hX8, u3_k _ _ _ _ (by first | exact Nat.ne_of_beq_eq_false rfl | decide), hX5, u3_j _ _ _ _ (by omega)]), (by rw [hX46, u3_k _ _ _ _ (by first | exact Nat.ne_of_beq_eq_false rfl | decide), hX43, u3_k _ _ _ _ (by first | exact Nat.ne_of_beq_eq_false rfl | decide), hX16, u3_k _ _ _ _ (by first | exact Nat.ne_of_beq_eq_false rfl | decide), hX11, u3_k _ _ _ _ (by first | exact Nat.ne_of_beq_eq_false rfl | decide), hX8, u3_j _ _ _ _ (by omega), hX5, u3_k _ _ _ _ (by first | exact Nat.ne_of_beq_eq_false rfl | decide)]), (by rw [hX46, u3_k _ _ _ _ (by first | exact Nat.ne_of_beq_eq_false rfl | decide), hX43, u3_j _ _ _ _ (by omega), hX16, u3_k _ _ _ _ (by first | exact Nat.ne_of_beq_eq_false rfl | decide), hX11, u3_k _ _ _ _ (by first | exact Nat.ne_of_beq_eq_false rfl | decide), hX8, u3_k _ _ _ _ (by first | exact Nat.ne_of_beq_eq_false rfl | decide), hX5, u3_k _ _ _ _ (by first | exact Nat.ne_of_beq_eq_false rfl | decide)]), (by rw [hX46, u3_k _ _ _ _ (by first | exact Nat.ne_of_beq_eq_false rfl | decide), hX43, u3_k _ _ _ _ (by first | exact Nat.ne_of_beq_eq_false rfl | decide), hX16, u3_k _ _ _ _ (by first | exact Nat.ne_of_beq_eq_false rfl | decide), hX11, u3_j _ _ _ _ (by omega), hX8, u3_k _ _ _ _ (by first | exact Nat.ne_of_beq_eq_false rfl | decide), hX5, u3_k _ _ _ _ (by first | exact Nat.ne_of_beq_eq_false rfl | decide)]), (by rw [hX46, u3_k _ _ _ _ (by first | exact Nat.ne_of_beq_eq_false rfl | decide), hX43, u3_k _ _ _ _ (by first | exact Nat.ne_of_beq_eq_false rfl | decide), hX16, u3_j _ _ _ _ (by omega), hX11, u3_k _ _ _ _ (by first | exact Nat.ne_of_beq_eq_false rfl | decide), hX8, u3_k _ _ _ _ (by first | exact Nat.ne_of_beq_eq_false rfl | decide), hX5, u3_k _ _ _ _ (by first | exact Nat.ne_of_beq_eq_false rfl | decide)])⟩) (by rw [hX46, u3_k _ _ _ _ (by first | exact Nat.ne_of_beq_eq_false rfl | decide), hX43, u3_k _ _ _ _ (by first | exact Nat.ne_of_beq_eq_false rfl | decide), hX16, u3_k _ _ _ _ (by first | exact Nat.ne_of_beq_eq_false rfl | decide)]; exact hVX11) ⟨fun _ => ⟨(by rw [hX46, u3_k _ _ _ _ (by first | exact Nat.ne_of_beq_eq_false rfl | decide), hX43, u3_k _ _ _ _ (by first | exact Nat.ne_of_beq_eq_false rfl | decide), hX16, u3_k _ _ _ _ (by first | exact Nat.ne_of_beq_eq_false rfl | decide), hX11, u3_k _ _ _ _ (by first | exact Nat.ne_of_beq_eq_false rfl | decide), hX8, u3_k _ _ _ _ (by first | exact Nat.ne_of_beq_eq_false rfl | decide)]; exact hVX5), (by rw [hX46, u3_k _ _ _ _ (by first | exact Nat.ne_of_beq_eq_false rfl | decide), hX43, u3_k _ _ _ _ (by first | exact Nat.ne_of_beq_eq_false rfl | decide), hX16, u3_k _ _ _ _ (by first | exact Nat.ne_of_beq_eq_false rfl | decide), hX11, u3_k _ _ _ _ (by first | exact Nat.ne_of_beq_eq_false rfl | decide)]; exact hVX8), (by rw [hX46, u3_k _ _ _ _ (by first | exact Nat.ne_of_beq_eq_false rfl | decide), hX43, u3_k _ _ _ _ (by first | exact Nat.ne_of_beq_eq_false rfl | decide)]; exact hVX16), by omega, by omega, hMI.1 x k (by omega) (by omega) (by omega) (by omega)⟩, fun q => by omega⟩
      have e55 : X46 40 0 13 = X 40 0 13 := by rw [hX46, u3_j _ _ _ _ (by decide), hX43, u3_k _ _ _ _ (by first | exact Nat.ne_of_beq_eq_false rfl | decide), hX16, u3_k _ _ _ _ (by first | exact Nat.ne_of_beq_eq_false rfl | decide), hX11, u3_k _ _ _ _ (by first | exact Nat.ne_of_beq_eq_false rfl | decide), hX8, u3_k _ _ _ _ (by first | exact Nat.ne_of_beq_eq_false rfl | decide), hX5, u3_k _ _ _ _ (by first | exact Nat.ne_of_beq_eq_false rfl | decide)]
      have e56 : ∀ j : Int, X46 44 0 j = X 44 0 j := fun j => by rw [hX46, u3_k _ _ _ _ (by first | exact Nat.ne_of_beq_eq_false rfl | decide), hX43, u3_k _ _ _ _ (by first | exact Nat.ne_of_beq_eq_false rfl | decide), hX16, u3_k _ _ _ _ (by first | exact Nat.ne_of_beq_eq_false rfl | decide), hX11, u3_k _ _ _ _ (by first | exact Nat.ne_of_beq_eq_false rfl | decide), hX8, u3_k _ _ _ _ (by first | exact Nat.ne_of_beq_eq_false rfl | decide), hX5, u3_k _ _ _ _ (by first | exact Nat.ne_of_beq_eq_false rfl | decide)]
      have e57 : ∀ j : Int, X46 46 0 j = X 46 0 j := fun j => by rw [hX46, u3_k _ _ _ _ (by first | exact Nat.ne_of_beq_eq_false rfl | decide), hX43, u3_k _ _ _ _ (by first | exact Nat.ne_of_beq_eq_false rfl | decide), hX16, u3_k _ _ _ _ (by first | exact Nat.ne_of_beq_eq_false rfl | decide), hX11, u3_k _ _ _ _ (by first | exact Nat.ne_of_beq_eq_false rfl | decide), hX8, u3_k _ _ _ _ (by first | exact Nat.ne_of_beq_eq_false rfl | decide), hX5, u3_k _ _ _ _ (by first | exact Nat.ne_of_beq_eq_false rfl | decide)]
      have e58 : ∀ j : Int, X46 55 0 j = X 55 0 j := fun j => by rw [hX46, u3_k _ _ _ _ (by first | exact Nat.ne_of_beq_eq_false rfl | decide), hX43, u3_k _ _ _ _ (by first | exact Nat.ne_of_beq_eq_false rfl | decide), hX16, u3_k _ _ _ _ (by first | exact Nat.ne_of_beq_eq_false rfl | decide), hX11, u3_k _ _ _ _ (by first | exact Nat.ne_of_beq_eq_false rfl | decide), hX8, u3_k _ _ _ _ (by first | exact Nat.ne_of_beq_eq_false rfl | decide), hX5, u3_k _ _ _ _ (by first | exact Nat.ne_of_beq_eq_false rfl | decide)]
      refine ⟨X47, rfl, hRX47, hFX47, ?g9p67, ?g9p68, ?g9p69, ?g9p70, ?g9p71⟩
      case g9p67 => rw [hX47]; exact minv_xval hMn48 hRX46 (by omega) (by simp only [e55, e56, e57, e58]; omega) (by omega) (by simp only [e55, e56, e57, e58]; omega) (by simp only [e55, e56, e57, e58]; exact htv)
      case g9p68 => omega
      case g9p69 => exact Or.inr ⟨by omega, (by rw [hX47, u3_k _ _ _ _ (by first | exact Nat.ne_of_beq_eq_false rfl | decide)]; exact hVX46), ⟨(by rw [hX47, u3_k _ _ _ _ (by first | exact Nat.ne_of_beq_eq_false rfl | decide), hX46, u3_k _ _ _ _ (by first | exact Nat.ne_of_beq_eq_false rfl | decide), hX43, u3_k _ _ _ _ (by first | exact Nat.ne_of_beq_eq_false rfl | decide), hX16, u3_k _ _ _ _ (by first | exact Nat.ne_of_beq_eq_false rfl | decide), hX11, u3_k _ _ _ _ (by first | exact Nat.ne_of_beq_eq_false rfl | decide), hX8, u3_k _ _ _ _ (by first | exact Nat.ne_of_beq_eq_false rfl | decide)]; exact hVX5), (by rw [hX47, u3_k _ _ _ _ (by first | exact Nat.ne_of_beq_eq_false rfl | decide), hX46, u3_k _ _ _ _ (by first | exact Nat.ne_of_beq_eq_false rfl | decide), hX43, u3_k _ _ _ _ (by first | exact Nat.ne_of_beq_eq_false rfl | decide), hX16, u3_k _ _ _ _ (by first | exact Nat.ne_of_beq_eq_false rfl | decide), hX11, u3_k _ _ _ _ (by first | exact Nat.ne_of_beq_eq_false rfl | decide)]; exact hVX8), (by rw [hX47, u3_k _ _ _ _ (by first | exact Nat.ne_of_beq_eq_false rfl | decide), hX46, u3_k _ _ _ _ (by first | exact Nat.ne_of_beq_eq_false rfl | decide)]; rw [hVX43]; split <;> omega), (by rw [hX47, u3_k _ _ _ _ (by first | exact Nat.ne_of_beq_eq_false rfl | decide), hX46, u3_k _ _ _ _ (by first | exact Nat.ne_of_beq_eq_false rfl | decide), hX43, u3_k _ _ _ _ (by first | exact Nat.ne_of_beq_eq_false rfl | decide), hX16, u3_k _ _ _ _ (by first | exact Nat.ne_of_beq_eq_false rfl | decide)]; exact hVX11), (by rw [hX47, u3_k _ _ _ _ (by first | exact Nat.ne_of_beq_eq_false rfl | decide), hX46, u3_k _ _ _ _ (by first | exact Nat.ne_of_beq_eq_false rfl | decide), hX43, u3_k _ _ _ _ (by first | exact Nat.ne_of_beq_eq_false rfl | decide)]; exact hVX16)⟩, fun y hy => ⟨(by rw [hX47, u3_k _ _ _ _ (by first | exact Nat.ne_of_beq_eq_false rfl | decide), hX46, u3_k _ _ _ _ (by first | exact Nat.ne_of_beq_eq_false rfl | decide), hX43, u3_k _ _ _ _ (by first | exact Nat.ne_of_beq_eq_false rfl | decide), hX16, u3_k _ _ _ _ (by first | exact Nat.ne_of_beq_eq_false rfl | decide), hX11, u3_k _ _ _ _ (by first | exact Nat.ne_of_beq_eq_false rfl | decide), hX8, u3_k _ _ _ _ (by first | exact Nat.ne_of_beq_eq_false rfl | decide), hX5, u3_j _ _ _ _ hy]), (by rw [hX47, u3_k _ _ _ _ (by first | exact Nat.ne_of_beq_eq_false rfl | decide), hX46, u3_k _ _ _ _ (by first | exact Nat.ne_of_beq_eq_false rfl | decide), hX43, u3_k _ _ _ _ (by first | exact Nat.ne_of_beq_eq_false rfl | decide), hX16, u3_k _ _ _ _ (by first | exact Nat.ne_of_beq_eq_false rfl | decide), hX11, u3_k _ _ _ _ (by first | exact Nat.ne_of_beq_eq_false rfl | decide), hX8, u3_j _ _ _ _ hy, hX5, u3_k _ _ _ _ (by first | exact Nat.ne_of_beq_eq_false rfl | decide)]), (by rw [hX47, u3_k _ _ _ _ (by first | exact Nat.ne_of_beq_eq_false rfl | decide), hX46, u3_k _ _ _ _ (by first | exact Nat.ne_of_beq_eq_false rfl | decide), hX43, u3_j _ _ _ _ hy, hX16, u3_k _ _ _ _ (by first | exact Nat.ne_of_beq_eq_false rfl | decide), hX11, u3_k _ _ _ _ (by first | exact Nat.ne_of_beq_eq_false rfl | decide), hX8, u3_k _ _ _ _ (by first | exact Nat.ne_of_beq_eq_false rfl | decide), hX5, u3_k _ _ _ _ (by first | exact Nat.ne_of_beq_eq_false rfl | decide)]), (by rw [hX47, u3_k _ _ _ _ (by first | exact Nat.ne_of_beq_eq_false rfl | decide), hX46, u3_k _ _ _ _ (by first | exact Nat.ne_of_beq_eq_false rfl | decide), hX43, u3_k _ _ _ _ (by first | exact Nat.ne_of_beq_eq_false rfl | decide), hX16, u3_k _ _ _ _ (by first | exact Nat.ne_of_beq_eq_false rfl | decide), hX11, u3_j _ _ _ _ hy, hX8, u3_k _ _ _ _ (by first | exact Nat.ne_of_beq_eq_false rfl | decide), hX5, u3_k _ _ _ _ (by first | exact Nat.ne_of_beq_eq_false rfl | decide)]), (by rw [hX47, u3_k _ _ _ _ (by first | exact Nat.ne_of_beq_eq_false rfl | decide), hX46, u3_k _ _ _ _ (by first | exact Nat.ne_of_beq_eq_false rfl | decide), hX43, u3_k _ _ _ _ (by first | exact Nat.ne_of_beq_eq_false rfl | decide), hX16, u3_j _ _ _ _ hy, hX11, u3_k _ _ _ _ (by first | exact Nat.ne_of_beq_eq_false rfl | decide), hX8, u3_k _ _ _ _ (by first | exact Nat.ne_of_beq_eq_false rfl | decide), hX5, u3_k _ _ _ _ (by first | exact Nat.ne_of_beq_eq_false rfl | decide)])⟩⟩
      case g9p70 => exact hVX47
      case g9p71 => exact fun y hy => (by rw [hX47, u3_j _ _ _ _ hy, hX46, u3_k _ _ _ _ (by first | exact Nat.ne_of_beq_eq_false rfl | decide), hX43, u3_k _ _ _ _ (by first | exact Nat.ne_of_beq_eq_false rfl | decide), hX16, u3_k _ _ _ _ (by first | exact Nat.ne_of_beq_eq_false rfl | decide), hX11, u3_k _ _ _ _ (by first | exact Nat.ne_of_beq_eq_false rfl | decide), hX8, u3_k _ _ _ _ (by first | exact Nat.ne_of_beq_eq_false rfl | decide), hX5, u3_k _ _ _ _ (by first | exact Nat.ne_of_beq_eq_false rfl | decide)])

