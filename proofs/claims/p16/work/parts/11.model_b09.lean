set_option maxHeartbeats 4000000 in
set_option maxRecDepth 100000 in
theorem c_X9_type (l : Launch) (D : va_G) (tc : Nat → ClassId) (base : Nat) (ad : Nat → Int → Nat) (cnt : Nat → Int) (X : Nat → Int → Int → Int) (Y : Nat → Int → Int → Option Int) (ln : Int → Int) (hR : Rng X) (hFx : Fx cnt) (hMI : MInv X)  : KI l D tc base yX9_type wsX9_type ({ frames := 0, cells := 0, slots := 0, locals := 0 } : Room) [.ref (ad 40 0)] (ad, cnt, X, Y, ln) 0 0 (fun z u => ∃ X1 : Nat → Int → Int → Int, u = (ad, cnt, X1, Y, ln) ∧ Rng X1 ∧ Frm [4001, 4400, 4900, 4003] X X1 ∧ MInv X1 ∧ (-2147483648 ≤ z ∧ z ≤ 2147483647) ∧ ((X 40 0 2 = 8 ∧ z = -4 ∧ X1 40 0 2 = 8) ∨ (X 40 0 2 < 8 ∧ z = X 40 0 2 ∧ X1 40 0 2 = X 40 0 2 + 1 ∧ X1 44 0 (X 40 0 2) = 0 ∧ X1 49 0 (X 40 0 2) = 0)) ∧ (∀ y, y ≠ X 40 0 2 → X1 44 0 y = X 44 0 y) ∧ ∀ y, y ≠ X 40 0 2 → X1 49 0 y = X 49 0 y) := by
  refine K_of (cc := cX9_type) (maxL := 1) (ret := (some .int)) (by decide) rfl (Nat.le_of_ble_eq_true rfl) ?_
  intro p e s m below meth c ls hx hb hr hml hown hts hlocks hl hK hw hS
  have hown : s.vm.findClass RX9 = some m.cls := hown
  obtain ⟨av9, hav9⟩ : ∃ a9 : Array Value, a9 = ([.ref (ad 40 0)] : List Value).toArray := ⟨_, rfl⟩
  rw [← hav9] at hts ⊢
  obtain ⟨Q9, hQ9⟩ : ∃ q9Q : State → Prop, q9Q = MQ below (QI D tc base (fun z u => ∃ X1 : Nat → Int → Int → Int, u = (ad, cnt, X1, Y, ln) ∧ Rng X1 ∧ Frm [4001, 4400, 4900, 4003] X X1 ∧ MInv X1 ∧ (-2147483648 ≤ z ∧ z ≤ 2147483647) ∧ ((X 40 0 2 = 8 ∧ z = -4 ∧ X1 40 0 2 = 8) ∨ (X 40 0 2 < 8 ∧ z = X 40 0 2 ∧ X1 40 0 2 = X 40 0 2 + 1 ∧ X1 44 0 (X 40 0 2) = 0 ∧ X1 49 0 (X 40 0 2) = 0)) ∧ (∀ y, y ≠ X 40 0 2 → X1 44 0 y = X 44 0 y) ∧ ∀ y, y ≠ X 40 0 2 → X1 49 0 y = X 49 0 y)) av9 s 0 0 (frA base) := ⟨_, rfl⟩
  rw [← hQ9]
  have hi9 : ∀ w ∈ wsX90, w ∈ wsX9_type := fun w h => List.mem_cons_of_mem _ (List.mem_append_right _ h)
  have hf9 : fctx s m _ RX9 wsX9_type D tc RX9 TX9 51 9 := ⟨hts, hi9, hown, hK.1, rfl⟩
  have lk13 := hts (.fieldLink RX9 13 (TX9 3).1 (TX9 3).2.1 (TX9 3).2.2.1) (gj_X9_type_0 _ (gp_1 (gp_1 gp_h)))
  have lk30 := hts (.fieldLink RX9 30 (TX9 8).1 (TX9 8).2.1 (TX9 8).2.2.1) (gj_X9_type_0 _ (gp_1 (gp_1 (gp_1 gp_h))))
  have lk145 := hts (.fieldLink RX9 145 (TX9 0).1 (TX9 0).2.1 (TX9 0).2.2.1) (gj_X9_type_0 _ (gp_h))
  have lk148 := hts (.fieldLink RX9 148 (TX9 2).1 (TX9 2).2.1 (TX9 2).2.2.1) (gj_X9_type_0 _ (gp_1 gp_h))
  have hc40 : cnt 40 = 1 := hFx.at 40 1 (by decide)
  have hc44 : cnt 44 = 1 := hFx.at 44 1 (by decide)
  have hc49 : cnt 49 = 1 := hFx.at 49 1 (by decide)
  have hl : lv_has ls 1 [(0, .ref (ad 40 0))] := hl
  have fstypes : 0 ≤ X 40 0 2 ∧ X 40 0 2 ≤ 8 := hR 40 0 2
  have fsthings : 0 ≤ X 40 0 13 ∧ X 40 0 13 ≤ 30 := hR 40 0 13
  have fsmarks : 0 ≤ X 40 0 20 ∧ X 40 0 20 ≤ 4 := hR 40 0 20
  have fsnotes : 0 ≤ X 40 0 22 ∧ X 40 0 22 ≤ 80 := hR 40 0 22
  refine lv_aload_n hx hb dX9_type_0 rfl (lv_at hl 0 rfl) ?_
  refine lv_iconst (v := jI 0) hx hb dX9_type_1 rfl ?_
  refine x_puti (jz := 0) hx hb hf9 ⟨tyX9_ok, nmX9⟩ hw hS (by first | exact Int.le_refl 0 | omega) (by first | exact zlt hc40 | omega) sl_40_0 rfl lk145 rfl (tyX9_ok 0 (by decide)) rfl rfl dX9_type_2 (fun H locs hw hS => ?_)
  obtain ⟨X1, hX1⟩ : ∃ Xq, Xq = u3 X 40 0 0 0 := ⟨_, rfl⟩
  rw [← hX1] at hw
  have hRX1 : Rng X1 := by rw [hX1]; exact rng_set hR (show (-2147483648) ≤ 0 ∧ 0 ≤ 2147483647 by omega)
  have hVX1 : X1 40 0 0 = 0 := by rw [hX1]; exact u3_s _ _ _ _ _
  have hFX1 : Frm [4001, 4400, 4900, 4003] X X1 := by rw [hX1]; exact Frm.set Frm.rf (show 4001 ∈ [4001, 4400, 4900, 4003] by decide)
  refine lv_aload_n hx hb dX9_type_5 rfl (lv_at hl 0 rfl) ?_
  refine x_geti (jz := 2) hx hb hf9 hw (by first | exact Int.le_refl 0 | omega) (by first | exact zlt hc40 | omega) sl_40_2 rfl lk148 dX9_type_6 ?_
  have e2 : X1 40 0 2 = X 40 0 2 := by rw [hX1, u3_j _ _ _ _ (by decide)]
  rw [e2]
  have f3 : 0 ≤ X 40 0 2 ∧ X 40 0 2 ≤ 8 := hR 40 0 2
  refine lv_bipush (v := jI 8) hx hb dX9_type_9 (by decide) ?_
  refine x_icmp_ne (tgt := 17) hx hb (by omega) (by omega) dX9_type_11 (by decide) (fun c4 => ?_) (fun c4 => ?_)
  · refine lv_aload_n hx hb dX9_type_17 rfl (lv_at hl 0 rfl) ?_
    refine x_geto hx hb hf9 hw (by first | exact Int.le_refl 0 | omega) (by first | exact zlt hc40 | omega) sl_40_3 lk13 dX9_type_18 ?_
    refine lv_aload_n hx hb dX9_type_21 rfl (lv_at hl 0 rfl) ?_
    refine x_geti (jz := 2) hx hb hf9 hw (by first | exact Int.le_refl 0 | omega) (by first | exact zlt hc40 | omega) sl_40_2 rfl lk148 dX9_type_22 ?_
    have e5 : X1 40 0 2 = X 40 0 2 := by rw [hX1, u3_j _ _ _ _ (by decide)]
    rw [e5]
    have f6 : 0 ≤ X 40 0 2 ∧ X 40 0 2 ≤ 8 := hR 40 0 2
    refine lv_iconst (v := jI 0) hx hb dX9_type_25 rfl ?_
    refine x_iast hx hb hK.1 hw hS (by first | exact Int.le_refl 0 | omega) (by first | exact zlt hc44 | omega) ar_44 (len_E ar_44 (by decide)) (by omega) (by omega) (by omega) dX9_type_26 (fun H locs hw hS => ?_)
    obtain ⟨X7, hX7⟩ : ∃ Xq, Xq = u3 X1 44 0 (X 40 0 2) 0 := ⟨_, rfl⟩
    rw [← hX7] at hw
    have hRX7 : Rng X7 := by rw [hX7]; exact rng_set hRX1 (show 0 ≤ 0 ∧ 0 ≤ 5 by omega)
    have hVX7 : X7 44 0 (X 40 0 2) = 0 := by rw [hX7]; exact u3_s _ _ _ _ _
    have hFX7 : Frm [4001, 4400, 4900, 4003] X X7 := by rw [hX7]; exact Frm.set hFX1 (show 4400 ∈ [4001, 4400, 4900, 4003] by decide)
    refine lv_aload_n hx hb dX9_type_27 rfl (lv_at hl 0 rfl) ?_
    refine x_geto hx hb hf9 hw (by first | exact Int.le_refl 0 | omega) (by first | exact zlt hc40 | omega) sl_40_8 lk30 dX9_type_28 ?_
    refine lv_aload_n hx hb dX9_type_31 rfl (lv_at hl 0 rfl) ?_
    refine x_geti (jz := 2) hx hb hf9 hw (by first | exact Int.le_refl 0 | omega) (by first | exact zlt hc40 | omega) sl_40_2 rfl lk148 dX9_type_32 ?_
    have e8 : X7 40 0 2 = X 40 0 2 := by rw [hX7, u3_k _ _ _ _ (by decide), hX1, u3_j _ _ _ _ (by decide)]
    rw [e8]
    have f9 : 0 ≤ X 40 0 2 ∧ X 40 0 2 ≤ 8 := hR 40 0 2
    refine lv_iconst (v := jI 0) hx hb dX9_type_35 rfl ?_
    refine x_iast hx hb hK.1 hw hS (by first | exact Int.le_refl 0 | omega) (by first | exact zlt hc49 | omega) ar_49 (len_E ar_49 (by decide)) (by omega) (by omega) (by omega) dX9_type_36 (fun H locs hw hS => ?_)
    obtain ⟨X10, hX10⟩ : ∃ Xq, Xq = u3 X7 49 0 (X 40 0 2) 0 := ⟨_, rfl⟩
    rw [← hX10] at hw
    have hRX10 : Rng X10 := by rw [hX10]; exact rng_set hRX7 (show 0 ≤ 0 ∧ 0 ≤ 4 by omega)
    have hVX10 : X10 49 0 (X 40 0 2) = 0 := by rw [hX10]; exact u3_s _ _ _ _ _
    have hFX10 : Frm [4001, 4400, 4900, 4003] X X10 := by rw [hX10]; exact Frm.set hFX7 (show 4900 ∈ [4001, 4400, 4900, 4003] by decide)
    refine lv_aload_n hx hb dX9_type_37 rfl (lv_at hl 0 rfl) ?_
    refine lv_dup hx hb dX9_type_38 rfl ?_
    refine x_geti (jz := 2) hx hb hf9 hw (by first | exact Int.le_refl 0 | omega) (by first | exact zlt hc40 | omega) sl_40_2 rfl lk148 dX9_type_39 ?_
    have e11 : X10 40 0 2 = X 40 0 2 := by rw [hX10, u3_k _ _ _ _ (by decide), hX7, u3_k _ _ _ _ (by decide), hX1, u3_j _ _ _ _ (by decide)]
    rw [e11]
    have f12 : 0 ≤ X 40 0 2 ∧ X 40 0 2 ≤ 8 := hR 40 0 2
    refine lv_iconst (v := jI 1) hx hb dX9_type_42 rfl ?_
    refine x_iadd hx hb dX9_type_43 ?_
    refine x_puti (jz := 2) hx hb hf9 ⟨tyX9_ok, nmX9⟩ hw hS (by first | exact Int.le_refl 0 | omega) (by first | exact zlt hc40 | omega) sl_40_2 rfl lk148 rfl (tyX9_ok 2 (by decide)) rfl rfl dX9_type_44 (fun H locs hw hS => ?_)
    obtain ⟨X13, hX13⟩ : ∃ Xq, Xq = u3 X10 40 0 2 ((X 40 0 2) + 1) := ⟨_, rfl⟩
    rw [← hX13] at hw
    have hRX13 : Rng X13 := by rw [hX13]; exact rng_set hRX10 (show 0 ≤ ((X 40 0 2) + 1) ∧ ((X 40 0 2) + 1) ≤ 8 by omega)
    have hVX13 : X13 40 0 2 = ((X 40 0 2) + 1) := by rw [hX13]; exact u3_s _ _ _ _ _
    have hFX13 : Frm [4001, 4400, 4900, 4003] X X13 := by rw [hX13]; exact Frm.set hFX10 (show 4003 ∈ [4001, 4400, 4900, 4003] by decide)
    refine lv_aload_n hx hb dX9_type_47 rfl (lv_at hl 0 rfl) ?_
    refine x_geti (jz := 2) hx hb hf9 hw (by first | exact Int.le_refl 0 | omega) (by first | exact zlt hc40 | omega) sl_40_2 rfl lk148 dX9_type_48 ?_
    rw [hVX13]
    refine lv_iconst (v := jI 1) hx hb dX9_type_51 rfl ?_
    refine x_isub hx hb dX9_type_52 ?_
    rw [hQ9]
    refine ret_i (mc := 0) (ms := 0) hx hb hr hlocks hw hS (by first | exact Nat.le_of_ble_eq_true rfl | omega) (by first | exact Nat.le_of_ble_eq_true rfl | omega) dX9_type_53 ?_
    have e14 : X13 40 0 2 = ((X 40 0 2) + 1) := (by exact hVX13)
    have e15 : X13 44 0 (X 40 0 2) = 0 := (by rw [hX13, u3_k _ _ _ _ (by decide), hX10, u3_k _ _ _ _ (by decide)]; exact hVX7)
    have e16 : X13 49 0 (X 40 0 2) = 0 := (by rw [hX13, u3_k _ _ _ _ (by decide)]; exact hVX10)
    exact ⟨X13, rfl, hRX13, hFX13, minv_type hMI hR hFX13 (fun j hj => (by rw [hX13, u3_k _ _ _ _ (by decide), hX10, u3_k _ _ _ _ (by decide), hX7, u3_j _ _ _ _ hj, hX1, u3_k _ _ _ _ (by decide)])) (by rw [hX13, u3_k _ _ _ _ (by decide), hX10, u3_k _ _ _ _ (by decide)]; exact hVX7) hVX13, by omega, by omega, fun y hy => (by rw [hX13, u3_k _ _ _ _ (by decide), hX10, u3_k _ _ _ _ (by decide), hX7, u3_j _ _ _ _ hy, hX1, u3_k _ _ _ _ (by decide)]), fun y hy => (by rw [hX13, u3_k _ _ _ _ (by decide), hX10, u3_j _ _ _ _ hy, hX7, u3_k _ _ _ _ (by decide), hX1, u3_k _ _ _ _ (by decide)])⟩
  · refine lv_bipush (v := jI (-4)) hx hb dX9_type_14 (by decide) ?_
    rw [hQ9]
    refine ret_i (mc := 0) (ms := 0) hx hb hr hlocks hw hS (by first | exact Nat.le_of_ble_eq_true rfl | omega) (by first | exact Nat.le_of_ble_eq_true rfl | omega) dX9_type_16 ?_
    have q18 : Frm [4001] X X1 := by rw [hX1]; exact Frm.set Frm.rf (show 4001 ∈ [4001] by decide)
    have hMq17 : MInv X1 := minv_frm hMI q18 (by decide)
    have e19 : X1 40 0 2 = X 40 0 2 := (by rw [hX1, u3_j _ _ _ _ (by decide)])
    exact ⟨X1, rfl, hRX1, hFX1, hMq17, by omega, by omega, fun y hy => (by rw [hX1, u3_k _ _ _ _ (by decide)]), fun y hy => (by rw [hX1, u3_k _ _ _ _ (by decide)])⟩
