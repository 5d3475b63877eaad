set_option maxHeartbeats 4000000 in
set_option maxRecDepth 100000 in
theorem c_X9_mark (l : Launch) (D : va_G) (tc : Nat → ClassId) (base : Nat) (ad : Nat → Int → Nat) (cnt : Nat → Int) (X : Nat → Int → Int → Int) (Y : Nat → Int → Int → Option Int) (ln : Int → Int) (hR : Rng X) (hFx : Fx cnt) (hMI : MInv X)  : KI l D tc base yX9_mark wsX9_mark ({ frames := 0, cells := 0, slots := 0, locals := 0 } : Room) [.ref (ad 40 0)] (ad, cnt, X, Y, ln) 0 0 (fun z u => ∃ X1 : Nat → Int → Int → Int, u = (ad, cnt, X1, Y, ln) ∧ Rng X1 ∧ Frm [4001, 6200, 4021] X X1 ∧ MInv X1 ∧ (-2147483648 ≤ z ∧ z ≤ 2147483647) ∧ ((X 40 0 20 = 4 ∧ z = -4 ∧ X1 40 0 20 = X 40 0 20) ∨ (X 40 0 20 < 4 ∧ z = X 40 0 20 + 1 ∧ X1 40 0 20 = X 40 0 20 + 1)) ∧ (0 ≤ z → X1 62 0 (X 40 0 20) = X 40 0 22) ∧ (∀ j, j ≠ X 40 0 20 → X1 62 0 j = X 62 0 j) ∧ (z < 0 → Frm [4001] X X1)) := by
  refine K_of (cc := cX9_mark) (maxL := 1) (ret := (some .int)) (by decide) rfl (Nat.le_of_ble_eq_true rfl) ?_
  intro p e s m below meth c ls hx hb hr hml hown hts hlocks hl hK hw hS
  have hown : s.vm.findClass RX9 = some m.cls := hown
  obtain ⟨av9, hav9⟩ : ∃ a9 : Array Value, a9 = ([.ref (ad 40 0)] : List Value).toArray := ⟨_, rfl⟩
  rw [← hav9] at hts ⊢
  obtain ⟨Q9, hQ9⟩ : ∃ q9Q : State → Prop, q9Q = MQ below (QI D tc base (fun z u => ∃ X1 : Nat → Int → Int → Int, u = (ad, cnt, X1, Y, ln) ∧ Rng X1 ∧ Frm [4001, 6200, 4021] X X1 ∧ MInv X1 ∧ (-2147483648 ≤ z ∧ z ≤ 2147483647) ∧ ((X 40 0 20 = 4 ∧ z = -4 ∧ X1 40 0 20 = X 40 0 20) ∨ (X 40 0 20 < 4 ∧ z = X 40 0 20 + 1 ∧ X1 40 0 20 = X 40 0 20 + 1)) ∧ (0 ≤ z → X1 62 0 (X 40 0 20) = X 40 0 22) ∧ (∀ j, j ≠ X 40 0 20 → X1 62 0 j = X 62 0 j) ∧ (z < 0 → Frm [4001] X X1))) av9 s 0 0 (frA base) := ⟨_, rfl⟩
  rw [← hQ9]
  have hi9 : ∀ w ∈ wsX90, w ∈ wsX9_mark := fun w h => List.mem_cons_of_mem _ (List.mem_append_right _ h)
  have hf9 : fctx s m _ RX9 wsX9_mark D tc RX9 TX9 51 9 := ⟨hts, hi9, hown, hK.1, rfl⟩
  have lk63 := hts (.fieldLink RX9 63 (TX9 21).1 (TX9 21).2.1 (TX9 21).2.2.1) (gj_X9_mark_0 _ (gp_1 (gp_1 gp_h)))
  have lk145 := hts (.fieldLink RX9 145 (TX9 0).1 (TX9 0).2.1 (TX9 0).2.2.1) (gj_X9_mark_0 _ (gp_h))
  have lk165 := hts (.fieldLink RX9 165 (TX9 20).1 (TX9 20).2.1 (TX9 20).2.2.1) (gj_X9_mark_0 _ (gp_1 gp_h))
  have lk173 := hts (.fieldLink RX9 173 (TX9 22).1 (TX9 22).2.1 (TX9 22).2.2.1) (gj_X9_mark_0 _ (gp_1 (gp_1 (gp_1 gp_h))))
  have hc40 : cnt 40 = 1 := hFx.at 40 1 (by decide)
  have hc62 : cnt 62 = 1 := hFx.at 62 1 (by decide)
  have hl : lv_has ls 1 [(0, .ref (ad 40 0))] := hl
  have fstypes : 0 ≤ X 40 0 2 ∧ X 40 0 2 ≤ 8 := hR 40 0 2
  have fsthings : 0 ≤ X 40 0 13 ∧ X 40 0 13 ≤ 30 := hR 40 0 13
  have fsmarks : 0 ≤ X 40 0 20 ∧ X 40 0 20 ≤ 4 := hR 40 0 20
  have fsnotes : 0 ≤ X 40 0 22 ∧ X 40 0 22 ≤ 80 := hR 40 0 22
  refine lv_aload_n hx hb dX9_mark_0 rfl (lv_at hl 0 rfl) ?_
  refine lv_iconst (v := jI 0) hx hb dX9_mark_1 rfl ?_
  refine x_puti (jz := 0) hx hb hf9 ⟨tyX9_ok, nmX9⟩ hw hS (by first | exact Int.le_refl 0 | omega) (by first | exact zlt hc40 | omega) sl_40_0 rfl lk145 rfl (tyX9_ok 0 (by decide)) rfl rfl dX9_mark_2 (fun H locs hw hS => ?_)
  obtain ⟨X1, hX1⟩ : ∃ Xq, Xq = u3 X 40 0 0 0 := ⟨_, rfl⟩
  rw [← hX1] at hw
  have hRX1 : Rng X1 := by rw [hX1]; exact rng_set hR (show (-2147483648) ≤ 0 ∧ 0 ≤ 2147483647 by omega)
  have hVX1 : X1 40 0 0 = 0 := by rw [hX1]; exact u3_s _ _ _ _ _
  have hFX1 : Frm [4001, 6200, 4021] X X1 := by rw [hX1]; exact Frm.set Frm.rf (show 4001 ∈ [4001, 6200, 4021] by decide)
  refine lv_aload_n hx hb dX9_mark_5 rfl (lv_at hl 0 rfl) ?_
  refine x_geti (jz := 20) hx hb hf9 hw (by first | exact Int.le_refl 0 | omega) (by first | exact zlt hc40 | omega) sl_40_20 rfl lk165 dX9_mark_6 ?_
  have e2 : X1 40 0 20 = X 40 0 20 := by rw [hX1, u3_j _ _ _ _ (by decide)]
  rw [e2]
  have f3 : 0 ≤ X 40 0 20 ∧ X 40 0 20 ≤ 4 := hR 40 0 20
  refine lv_iconst (v := jI 4) hx hb dX9_mark_9 rfl ?_
  refine x_icmp_ne (tgt := 16) hx hb (by omega) (by omega) dX9_mark_10 (by decide) (fun c4 => ?_) (fun c4 => ?_)
  · refine lv_aload_n hx hb dX9_mark_16 rfl (lv_at hl 0 rfl) ?_
    refine x_geto hx hb hf9 hw (by first | exact Int.le_refl 0 | omega) (by first | exact zlt hc40 | omega) sl_40_21 lk63 dX9_mark_17 ?_
    refine lv_aload_n hx hb dX9_mark_20 rfl (lv_at hl 0 rfl) ?_
    refine x_geti (jz := 20) hx hb hf9 hw (by first | exact Int.le_refl 0 | omega) (by first | exact zlt hc40 | omega) sl_40_20 rfl lk165 dX9_mark_21 ?_
    have e5 : X1 40 0 20 = X 40 0 20 := by rw [hX1, u3_j _ _ _ _ (by decide)]
    rw [e5]
    have f6 : 0 ≤ X 40 0 20 ∧ X 40 0 20 ≤ 4 := hR 40 0 20
    refine lv_aload_n hx hb dX9_mark_24 rfl (lv_at hl 0 rfl) ?_
    refine x_geti (jz := 22) hx hb hf9 hw (by first | exact Int.le_refl 0 | omega) (by first | exact zlt hc40 | omega) sl_40_22 rfl lk173 dX9_mark_25 ?_
    have e7 : X1 40 0 22 = X 40 0 22 := by rw [hX1, u3_j _ _ _ _ (by decide)]
    rw [e7]
    have f8 : 0 ≤ X 40 0 22 ∧ X 40 0 22 ≤ 80 := hR 40 0 22
    refine x_iast hx hb hK.1 hw hS (by first | exact Int.le_refl 0 | omega) (by first | exact zlt hc62 | omega) ar_62 (len_E ar_62 (by decide)) (by omega) (by omega) (by omega) dX9_mark_28 (fun H locs hw hS => ?_)
    obtain ⟨X9, hX9⟩ : ∃ Xq, Xq = u3 X1 62 0 (X 40 0 20) (X 40 0 22) := ⟨_, rfl⟩
    rw [← hX9] at hw
    have hRX9 : Rng X9 := by rw [hX9]; exact rng_set hRX1 (show 0 ≤ (X 40 0 22) ∧ (X 40 0 22) ≤ 80 by omega)
    have hVX9 : X9 62 0 (X 40 0 20) = (X 40 0 22) := by rw [hX9]; exact u3_s _ _ _ _ _
    have hFX9 : Frm [4001, 6200, 4021] X X9 := by rw [hX9]; exact Frm.set hFX1 (show 6200 ∈ [4001, 6200, 4021] by decide)
    refine lv_aload_n hx hb dX9_mark_29 rfl (lv_at hl 0 rfl) ?_
    refine lv_dup hx hb dX9_mark_30 rfl ?_
    refine x_geti (jz := 20) hx hb hf9 hw (by first | exact Int.le_refl 0 | omega) (by first | exact zlt hc40 | omega) sl_40_20 rfl lk165 dX9_mark_31 ?_
    have e10 : X9 40 0 20 = X 40 0 20 := by rw [hX9, u3_k _ _ _ _ (by decide), hX1, u3_j _ _ _ _ (by decide)]
    rw [e10]
    have f11 : 0 ≤ X 40 0 20 ∧ X 40 0 20 ≤ 4 := hR 40 0 20
    refine lv_iconst (v := jI 1) hx hb dX9_mark_34 rfl ?_
    refine x_iadd hx hb dX9_mark_35 ?_
    refine x_puti (jz := 20) hx hb hf9 ⟨tyX9_ok, nmX9⟩ hw hS (by first | exact Int.le_refl 0 | omega) (by first | exact zlt hc40 | omega) sl_40_20 rfl lk165 rfl (tyX9_ok 20 (by decide)) rfl rfl dX9_mark_36 (fun H locs hw hS => ?_)
    obtain ⟨X12, hX12⟩ : ∃ Xq, Xq = u3 X9 40 0 20 ((X 40 0 20) + 1) := ⟨_, rfl⟩
    rw [← hX12] at hw
    have hRX12 : Rng X12 := by rw [hX12]; exact rng_set hRX9 (show 0 ≤ ((X 40 0 20) + 1) ∧ ((X 40 0 20) + 1) ≤ 4 by omega)
    have hVX12 : X12 40 0 20 = ((X 40 0 20) + 1) := by rw [hX12]; exact u3_s _ _ _ _ _
    have hFX12 : Frm [4001, 6200, 4021] X X12 := by rw [hX12]; exact Frm.set hFX9 (show 4021 ∈ [4001, 6200, 4021] by decide)
    refine lv_aload_n hx hb dX9_mark_39 rfl (lv_at hl 0 rfl) ?_
    refine x_geti (jz := 20) hx hb hf9 hw (by first | exact Int.le_refl 0 | omega) (by first | exact zlt hc40 | omega) sl_40_20 rfl lk165 dX9_mark_40 ?_
    rw [hVX12]
    rw [hQ9]
    refine ret_i (mc := 0) (ms := 0) hx hb hr hlocks hw hS (by first | exact Nat.le_of_ble_eq_true rfl | omega) (by first | exact Nat.le_of_ble_eq_true rfl | omega) dX9_mark_43 ?_
    have e13 : X12 40 0 20 = ((X 40 0 20) + 1) := (by exact hVX12)
    exact ⟨X12, rfl, hRX12, hFX12, minv_mark hMI hR hFX12 (fun j hj => (by rw [hX12, u3_k _ _ _ _ (by decide), hX9, u3_j _ _ _ _ hj, hX1, u3_k _ _ _ _ (by decide)])) (by rw [hX12, u3_k _ _ _ _ (by decide)]; exact hVX9) hVX12, by omega, by omega, fun _ => (by rw [hX12, u3_k _ _ _ _ (by decide)]; exact hVX9), (fun j hj => (by rw [hX12, u3_k _ _ _ _ (by decide), hX9, u3_j _ _ _ _ hj, hX1, u3_k _ _ _ _ (by decide)])), fun q => (by exfalso; omega)⟩
  · refine lv_bipush (v := jI (-4)) hx hb dX9_mark_13 (by decide) ?_
    rw [hQ9]
    refine ret_i (mc := 0) (ms := 0) hx hb hr hlocks hw hS (by first | exact Nat.le_of_ble_eq_true rfl | omega) (by first | exact Nat.le_of_ble_eq_true rfl | omega) dX9_mark_15 ?_
    have q15 : Frm [4001] X X1 := by rw [hX1]; exact Frm.set Frm.rf (show 4001 ∈ [4001] by decide)
    have hMq14 : MInv X1 := minv_frm hMI q15 (by decide)
    have e16 : X1 40 0 20 = X 40 0 20 := (by rw [hX1, u3_j _ _ _ _ (by decide)])
    have q17 : Frm [4001] X X1 := by rw [hX1]; exact Frm.set Frm.rf (show 4001 ∈ [4001] by decide)
    exact ⟨X1, rfl, hRX1, hFX1, hMq14, by omega, by omega, fun q => (by exfalso; omega), (fun j _ => (by rw [hX1, u3_k _ _ _ _ (by decide)])), fun _ => q17⟩
