set_option maxHeartbeats 4000000 in
set_option maxRecDepth 100000 in
theorem c_X9_forget (l : Launch) (D : va_G) (tc : Nat → ClassId) (base : Nat) (ad : Nat → Int → Nat) (cnt : Nat → Int) (X : Nat → Int → Int → Int) (Y : Nat → Int → Int → Option Int) (ln : Int → Int) (hR : Rng X) (hFx : Fx cnt) (hMI : MInv X)  : KI l D tc base yX9_forget wsX9_forget ({ frames := 0, cells := 0, slots := 0, locals := 0 } : Room) [.ref (ad 40 0)] (ad, cnt, X, Y, ln) 0 0 (fun z u => ∃ X1 : Nat → Int → Int → Int, u = (ad, cnt, X1, Y, ln) ∧ Rng X1 ∧ Frm [4001, 4014] X X1 ∧ MInv X1 ∧ (-2147483648 ≤ z ∧ z ≤ 2147483647) ∧ ((0 < X 40 0 20 ∧ z = -3 ∧ X1 40 0 13 = X 40 0 13) ∨ (X 40 0 20 = 0 ∧ z = X 40 0 13 ∧ X1 40 0 13 = 0))) := by
  refine K_of (cc := cX9_forget) (maxL := 2) (ret := (some .int)) (by decide) rfl (Nat.le_of_ble_eq_true rfl) ?_
  intro p e s m below meth c ls hx hb hr hml hown hts hlocks hl hK hw hS
  have hown : s.vm.findClass RX9 = some m.cls := hown
  obtain ⟨av9, hav9⟩ : ∃ a9 : Array Value, a9 = ([.ref (ad 40 0)] : List Value).toArray := ⟨_, rfl⟩
  rw [← hav9] at hts ⊢
  obtain ⟨Q9, hQ9⟩ : ∃ q9Q : State → Prop, q9Q = MQ below (QI D tc base (fun z u => ∃ X1 : Nat → Int → Int → Int, u = (ad, cnt, X1, Y, ln) ∧ Rng X1 ∧ Frm [4001, 4014] X X1 ∧ MInv X1 ∧ (-2147483648 ≤ z ∧ z ≤ 2147483647) ∧ ((0 < X 40 0 20 ∧ z = -3 ∧ X1 40 0 13 = X 40 0 13) ∨ (X 40 0 20 = 0 ∧ z = X 40 0 13 ∧ X1 40 0 13 = 0)))) av9 s 0 0 (frA base) := ⟨_, rfl⟩
  rw [← hQ9]
  have hi9 : ∀ w ∈ wsX90, w ∈ wsX9_forget := fun w h => List.mem_cons_of_mem _ (List.mem_append_right _ h)
  have hf9 : fctx s m _ RX9 wsX9_forget D tc RX9 TX9 51 9 := ⟨hts, hi9, hown, hK.1, rfl⟩
  have lk145 := hts (.fieldLink RX9 145 (TX9 0).1 (TX9 0).2.1 (TX9 0).2.2.1) (gj_X9_forget_0 _ (gp_h))
  have lk151 := hts (.fieldLink RX9 151 (TX9 13).1 (TX9 13).2.1 (TX9 13).2.2.1) (gj_X9_forget_0 _ (gp_1 (gp_1 gp_h)))
  have lk165 := hts (.fieldLink RX9 165 (TX9 20).1 (TX9 20).2.1 (TX9 20).2.2.1) (gj_X9_forget_0 _ (gp_1 gp_h))
  have hc40 : cnt 40 = 1 := hFx.at 40 1 (by decide)
  have hl : lv_has ls 2 [(0, .ref (ad 40 0))] := hl
  have fstypes : 0 ≤ X 40 0 2 ∧ X 40 0 2 ≤ 8 := hR 40 0 2
  have fsthings : 0 ≤ X 40 0 13 ∧ X 40 0 13 ≤ 30 := hR 40 0 13
  have fsmarks : 0 ≤ X 40 0 20 ∧ X 40 0 20 ≤ 4 := hR 40 0 20
  have fsnotes : 0 ≤ X 40 0 22 ∧ X 40 0 22 ≤ 80 := hR 40 0 22
  refine lv_aload_n hx hb dX9_forget_0 rfl (lv_at hl 0 rfl) ?_
  refine lv_iconst (v := jI 0) hx hb dX9_forget_1 rfl ?_
  refine x_puti (jz := 0) hx hb hf9 ⟨tyX9_ok, nmX9⟩ hw hS (by first | exact Int.le_refl 0 | omega) (by first | exact zlt hc40 | omega) sl_40_0 rfl lk145 rfl (tyX9_ok 0 (by decide)) rfl rfl dX9_forget_2 (fun H locs hw hS => ?_)
  obtain ⟨X1, hX1⟩ : ∃ Xq, Xq = u3 X 40 0 0 0 := ⟨_, rfl⟩
  rw [← hX1] at hw
  have hRX1 : Rng X1 := by rw [hX1]; exact rng_set hR (show (-2147483648) ≤ 0 ∧ 0 ≤ 2147483647 by omega)
  have hVX1 : X1 40 0 0 = 0 := by rw [hX1]; exact u3_s _ _ _ _ _
  have hFX1 : Frm [4001, 4014] X X1 := by rw [hX1]; exact Frm.set Frm.rf (show 4001 ∈ [4001, 4014] by decide)
  refine lv_aload_n hx hb dX9_forget_5 rfl (lv_at hl 0 rfl) ?_
  refine x_geti (jz := 20) hx hb hf9 hw (by first | exact Int.le_refl 0 | omega) (by first | exact zlt hc40 | omega) sl_40_20 rfl lk165 dX9_forget_6 ?_
  have e2 : X1 40 0 20 = X 40 0 20 := by rw [hX1, u3_j _ _ _ _ (by decide)]
  rw [e2]
  have f3 : 0 ≤ X 40 0 20 ∧ X 40 0 20 ≤ 4 := hR 40 0 20
  refine x_if_le (tgt := 15) hx hb (by omega) dX9_forget_9 (by decide) (fun c4 => ?_) (fun c4 => ?_)
  · refine lv_aload_n hx hb dX9_forget_15 rfl (lv_at hl 0 rfl) ?_
    refine x_geti (jz := 13) hx hb hf9 hw (by first | exact Int.le_refl 0 | omega) (by first | exact zlt hc40 | omega) sl_40_13 rfl lk151 dX9_forget_16 ?_
    have e5 : X1 40 0 13 = X 40 0 13 := by rw [hX1, u3_j _ _ _ _ (by decide)]
    rw [e5]
    have f6 : 0 ≤ X 40 0 13 ∧ X 40 0 13 ≤ 30 := hR 40 0 13
    refine lv_istore_n (lv' := [(1, .int (jI (X 40 0 13))), (0, .ref (ad 40 0))]) hx hb dX9_forget_19 rfl hl (by decide) rfl (fun ls hl => ?_)
    refine lv_aload_n hx hb dX9_forget_20 rfl (lv_at hl 1 rfl) ?_
    refine lv_iconst (v := jI 0) hx hb dX9_forget_21 rfl ?_
    refine x_puti (jz := 13) hx hb hf9 ⟨tyX9_ok, nmX9⟩ hw hS (by first | exact Int.le_refl 0 | omega) (by first | exact zlt hc40 | omega) sl_40_13 rfl lk151 rfl (tyX9_ok 13 (by decide)) rfl rfl dX9_forget_22 (fun H locs hw hS => ?_)
    obtain ⟨X7, hX7⟩ : ∃ Xq, Xq = u3 X1 40 0 13 0 := ⟨_, rfl⟩
    rw [← hX7] at hw
    have hRX7 : Rng X7 := by rw [hX7]; exact rng_set hRX1 (show 0 ≤ 0 ∧ 0 ≤ 30 by omega)
    have hVX7 : X7 40 0 13 = 0 := by rw [hX7]; exact u3_s _ _ _ _ _
    have hFX7 : Frm [4001, 4014] X X7 := by rw [hX7]; exact Frm.set hFX1 (show 4014 ∈ [4001, 4014] by decide)
    refine lv_iload_n hx hb dX9_forget_25 rfl (lv_at hl 0 rfl) ?_
    rw [hQ9]
    refine ret_i (mc := 0) (ms := 0) hx hb hr hlocks hw hS (by first | exact Nat.le_of_ble_eq_true rfl | omega) (by first | exact Nat.le_of_ble_eq_true rfl | omega) dX9_forget_26 ?_
    have e8 : X7 40 0 13 = 0 := (by exact hVX7)
    exact ⟨X7, rfl, hRX7, hFX7, minv_forget hMI (by omega) hFX7 hVX7, by omega, (by (try delta Hid at *); first | exact Or.inr (⟨by omega, by omega, by omega⟩) | exact Or.inl ⟨by omega, by omega, by omega⟩)⟩
  · refine lv_bipush (v := jI (-3)) hx hb dX9_forget_12 (by decide) ?_
    rw [hQ9]
    refine ret_i (mc := 0) (ms := 0) hx hb hr hlocks hw hS (by first | exact Nat.le_of_ble_eq_true rfl | omega) (by first | exact Nat.le_of_ble_eq_true rfl | omega) dX9_forget_14 ?_
    have q10 : Frm [4001] X X1 := by rw [hX1]; exact Frm.set Frm.rf (show 4001 ∈ [4001] by decide)
    have hMq9 : MInv X1 := minv_frm hMI q10 (by decide)
    have e11 : X1 40 0 13 = X 40 0 13 := (by rw [hX1, u3_j _ _ _ _ (by decide)])
    exact ⟨X1, rfl, hRX1, hFX1, hMq9, by omega, (by (try delta Hid at *); first | exact Or.inl ⟨by omega, by omega, by omega⟩ | exact Or.inr (⟨by omega, by omega, by omega⟩))⟩
