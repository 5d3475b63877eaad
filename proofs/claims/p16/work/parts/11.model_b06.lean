set_option maxHeartbeats 4000000 in
set_option maxRecDepth 100000 in
theorem c_X9_count (l : Launch) (D : va_G) (tc : Nat → ClassId) (base : Nat) (ad : Nat → Int → Nat) (cnt : Nat → Int) (X : Nat → Int → Int → Int) (Y : Nat → Int → Int → Option Int) (ln : Int → Int) (hR : Rng X) (hFx : Fx cnt) (hMI : MInv X) (what : Int) (hwhat : -2147483648 ≤ what ∧ what ≤ 2147483647) : KI l D tc base yX9_count wsX9_count ({ frames := 0, cells := 0, slots := 0, locals := 0 } : Room) [.ref (ad 40 0), .int (jI what)] (ad, cnt, X, Y, ln) 0 0 (fun z u => ∃ X1 : Nat → Int → Int → Int, u = (ad, cnt, X1, Y, ln) ∧ Rng X1 ∧ Frm [4001] X X1 ∧ MInv X1 ∧ (-2147483648 ≤ z ∧ z ≤ 2147483647) ∧ ((what = 0 ∧ z = X 40 0 2) ∨ (what = 1 ∧ z = X 40 0 13) ∨ (what = 2 ∧ z = X 40 0 20) ∨ (what = 3 ∧ z = X 40 0 22) ∨ (¬ (0 ≤ what ∧ what ≤ 3) ∧ z = -2))) := by
  refine K_of (cc := cX9_count) (maxL := 2) (ret := (some .int)) (by decide) rfl (Nat.le_of_ble_eq_true rfl) ?_
  intro p e s m below meth c ls hx hb hr hml hown hts hlocks hl hK hw hS
  have hown : s.vm.findClass RX9 = some m.cls := hown
  obtain ⟨av9, hav9⟩ : ∃ a9 : Array Value, a9 = ([.ref (ad 40 0), .int (jI what)] : List Value).toArray := ⟨_, rfl⟩
  rw [← hav9] at hts ⊢
  obtain ⟨Q9, hQ9⟩ : ∃ q9Q : State → Prop, q9Q = MQ below (QI D tc base (fun z u => ∃ X1 : Nat → Int → Int → Int, u = (ad, cnt, X1, Y, ln) ∧ Rng X1 ∧ Frm [4001] X X1 ∧ MInv X1 ∧ (-2147483648 ≤ z ∧ z ≤ 2147483647) ∧ ((what = 0 ∧ z = X 40 0 2) ∨ (what = 1 ∧ z = X 40 0 13) ∨ (what = 2 ∧ z = X 40 0 20) ∨ (what = 3 ∧ z = X 40 0 22) ∨ (¬ (0 ≤ what ∧ what ≤ 3) ∧ z = -2)))) av9 s 0 0 (frA base) := ⟨_, rfl⟩
  rw [← hQ9]
  have hi9 : ∀ w ∈ wsX90, w ∈ wsX9_count := fun w h => List.mem_cons_of_mem _ (List.mem_append_right _ h)
  have hf9 : fctx s m _ RX9 wsX9_count D tc RX9 TX9 51 9 := ⟨hts, hi9, hown, hK.1, rfl⟩
  have lk145 := hts (.fieldLink RX9 145 (TX9 0).1 (TX9 0).2.1 (TX9 0).2.2.1) (gj_X9_count_0 _ (gp_h))
  have lk148 := hts (.fieldLink RX9 148 (TX9 2).1 (TX9 2).2.1 (TX9 2).2.2.1) (gj_X9_count_0 _ (gp_1 gp_h))
  have lk151 := hts (.fieldLink RX9 151 (TX9 13).1 (TX9 13).2.1 (TX9 13).2.2.1) (gj_X9_count_0 _ (gp_1 (gp_1 gp_h)))
  have lk165 := hts (.fieldLink RX9 165 (TX9 20).1 (TX9 20).2.1 (TX9 20).2.2.1) (gj_X9_count_0 _ (gp_1 (gp_1 (gp_1 gp_h))))
  have lk173 := hts (.fieldLink RX9 173 (TX9 22).1 (TX9 22).2.1 (TX9 22).2.2.1) (gj_X9_count_0 _ (gp_4 gp_h))
  have hc40 : cnt 40 = 1 := hFx.at 40 1 (by decide)
  have hl : lv_has ls 2 [(0, .ref (ad 40 0)), (1, .int (jI what))] := hl
  have fstypes : 0 ≤ X 40 0 2 ∧ X 40 0 2 ≤ 8 := hR 40 0 2
  have fsthings : 0 ≤ X 40 0 13 ∧ X 40 0 13 ≤ 30 := hR 40 0 13
  have fsmarks : 0 ≤ X 40 0 20 ∧ X 40 0 20 ≤ 4 := hR 40 0 20
  have fsnotes : 0 ≤ X 40 0 22 ∧ X 40 0 22 ≤ 80 := hR 40 0 22
  refine lv_aload_n hx hb dX9_count_0 rfl (lv_at hl 0 rfl) ?_
  refine lv_iconst (v := jI 0) hx hb dX9_count_1 rfl ?_
  refine x_puti (jz := 0) hx hb hf9 ⟨tyX9_ok, nmX9⟩ hw hS (by first | exact Int.le_refl 0 | omega) (by first | exact zlt hc40 | omega) sl_40_0 rfl lk145 rfl (tyX9_ok 0 (by decide)) rfl rfl dX9_count_2 (fun H locs hw hS => ?_)
  obtain ⟨X1, hX1⟩ : ∃ Xq, Xq = u3 X 40 0 0 0 := ⟨_, rfl⟩
  rw [← hX1] at hw
  have hRX1 : Rng X1 := by rw [hX1]; exact rng_set hR (show (-2147483648) ≤ 0 ∧ 0 ≤ 2147483647 by omega)
  have hVX1 : X1 40 0 0 = 0 := by rw [hX1]; exact u3_s _ _ _ _ _
  have hFX1 : Frm [4001] X X1 := by rw [hX1]; exact Frm.set Frm.rf (show 4001 ∈ [4001] by decide)
  refine lv_iload_n hx hb dX9_count_5 rfl (lv_at hl 1 rfl) ?_
  refine x_if_ne (tgt := 16) hx hb (by omega) dX9_count_6 (by decide) (fun c2 => ?_) (fun c2 => ?_)
  · refine lv_iload_n hx hb dX9_count_16 rfl (lv_at hl 1 rfl) ?_
    refine lv_iconst (v := jI 1) hx hb dX9_count_17 rfl ?_
    refine x_icmp_ne (tgt := 28) hx hb (by omega) (by omega) dX9_count_18 (by decide) (fun c3 => ?_) (fun c3 => ?_)
    · refine lv_iload_n hx hb dX9_count_28 rfl (lv_at hl 1 rfl) ?_
      refine lv_iconst (v := jI 2) hx hb dX9_count_29 rfl ?_
      refine x_icmp_ne (tgt := 40) hx hb (by omega) (by omega) dX9_count_30 (by decide) (fun c4 => ?_) (fun c4 => ?_)
      · refine lv_iload_n hx hb dX9_count_40 rfl (lv_at hl 1 rfl) ?_
        refine lv_iconst (v := jI 3) hx hb dX9_count_41 rfl ?_
        refine x_icmp_ne (tgt := 52) hx hb (by omega) (by omega) dX9_count_42 (by decide) (fun c5 => ?_) (fun c5 => ?_)
        · refine lv_bipush (v := jI (-2)) hx hb dX9_count_52 (by decide) ?_
          rw [hQ9]
          refine ret_i (mc := 0) (ms := 0) hx hb hr hlocks hw hS (by first | exact Nat.le_of_ble_eq_true rfl | omega) (by first | exact Nat.le_of_ble_eq_true rfl | omega) dX9_count_54 ?_
          have q7 : Frm [4001] X X1 := by rw [hX1]; exact Frm.set Frm.rf (show 4001 ∈ [4001] by decide)
          have hMq6 : MInv X1 := minv_frm hMI q7 (by decide)
          exact ⟨X1, rfl, hRX1, hFX1, hMq6, by omega, (by (try delta Hid at *); first | exact Or.inr (Or.inr (Or.inr (Or.inr (⟨(fun q => by omega), by omega⟩)))) | exact Or.inl ⟨by omega, by omega⟩ | exact Or.inr (Or.inl ⟨by omega, by omega⟩) | exact Or.inr (Or.inr (Or.inl ⟨by omega, by omega⟩)) | exact Or.inr (Or.inr (Or.inr (Or.inl ⟨by omega, by omega⟩))))⟩
        · refine lv_aload_n hx hb dX9_count_45 rfl (lv_at hl 0 rfl) ?_
          refine x_geti (jz := 22) hx hb hf9 hw (by first | exact Int.le_refl 0 | omega) (by first | exact zlt hc40 | omega) sl_40_22 rfl lk173 dX9_count_46 ?_
          have e8 : X1 40 0 22 = X 40 0 22 := by rw [hX1, u3_j _ _ _ _ (by decide)]
          rw [e8]
          have f9 : 0 ≤ X 40 0 22 ∧ X 40 0 22 ≤ 80 := hR 40 0 22
          refine lv_goto (tgt := 54) hx hb dX9_count_49 (by decide) ?_
          rw [hQ9]
          refine ret_i (mc := 0) (ms := 0) hx hb hr hlocks hw hS (by first | exact Nat.le_of_ble_eq_true rfl | omega) (by first | exact Nat.le_of_ble_eq_true rfl | omega) dX9_count_54 ?_
          have q11 : Frm [4001] X X1 := by rw [hX1]; exact Frm.set Frm.rf (show 4001 ∈ [4001] by decide)
          have hMq10 : MInv X1 := minv_frm hMI q11 (by decide)
          exact ⟨X1, rfl, hRX1, hFX1, hMq10, by omega, (by (try delta Hid at *); first | exact Or.inr (Or.inr (Or.inr (Or.inl ⟨by omega, by omega⟩))) | exact Or.inl ⟨by omega, by omega⟩ | exact Or.inr (Or.inl ⟨by omega, by omega⟩) | exact Or.inr (Or.inr (Or.inl ⟨by omega, by omega⟩)) | exact Or.inr (Or.inr (Or.inr (Or.inr (⟨(fun q => by omega), by omega⟩)))))⟩
      · refine lv_aload_n hx hb dX9_count_33 rfl (lv_at hl 0 rfl) ?_
        refine x_geti (jz := 20) hx hb hf9 hw (by first | exact Int.le_refl 0 | omega) (by first | exact zlt hc40 | omega) sl_40_20 rfl lk165 dX9_count_34 ?_
        have e12 : X1 40 0 20 = X 40 0 20 := by rw [hX1, u3_j _ _ _ _ (by decide)]
        rw [e12]
        have f13 : 0 ≤ X 40 0 20 ∧ X 40 0 20 ≤ 4 := hR 40 0 20
        refine lv_goto (tgt := 54) hx hb dX9_count_37 (by decide) ?_
        rw [hQ9]
        refine ret_i (mc := 0) (ms := 0) hx hb hr hlocks hw hS (by first | exact Nat.le_of_ble_eq_true rfl | omega) (by first | exact Nat.le_of_ble_eq_true rfl | omega) dX9_count_54 ?_
        have q15 : Frm [4001] X X1 := by rw [hX1]; exact Frm.set Frm.rf (show 4001 ∈ [4001] by decide)
        have hMq14 : MInv X1 := minv_frm hMI q15 (by decide)
        exact ⟨X1, rfl, hRX1, hFX1, hMq14, by omega, (by (try delta Hid at *); first | exact Or.inr (Or.inr (Or.inl ⟨by omega, by omega⟩)) | exact Or.inl ⟨by omega, by omega⟩ | exact Or.inr (Or.inl ⟨by omega, by omega⟩) | exact Or.inr (Or.inr (Or.inr (Or.inl ⟨by omega, by omega⟩))) | exact Or.inr (Or.inr (Or.inr (Or.inr (⟨(fun q => by omega), by omega⟩)))))⟩
    · refine lv_aload_n hx hb dX9_count_21 rfl (lv_at hl 0 rfl) ?_
      refine x_geti (jz := 13) hx hb hf9 hw (by first | exact Int.le_refl 0 | omega) (by first | exact zlt hc40 | omega) sl_40_13 rfl lk151 dX9_count_22 ?_
      have e16 : X1 40 0 13 = X 40 0 13 := by rw [hX1, u3_j _ _ _ _ (by decide)]
      rw [e16]
      have f17 : 0 ≤ X 40 0 13 ∧ X 40 0 13 ≤ 30 := hR 40 0 13
      refine lv_goto (tgt := 54) hx hb dX9_count_25 (by decide) ?_
      rw [hQ9]
      refine ret_i (mc := 0) (ms := 0) hx hb hr hlocks hw hS (by first | exact Nat.le_of_ble_eq_true rfl | omega) (by first | exact Nat.le_of_ble_eq_true rfl | omega) dX9_count_54 ?_
      have q19 : Frm [4001] X X1 := by rw [hX1]; exact Frm.set Frm.rf (show 4001 ∈ [4001] by decide)
      have hMq18 : MInv X1 := minv_frm hMI q19 (by decide)
      exact ⟨X1, rfl, hRX1, hFX1, hMq18, by omega, (by (try delta Hid at *); first | exact Or.inr (Or.inl ⟨by omega, by omega⟩) | exact Or.inl ⟨by omega, by omega⟩ | exact Or.inr (Or.inr (Or.inl ⟨by omega, by omega⟩)) | exact Or.inr (Or.inr (Or.inr (Or.inl ⟨by omega, by omega⟩))) | exact Or.inr (Or.inr (Or.inr (Or.inr (⟨(fun q => by omega), by omega⟩)))))⟩
  · refine lv_aload_n hx hb dX9_count_9 rfl (lv_at hl 0 rfl) ?_
    refine x_geti (jz := 2) hx hb hf9 hw (by first | exact Int.le_refl 0 | omega) (by first | exact zlt hc40 | omega) sl_40_2 rfl lk148 dX9_count_10 ?_
    have e20 : X1 40 0 2 = X 40 0 2 := by rw [hX1, u3_j _ _ _ _ (by decide)]
    rw [e20]
    have f21 : 0 ≤ X 40 0 2 ∧ X 40 0 2 ≤ 8 := hR 40 0 2
    refine lv_goto (tgt := 54) hx hb dX9_count_13 (by decide) ?_
    rw [hQ9]
    refine ret_i (mc := 0) (ms := 0) hx hb hr hlocks hw hS (by first | exact Nat.le_of_ble_eq_true rfl | omega) (by first | exact Nat.le_of_ble_eq_true rfl | omega) dX9_count_54 ?_
    have q23 : Frm [4001] X X1 := by rw [hX1]; exact Frm.set Frm.rf (show 4001 ∈ [4001] by decide)
    have hMq22 : MInv X1 := minv_frm hMI q23 (by decide)
    exact ⟨X1, rfl, hRX1, hFX1, hMq22, by omega, (by (try delta Hid at *); first | exact Or.inl ⟨by omega, by omega⟩ | exact Or.inr (Or.inl ⟨by omega, by omega⟩) | exact Or.inr (Or.inr (Or.inl ⟨by omega, by omega⟩)) | exact Or.inr (Or.inr (Or.inr (Or.inl ⟨by omega, by omega⟩))) | exact Or.inr (Or.inr (Or.inr (Or.inr (⟨(fun q => by omega), by omega⟩)))))⟩
