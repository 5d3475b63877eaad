set_option maxHeartbeats 4000000 in
set_option maxRecDepth 100000 in
theorem c_X9_fault (l : Launch) (D : va_G) (tc : Nat → ClassId) (base : Nat) (ad : Nat → Int → Nat) (cnt : Nat → Int) (X : Nat → Int → Int → Int) (Y : Nat → Int → Int → Option Int) (ln : Int → Int) (hR : Rng X) (hFx : Fx cnt) (hMI : MInv X) (what : Int) (hwhat : -2147483648 ≤ what ∧ what ≤ 2147483647) : KI l D tc base yX9_fault wsX9_fault ({ frames := 0, cells := 0, slots := 0, locals := 0 } : Room) [.ref (ad 40 0), .int (jI what)] (ad, cnt, X, Y, ln) 0 0 (fun z u => ∃ X1 : Nat → Int → Int → Int, u = (ad, cnt, X1, Y, ln) ∧ Rng X1 ∧ Frm [4001] X X1 ∧ MInv X1 ∧ (-2147483648 ≤ z ∧ z ≤ 2147483647)) := by
  refine K_of (cc := cX9_fault) (maxL := 2) (ret := (some .int)) (by decide) rfl (Nat.le_of_ble_eq_true rfl) ?_
  intro p e s m below meth c ls hx hb hr hml hown hts hlocks hl hK hw hS
  have hown : s.vm.findClass RX9 = some m.cls := hown
  obtain ⟨av9, hav9⟩ : ∃ a9 : Array Value, a9 = ([.ref (ad 40 0), .int (jI what)] : List Value).toArray := ⟨_, rfl⟩
  rw [← hav9] at hts ⊢
  obtain ⟨Q9, hQ9⟩ : ∃ q9Q : State → Prop, q9Q = MQ below (QI D tc base (fun z u => ∃ X1 : Nat → Int → Int → Int, u = (ad, cnt, X1, Y, ln) ∧ Rng X1 ∧ Frm [4001] X X1 ∧ MInv X1 ∧ (-2147483648 ≤ z ∧ z ≤ 2147483647))) av9 s 0 0 (frA base) := ⟨_, rfl⟩
  rw [← hQ9]
  have hi9 : ∀ w ∈ wsX90, w ∈ wsX9_fault := fun w h => List.mem_cons_of_mem _ (List.mem_append_right _ h)
  have hf9 : fctx s m _ RX9 wsX9_fault D tc RX9 TX9 51 9 := ⟨hts, hi9, hown, hK.1, rfl⟩
  have lk117 := hts (.fieldLink RX9 117 (TX9 41).1 (TX9 41).2.1 (TX9 41).2.2.1) (gj_X9_fault_0 _ (gp_1 gp_h))
  have lk121 := hts (.fieldLink RX9 121 (TX9 42).1 (TX9 42).2.1 (TX9 42).2.2.1) (gj_X9_fault_0 _ (gp_1 (gp_1 gp_h)))
  have lk124 := hts (.fieldLink RX9 124 (TX9 43).1 (TX9 43).2.1 (TX9 43).2.2.1) (gj_X9_fault_0 _ (gp_1 (gp_1 (gp_1 gp_h))))
  have lk145 := hts (.fieldLink RX9 145 (TX9 0).1 (TX9 0).2.1 (TX9 0).2.2.1) (gj_X9_fault_0 _ (gp_h))
  have hc40 : cnt 40 = 1 := hFx.at 40 1 (by decide)
  have hl : lv_has ls 2 [(0, .ref (ad 40 0)), (1, .int (jI what))] := hl
  have fstypes : 0 ≤ X 40 0 2 ∧ X 40 0 2 ≤ 8 := hR 40 0 2
  have fsthings : 0 ≤ X 40 0 13 ∧ X 40 0 13 ≤ 30 := hR 40 0 13
  have fsmarks : 0 ≤ X 40 0 20 ∧ X 40 0 20 ≤ 4 := hR 40 0 20
  have fsnotes : 0 ≤ X 40 0 22 ∧ X 40 0 22 ≤ 80 := hR 40 0 22
  refine lv_aload_n hx hb dX9_fault_0 rfl (lv_at hl 0 rfl) ?_
  refine lv_iconst (v := jI 0) hx hb dX9_fault_1 rfl ?_
  refine x_puti (jz := 0) hx hb hf9 ⟨tyX9_ok, nmX9⟩ hw hS (by first | exact Int.le_refl 0 | omega) (by first | exact zlt hc40 | omega) sl_40_0 rfl lk145 rfl (tyX9_ok 0 (by decide)) rfl rfl dX9_fault_2 (fun H locs hw hS => ?_)
  obtain ⟨X1, hX1⟩ : ∃ Xq, Xq = u3 X 40 0 0 0 := ⟨_, rfl⟩
  rw [← hX1] at hw
  have hRX1 : Rng X1 := by rw [hX1]; exact rng_set hR (show (-2147483648) ≤ 0 ∧ 0 ≤ 2147483647 by omega)
  have hVX1 : X1 40 0 0 = 0 := by rw [hX1]; exact u3_s _ _ _ _ _
  have hFX1 : Frm [4001] X X1 := by rw [hX1]; exact Frm.set Frm.rf (show 4001 ∈ [4001] by decide)
  refine lv_iload_n hx hb dX9_fault_5 rfl (lv_at hl 1 rfl) ?_
  refine x_if_ne (tgt := 16) hx hb (by omega) dX9_fault_6 (by decide) (fun c2 => ?_) (fun c2 => ?_)
  · refine lv_iload_n hx hb dX9_fault_16 rfl (lv_at hl 1 rfl) ?_
    refine lv_iconst (v := jI 1) hx hb dX9_fault_17 rfl ?_
    refine x_icmp_ne (tgt := 28) hx hb (by omega) (by omega) dX9_fault_18 (by decide) (fun c3 => ?_) (fun c3 => ?_)
    · refine lv_iload_n hx hb dX9_fault_28 rfl (lv_at hl 1 rfl) ?_
      refine lv_iconst (v := jI 2) hx hb dX9_fault_29 rfl ?_
      refine x_icmp_ne (tgt := 40) hx hb (by omega) (by omega) dX9_fault_30 (by decide) (fun c4 => ?_) (fun c4 => ?_)
      · refine lv_bipush (v := jI (-2)) hx hb dX9_fault_40 (by decide) ?_
        rw [hQ9]
        refine ret_i (mc := 0) (ms := 0) hx hb hr hlocks hw hS (by first | exact Nat.le_of_ble_eq_true rfl | omega) (by first | exact Nat.le_of_ble_eq_true rfl | omega) dX9_fault_42 ?_
        have q6 : Frm [4001] X X1 := by rw [hX1]; exact Frm.set Frm.rf (show 4001 ∈ [4001] by decide)
        have hMq5 : MInv X1 := minv_frm hMI q6 (by decide)
        exact ⟨X1, rfl, hRX1, hFX1, hMq5, by omega⟩
      · refine lv_aload_n hx hb dX9_fault_33 rfl (lv_at hl 0 rfl) ?_
        refine x_geti (jz := 43) hx hb hf9 hw (by first | exact Int.le_refl 0 | omega) (by first | exact zlt hc40 | omega) sl_40_43 rfl lk124 dX9_fault_34 ?_
        have e7 : X1 40 0 43 = X 40 0 43 := by rw [hX1, u3_j _ _ _ _ (by decide)]
        rw [e7]
        have f8 : (-2147483648) ≤ X 40 0 43 ∧ X 40 0 43 ≤ 2147483647 := hR 40 0 43
        refine lv_goto (tgt := 42) hx hb dX9_fault_37 (by decide) ?_
        rw [hQ9]
        refine ret_i (mc := 0) (ms := 0) hx hb hr hlocks hw hS (by first | exact Nat.le_of_ble_eq_true rfl | omega) (by first | exact Nat.le_of_ble_eq_true rfl | omega) dX9_fault_42 ?_
        have q10 : Frm [4001] X X1 := by rw [hX1]; exact Frm.set Frm.rf (show 4001 ∈ [4001] by decide)
        have hMq9 : MInv X1 := minv_frm hMI q10 (by decide)
        exact ⟨X1, rfl, hRX1, hFX1, hMq9, by omega⟩
    · refine lv_aload_n hx hb dX9_fault_21 rfl (lv_at hl 0 rfl) ?_
      refine x_geti (jz := 42) hx hb hf9 hw (by first | exact Int.le_refl 0 | omega) (by first | exact zlt hc40 | omega) sl_40_42 rfl lk121 dX9_fault_22 ?_
      have e11 : X1 40 0 42 = X 40 0 42 := by rw [hX1, u3_j _ _ _ _ (by decide)]
      rw [e11]
      have f12 : (-2147483648) ≤ X 40 0 42 ∧ X 40 0 42 ≤ 2147483647 := hR 40 0 42
      refine lv_goto (tgt := 42) hx hb dX9_fault_25 (by decide) ?_
      rw [hQ9]
      refine ret_i (mc := 0) (ms := 0) hx hb hr hlocks hw hS (by first | exact Nat.le_of_ble_eq_true rfl | omega) (by first | exact Nat.le_of_ble_eq_true rfl | omega) dX9_fault_42 ?_
      have q14 : Frm [4001] X X1 := by rw [hX1]; exact Frm.set Frm.rf (show 4001 ∈ [4001] by decide)
      have hMq13 : MInv X1 := minv_frm hMI q14 (by decide)
      exact ⟨X1, rfl, hRX1, hFX1, hMq13, by omega⟩
  · refine lv_aload_n hx hb dX9_fault_9 rfl (lv_at hl 0 rfl) ?_
    refine x_geti (jz := 41) hx hb hf9 hw (by first | exact Int.le_refl 0 | omega) (by first | exact zlt hc40 | omega) sl_40_41 rfl lk117 dX9_fault_10 ?_
    have e15 : X1 40 0 41 = X 40 0 41 := by rw [hX1, u3_j _ _ _ _ (by decide)]
    rw [e15]
    have f16 : (-2147483648) ≤ X 40 0 41 ∧ X 40 0 41 ≤ 2147483647 := hR 40 0 41
    refine lv_goto (tgt := 42) hx hb dX9_fault_13 (by decide) ?_
    rw [hQ9]
    refine ret_i (mc := 0) (ms := 0) hx hb hr hlocks hw hS (by first | exact Nat.le_of_ble_eq_true rfl | omega) (by first | exact Nat.le_of_ble_eq_true rfl | omega) dX9_fault_42 ?_
    have q18 : Frm [4001] X X1 := by rw [hX1]; exact Frm.set Frm.rf (show 4001 ∈ [4001] by decide)
    have hMq17 : MInv X1 := minv_frm hMI q18 (by decide)
    exact ⟨X1, rfl, hRX1, hFX1, hMq17, by omega⟩
