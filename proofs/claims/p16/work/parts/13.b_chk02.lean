set_option maxHeartbeats 4000000 in
set_option maxRecDepth 100000 in
theorem c_X9_judge (l : Launch) (D : va_G) (tc : Nat → ClassId) (base : Nat) (ad : Nat → Int → Nat) (cnt : Nat → Int) (X : Nat → Int → Int → Int) (Y : Nat → Int → Int → Option Int) (ln : Int → Int) (hR : Rng X) (hFx : Fx cnt) (hMI : MInv X) (x : Int) (hx : -2147483648 ≤ x ∧ x ≤ 2147483647) : KI l D tc base yX9_judge wsX9_judge ({ frames := 4, cells := 0, slots := 0, locals := 102 } : Room) [.ref (ad 40 0), .int (jI x)] (ad, cnt, X, Y, ln) 0 0 (fun z u => ∃ X1 : Nat → Int → Int → Int, u = (ad, cnt, X1, Y, ln) ∧ Rng X1 ∧ Frm [4001, 4029] X X1 ∧ MInv X1 ∧ (-2147483648 ≤ z ∧ z ≤ 2147483647) ∧ ((¬ (0 ≤ x ∧ x < X 40 0 13) ∧ z = -1) ∨ ((0 ≤ x ∧ x < X 40 0 13) ∧ ∃ how, jdM X x how ∧ ((how = 0 ∧ z = 1) ∨ (how ≠ 0 ∧ z = -10 - how))))) := by
  refine K_of (cc := cX9_judge) (maxL := 3) (ret := (some .int)) (by decide) rfl (Nat.le_of_ble_eq_true rfl) ?_
  intro p e s m below meth c ls hx hb hr hml hown hts hlocks hl hK hw hS
  have hown : s.vm.findClass RX9 = some m.cls := hown
  obtain ⟨av9, hav9⟩ : ∃ a9 : Array Value, a9 = ([.ref (ad 40 0), .int (jI x)] : List Value).toArray := ⟨_, rfl⟩
  rw [← hav9] at hts ⊢
  obtain ⟨Q9, hQ9⟩ : ∃ q9Q : State → Prop, q9Q = MQ below (QI D tc base (fun z u => ∃ X1 : Nat → Int → Int → Int, u = (ad, cnt, X1, Y, ln) ∧ Rng X1 ∧ Frm [4001, 4029] X X1 ∧ MInv X1 ∧ (-2147483648 ≤ z ∧ z ≤ 2147483647) ∧ ((¬ (0 ≤ x ∧ x < X 40 0 13) ∧ z = -1) ∨ ((0 ≤ x ∧ x < X 40 0 13) ∧ ∃ how, jdM X x how ∧ ((how = 0 ∧ z = 1) ∨ (how ≠ 0 ∧ z = -10 - how)))))) av9 s 0 0 (frA base) := ⟨_, rfl⟩
  rw [← hQ9]
  have hi9 : ∀ w ∈ wsX90, w ∈ wsX9_judge := fun w h => List.mem_cons_of_mem _ (List.mem_append_right _ h)
  have hf9 : fctx s m _ RX9 wsX9_judge D tc RX9 TX9 51 9 := ⟨hts, hi9, hown, hK.1, rfl⟩
  have lk145 := hts (.fieldLink RX9 145 (TX9 0).1 (TX9 0).2.1 (TX9 0).2.2.1) (gj_X9_judge_0 _ (gp_h))
  have hc40 : cnt 40 = 1 := hFx.at 40 1 (by decide)
  have hl : lv_has ls 3 [(0, .ref (ad 40 0)), (1, .int (jI x))] := hl
  have fstypes : 0 ≤ X 40 0 2 ∧ X 40 0 2 ≤ 8 := hR 40 0 2
  have fsthings : 0 ≤ X 40 0 13 ∧ X 40 0 13 ≤ 30 := hR 40 0 13
  have fsmarks : 0 ≤ X 40 0 20 ∧ X 40 0 20 ≤ 4 := hR 40 0 20
  have fsnotes : 0 ≤ X 40 0 22 ∧ X 40 0 22 ≤ 80 := hR 40 0 22
  refine lv_aload_n hx hb dX9_judge_0 rfl (lv_at hl 0 rfl) ?_
  refine lv_iconst (v := jI 0) hx hb dX9_judge_1 rfl ?_
  refine x_puti (jz := 0) hx hb hf9 ⟨tyX9_ok, nmX9⟩ hw hS (by first | exact Int.le_refl 0 | omega) (by first | exact zlt hc40 | omega) sl_40_0 rfl lk145 rfl (tyX9_ok 0 (by decide)) rfl rfl dX9_judge_2 (fun H locs hw hS => ?_)
  obtain ⟨X1, hX1⟩ : ∃ Xq, Xq = u3 X 40 0 0 0 := ⟨_, rfl⟩
  rw [← hX1] at hw
  have hRX1 : Rng X1 := by rw [hX1]; exact rng_set hR (show (-2147483648) ≤ 0 ∧ 0 ≤ 2147483647 by omega)
  have hVX1 : X1 40 0 0 = 0 := by rw [hX1]; exact u3_s _ _ _ _ _
  have hFX1 : Frm [4001, 4029] X X1 := by rw [hX1]; exact Frm.set Frm.rf (show 4001 ∈ [4001, 4029] by decide)
  refine lv_aload_n hx hb dX9_judge_5 rfl (lv_at hl 0 rfl) ?_
  refine lv_iload_n hx hb dX9_judge_6 rfl (lv_at hl 1 rfl) ?_
  refine gos_i (run_V (As := [.int (jI x)]) (rest := []) hx hb hml hown hts (c_X9_isThing l D tc base ad cnt X1 Y ln hRX1 hFx x (by omega)) (cwV 1 hts gX9_judge_X9_isThing rfl rfl rfl (by first | exact hd_X9_isThing | decide +kernel) ⟨Nat.le_of_ble_eq_true rfl, Nat.le_of_ble_eq_true rfl⟩) hK hw (by first | exact Int.le_refl 0 | omega) (by first | exact zlt hc40 | omega) sl_40_0 rfl rfl hl.1 rfl (Nat.le_of_ble_eq_true rfl) dX9_judge_7 ⟨Nat.le_of_ble_eq_true rfl, Nat.le_of_ble_eq_true rfl⟩) hS (fun z2 u3 H locs p4 hw hS => ?_)
  obtain ⟨eu3, p4⟩ := p4
  subst eu3
  have e5 : X1 40 0 13 = X 40 0 13 := by rw [hX1, u3_j _ _ _ _ (by decide)]
  simp only [e5] at p4
  rcases p4 with ⟨ez2, p4⟩ | ⟨ez2, p4⟩
  · subst ez2
    refine x_if_neT (tgt := 15) hx hb (by omega) (by decide) dX9_judge_10 (by decide) ?_
    refine lv_aload_n hx hb dX9_judge_15 rfl (lv_at hl 0 rfl) ?_
    refine lv_iload_n hx hb dX9_judge_16 rfl (lv_at hl 1 rfl) ?_
    have q7 : Frm [4001] X X1 := by rw [hX1]; exact Frm.set Frm.rf (show 4001 ∈ [4001] by decide)
    have hMq6 : MInv X1 := minv_frm hMI q7 (by decide)
    have e8 : X1 40 0 13 = X 40 0 13 := by rw [hX1, u3_j _ _ _ _ (by decide)]
    refine gos_i (run_V (As := [.int (jI x)]) (rest := []) hx hb hml hown hts (c_X9_judged l D tc base ad cnt X1 Y ln hRX1 hFx hMq6 x (by omega) (by simp only [e8]; omega)) (cwV 1 hts gX9_judge_X9_judged rfl rfl rfl (by first | exact hd_X9_judged | decide +kernel) ⟨Nat.le_of_ble_eq_true rfl, Nat.le_of_ble_eq_true rfl⟩) hK hw (by first | exact Int.le_refl 0 | omega) (by first | exact zlt hc40 | omega) sl_40_0 rfl rfl hl.1 rfl (Nat.le_of_ble_eq_true rfl) dX9_judge_17 ⟨Nat.le_of_ble_eq_true rfl, Nat.le_of_ble_eq_true rfl⟩) hS (fun z9 u10 H locs p11 hw hS => ?_)
    obtain ⟨X12, eu10, hRX12, hG13, hMIX12, p11, hjdX12⟩ := p11
    subst eu10
    have hFX12 : Frm [4001, 4029] X X12 := Frm.tr hFX1 (Frm.mono hG13 (by decide))
    refine lv_istore_n (lv' := [(2, .int (jI z9)), (0, .ref (ad 40 0)), (1, .int (jI x))]) hx hb dX9_judge_20 rfl hl (by decide) rfl (fun ls hl => ?_)
    refine lv_iload_n hx hb dX9_judge_21 rfl (lv_at hl 0 rfl) ?_
    refine x_if_ne (tgt := 29) hx hb (by omega) dX9_judge_22 (by decide) (fun c14 => ?_) (fun c14 => ?_)
    · refine lv_bipush (v := jI (-10)) hx hb dX9_judge_29 (by decide) ?_
      refine lv_iload_n hx hb dX9_judge_31 rfl (lv_at hl 0 rfl) ?_
      refine x_isub hx hb dX9_judge_32 ?_
      rw [hQ9]
      refine ret_i (mc := 0) (ms := 0) hx hb hr hlocks hw hS (by first | exact Nat.le_of_ble_eq_true rfl | omega) (by first | exact Nat.le_of_ble_eq_true rfl | omega) dX9_judge_33 ?_
      have q15 : Frm [4001] X X1 := by rw [hX1]; exact Frm.set Frm.rf (show 4001 ∈ [4001] by decide)
      exact ⟨X12, rfl, hRX12, hFX12, hMIX12, by omega, Or.inr ⟨(by (try delta Hid at *); omega), z9, jdM.from hjdX12 q15 (by decide), by omega⟩⟩
    · refine lv_iconst (v := jI 1) hx hb dX9_judge_25 rfl ?_
      refine lv_goto (tgt := 33) hx hb dX9_judge_26 (by decide) ?_
      rw [hQ9]
      refine ret_i (mc := 0) (ms := 0) hx hb hr hlocks hw hS (by first | exact Nat.le_of_ble_eq_true rfl | omega) (by first | exact Nat.le_of_ble_eq_true rfl | omega) dX9_judge_33 ?_
      have q16 : Frm [4001] X X1 := by rw [hX1]; exact Frm.set Frm.rf (show 4001 ∈ [4001] by decide)
      exact ⟨X12, rfl, hRX12, hFX12, hMIX12, by omega, Or.inr ⟨(by (try delta Hid at *); omega), z9, jdM.from hjdX12 q16 (by decide), by omega⟩⟩
  · subst ez2
    refine x_if_neF (tgt := 15) hx hb (by omega) (by decide) dX9_judge_10 (by decide) ?_
    refine lv_iconst (v := jI (-1)) hx hb dX9_judge_13 rfl ?_
    rw [hQ9]
    refine ret_i (mc := 0) (ms := 0) hx hb hr hlocks hw hS (by first | exact Nat.le_of_ble_eq_true rfl | omega) (by first | exact Nat.le_of_ble_eq_true rfl | omega) dX9_judge_14 ?_
    have q18 : Frm [4001] X X1 := by rw [hX1]; exact Frm.set Frm.rf (show 4001 ∈ [4001] by decide)
    have hMq17 : MInv X1 := minv_frm hMI q18 (by decide)
    exact ⟨X1, rfl, hRX1, hFX1, hMq17, by omega, Or.inl ⟨(fun q => by (try delta Hid at *); omega), by omega⟩⟩
