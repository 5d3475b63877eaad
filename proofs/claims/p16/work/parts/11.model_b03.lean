set_option maxHeartbeats 4000000 in
set_option maxRecDepth 100000 in
theorem c_X9_word (l : Launch) (D : va_G) (tc : Nat → ClassId) (base : Nat) (ad : Nat → Int → Nat) (cnt : Nat → Int) (X : Nat → Int → Int → Int) (Y : Nat → Int → Int → Option Int) (ln : Int → Int) (hR : Rng X) (hFx : Fx cnt) (hMI : MInv X) (w on : Int) (hw : -2147483648 ≤ w ∧ w ≤ 2147483647) (hon : 0 ≤ on ∧ on ≤ 1) : KI l D tc base yX9_word wsX9_word ({ frames := 0, cells := 0, slots := 0, locals := 0 } : Room) [.ref (ad 40 0), .int (jI w), .int (jI on)] (ad, cnt, X, Y, ln) 0 0 (fun z u => ∃ X1 : Nat → Int → Int → Int, u = (ad, cnt, X1, Y, ln) ∧ Rng X1 ∧ Frm [4001, 4200] X X1 ∧ MInv X1 ∧ (-2147483648 ≤ z ∧ z ≤ 2147483647) ∧ ((0 ≤ w ∧ w < 16 ∧ z = 1 - X 42 0 w ∧ X1 42 0 w = 1 - on) ∨ (¬ (0 ≤ w ∧ w < 16) ∧ z = -1 ∧ X1 42 0 w = X 42 0 w)) ∧ ∀ y, y ≠ w → X1 42 0 y = X 42 0 y) := by
  refine K_of (cc := cX9_word) (maxL := 4) (ret := (some .int)) (by decide) rfl (Nat.le_of_ble_eq_true rfl) ?_
  intro p e s m below meth c ls hx hb hr hml hown hts hlocks hl hK hw hS
  have hown : s.vm.findClass RX9 = some m.cls := hown
  obtain ⟨av9, hav9⟩ : ∃ a9 : Array Value, a9 = ([.ref (ad 40 0), .int (jI w), .int (jI on)] : List Value).toArray := ⟨_, rfl⟩
  rw [← hav9] at hts ⊢
  obtain ⟨Q9, hQ9⟩ : ∃ q9Q : State → Prop, q9Q = MQ below (QI D tc base (fun z u => ∃ X1 : Nat → Int → Int → Int, u = (ad, cnt, X1, Y, ln) ∧ Rng X1 ∧ Frm [4001, 4200] X X1 ∧ MInv X1 ∧ (-2147483648 ≤ z ∧ z ≤ 2147483647) ∧ ((0 ≤ w ∧ w < 16 ∧ z = 1 - X 42 0 w ∧ X1 42 0 w = 1 - on) ∨ (¬ (0 ≤ w ∧ w < 16) ∧ z = -1 ∧ X1 42 0 w = X 42 0 w)) ∧ ∀ y, y ≠ w → X1 42 0 y = X 42 0 y)) av9 s 0 0 (frA base) := ⟨_, rfl⟩
  rw [← hQ9]
  have hi9 : ∀ w ∈ wsX90, w ∈ wsX9_word := fun w h => List.mem_cons_of_mem _ (List.mem_append_right _ h)
  have hf9 : fctx s m _ RX9 wsX9_word D tc RX9 TX9 51 9 := ⟨hts, hi9, hown, hK.1, rfl⟩
  have lk7 := hts (.fieldLink RX9 7 (TX9 1).1 (TX9 1).2.1 (TX9 1).2.2.1) (gj_X9_word_0 _ (gp_1 gp_h))
  have lk145 := hts (.fieldLink RX9 145 (TX9 0).1 (TX9 0).2.1 (TX9 0).2.2.1) (gj_X9_word_0 _ (gp_h))
  have hc40 : cnt 40 = 1 := hFx.at 40 1 (by decide)
  have hc42 : cnt 42 = 1 := hFx.at 42 1 (by decide)
  have hl : lv_has ls 4 [(0, .ref (ad 40 0)), (1, .int (jI w)), (2, .int (jI on))] := hl
  have fstypes : 0 ≤ X 40 0 2 ∧ X 40 0 2 ≤ 8 := hR 40 0 2
  have fsthings : 0 ≤ X 40 0 13 ∧ X 40 0 13 ≤ 30 := hR 40 0 13
  have fsmarks : 0 ≤ X 40 0 20 ∧ X 40 0 20 ≤ 4 := hR 40 0 20
  have fsnotes : 0 ≤ X 40 0 22 ∧ X 40 0 22 ≤ 80 := hR 40 0 22
  refine lv_aload_n hx hb dX9_word_0 rfl (lv_at hl 0 rfl) ?_
  refine lv_iconst (v := jI 0) hx hb dX9_word_1 rfl ?_
  refine x_puti (jz := 0) hx hb hf9 ⟨tyX9_ok, nmX9⟩ hw hS (by first | exact Int.le_refl 0 | omega) (by first | exact zlt hc40 | omega) sl_40_0 rfl lk145 rfl (tyX9_ok 0 (by decide)) rfl rfl dX9_word_2 (fun H locs hw hS => ?_)
  obtain ⟨X1, hX1⟩ : ∃ Xq, Xq = u3 X 40 0 0 0 := ⟨_, rfl⟩
  rw [← hX1] at hw
  have hRX1 : Rng X1 := by rw [hX1]; exact rng_set hR (show (-2147483648) ≤ 0 ∧ 0 ≤ 2147483647 by omega)
  have hVX1 : X1 40 0 0 = 0 := by rw [hX1]; exact u3_s _ _ _ _ _
  have hFX1 : Frm [4001, 4200] X X1 := by rw [hX1]; exact Frm.set Frm.rf (show 4001 ∈ [4001, 4200] by decide)
  refine lv_iload_n hx hb dX9_word_5 rfl (lv_at hl 1 rfl) ?_
  refine x_if_lt (tgt := 15) hx hb (by omega) dX9_word_6 (by decide) (fun c2 => ?_) (fun c2 => ?_)
  · refine lv_iconst (v := jI (-1)) hx hb dX9_word_15 rfl ?_
    rw [hQ9]
    refine ret_i (mc := 0) (ms := 0) hx hb hr hlocks hw hS (by first | exact Nat.le_of_ble_eq_true rfl | omega) (by first | exact Nat.le_of_ble_eq_true rfl | omega) dX9_word_16 ?_
    have q4 : Frm [4001] X X1 := by rw [hX1]; exact Frm.set Frm.rf (show 4001 ∈ [4001] by decide)
    have hMq3 : MInv X1 := minv_frm hMI q4 (by decide)
    have e5 : X1 42 0 w = X 42 0 w := (by rw [hX1, u3_k _ _ _ _ (by decide)])
    exact ⟨X1, rfl, hRX1, hFX1, hMq3, by omega, (by (try delta Hid at *); first | exact Or.inr ((⟨(fun q => by omega), by omega, by omega⟩)) | exact Or.inl ⟨by omega, by omega, by omega, by omega⟩ | omega), fun y hy => (by rw [hX1, u3_k _ _ _ _ (by decide)])⟩
  · refine lv_iload_n hx hb dX9_word_9 rfl (lv_at hl 1 rfl) ?_
    refine lv_bipush (v := jI 15) hx hb dX9_word_10 (by decide) ?_
    refine x_icmp_le (tgt := 17) hx hb (by omega) (by omega) dX9_word_12 (by decide) (fun c6 => ?_) (fun c6 => ?_)
    · refine lv_aload_n hx hb dX9_word_17 rfl (lv_at hl 0 rfl) ?_
      refine x_geto hx hb hf9 hw (by first | exact Int.le_refl 0 | omega) (by first | exact zlt hc40 | omega) sl_40_1 lk7 dX9_word_18 ?_
      refine lv_iload_n hx hb dX9_word_21 rfl (lv_at hl 1 rfl) ?_
      refine x_zald hx hb hK.1 hw (by first | exact Int.le_refl 0 | omega) (by first | exact zlt hc42 | omega) ar_42 (len_E ar_42 (by decide)) (by omega) (by omega) (by omega) dX9_word_22 ?_
      have e7 : ∀ p9 q9 : Int, X1 42 p9 q9 = X 42 p9 q9 := fun p9 q9 => by rw [hX1, u3_k _ _ _ _ (by decide)]
      rw [e7 0 w]
      have f8 : 0 ≤ X 42 0 w ∧ X 42 0 w ≤ 1 := hR 42 0 w
      refine x_if_ne (tgt := 30) hx hb (by omega) dX9_word_23 (by decide) (fun c9 => ?_) (fun c9 => ?_)
      · refine lv_iconst (v := jI 0) hx hb dX9_word_30 rfl ?_
        refine lv_istore_n (lv' := [(3, .int (jI 0)), (0, .ref (ad 40 0)), (1, .int (jI w)), (2, .int (jI on))]) hx hb dX9_word_31 rfl hl (by decide) rfl (fun ls hl => ?_)
        refine lv_aload_n hx hb dX9_word_32 rfl (lv_at hl 1 rfl) ?_
        refine x_geto hx hb hf9 hw (by first | exact Int.le_refl 0 | omega) (by first | exact zlt hc40 | omega) sl_40_1 lk7 dX9_word_33 ?_
        refine lv_iload_n hx hb dX9_word_36 rfl (lv_at hl 2 rfl) ?_
        refine lv_iload_n hx hb dX9_word_37 rfl (lv_at hl 3 rfl) ?_
        refine x_if_ne (tgt := 45) hx hb (by omega) dX9_word_38 (by decide) (fun c10 => ?_) (fun c10 => ?_)
        · refine lv_iconst (v := jI 0) hx hb dX9_word_45 rfl ?_
          refine x_zast hx hb hK.1 hw hS (by first | exact Int.le_refl 0 | omega) (by first | exact zlt hc42 | omega) ar_42 (len_E ar_42 (by decide)) (by omega) (by omega) (by omega) (by omega) (by omega) dX9_word_46 (fun H locs hw hS => ?_)
          obtain ⟨X11, hX11⟩ : ∃ Xq, Xq = u3 X1 42 0 w 0 := ⟨_, rfl⟩
          rw [← hX11] at hw
          have hRX11 : Rng X11 := by rw [hX11]; exact rng_set hRX1 (show 0 ≤ 0 ∧ 0 ≤ 1 by omega)
          have hVX11 : X11 42 0 w = 0 := by rw [hX11]; exact u3_s _ _ _ _ _
          have hFX11 : Frm [4001, 4200] X X11 := by rw [hX11]; exact Frm.set hFX1 (show 4200 ∈ [4001, 4200] by decide)
          refine lv_iload_n hx hb dX9_word_47 rfl (lv_at hl 0 rfl) ?_
          refine x_if_eqT (tgt := 55) hx hb (by omega) (by decide) dX9_word_48 (by decide) ?_
          refine lv_iconst (v := jI 0) hx hb dX9_word_55 rfl ?_
          rw [hQ9]
          refine ret_i (mc := 0) (ms := 0) hx hb hr hlocks hw hS (by first | exact Nat.le_of_ble_eq_true rfl | omega) (by first | exact Nat.le_of_ble_eq_true rfl | omega) dX9_word_56 ?_
          have q13 : Frm [4001, 4200] X X1 := by rw [hX1]; exact Frm.set Frm.rf (show 4001 ∈ [4001, 4200] by decide)
          have q14 : Frm [4001, 4200] X X11 := by rw [hX11]; exact Frm.set q13 (show 4200 ∈ [4001, 4200] by decide)
          have hMq12 : MInv X11 := minv_frm hMI q14 (by decide)
          have e15 : X11 42 0 w = 0 := (by exact hVX11)
          exact ⟨X11, rfl, hRX11, hFX11, hMq12, by omega, (by (try delta Hid at *); first | exact Or.inl ⟨by omega, by omega, by omega, by omega⟩ | omega), fun y hy => (by rw [hX11, u3_j _ _ _ _ hy, hX1, u3_k _ _ _ _ (by decide)])⟩
        · refine lv_iconst (v := jI 1) hx hb dX9_word_41 rfl ?_
          refine lv_goto (tgt := 46) hx hb dX9_word_42 (by decide) ?_
          refine x_zast hx hb hK.1 hw hS (by first | exact Int.le_refl 0 | omega) (by first | exact zlt hc42 | omega) ar_42 (len_E ar_42 (by decide)) (by omega) (by omega) (by omega) (by omega) (by omega) dX9_word_46 (fun H locs hw hS => ?_)
          obtain ⟨X16, hX16⟩ : ∃ Xq, Xq = u3 X1 42 0 w 1 := ⟨_, rfl⟩
          rw [← hX16] at hw
          have hRX16 : Rng X16 := by rw [hX16]; exact rng_set hRX1 (show 0 ≤ 1 ∧ 1 ≤ 1 by omega)
          have hVX16 : X16 42 0 w = 1 := by rw [hX16]; exact u3_s _ _ _ _ _
          have hFX16 : Frm [4001, 4200] X X16 := by rw [hX16]; exact Frm.set hFX1 (show 4200 ∈ [4001, 4200] by decide)
          refine lv_iload_n hx hb dX9_word_47 rfl (lv_at hl 0 rfl) ?_
          refine x_if_eqT (tgt := 55) hx hb (by omega) (by decide) dX9_word_48 (by decide) ?_
          refine lv_iconst (v := jI 0) hx hb dX9_word_55 rfl ?_
          rw [hQ9]
          refine ret_i (mc := 0) (ms := 0) hx hb hr hlocks hw hS (by first | exact Nat.le_of_ble_eq_true rfl | omega) (by first | exact Nat.le_of_ble_eq_true rfl | omega) dX9_word_56 ?_
          have q18 : Frm [4001, 4200] X X1 := by rw [hX1]; exact Frm.set Frm.rf (show 4001 ∈ [4001, 4200] by decide)
          have q19 : Frm [4001, 4200] X X16 := by rw [hX16]; exact Frm.set q18 (show 4200 ∈ [4001, 4200] by decide)
          have hMq17 : MInv X16 := minv_frm hMI q19 (by decide)
          have e20 : X16 42 0 w = 1 := (by exact hVX16)
          exact ⟨X16, rfl, hRX16, hFX16, hMq17, by omega, (by (try delta Hid at *); first | exact Or.inl ⟨by omega, by omega, by omega, by omega⟩ | omega), fun y hy => (by rw [hX16, u3_j _ _ _ _ hy, hX1, u3_k _ _ _ _ (by decide)])⟩
      · refine lv_iconst (v := jI 1) hx hb dX9_word_26 rfl ?_
        refine lv_goto (tgt := 31) hx hb dX9_word_27 (by decide) ?_
        refine lv_istore_n (lv' := [(3, .int (jI 1)), (0, .ref (ad 40 0)), (1, .int (jI w)), (2, .int (jI on))]) hx hb dX9_word_31 rfl hl (by decide) rfl (fun ls hl => ?_)
        refine lv_aload_n hx hb dX9_word_32 rfl (lv_at hl 1 rfl) ?_
        refine x_geto hx hb hf9 hw (by first | exact Int.le_refl 0 | omega) (by first | exact zlt hc40 | omega) sl_40_1 lk7 dX9_word_33 ?_
        refine lv_iload_n hx hb dX9_word_36 rfl (lv_at hl 2 rfl) ?_
        refine lv_iload_n hx hb dX9_word_37 rfl (lv_at hl 3 rfl) ?_
        refine x_if_ne (tgt := 45) hx hb (by omega) dX9_word_38 (by decide) (fun c21 => ?_) (fun c21 => ?_)
        · refine lv_iconst (v := jI 0) hx hb dX9_word_45 rfl ?_
          refine x_zast hx hb hK.1 hw hS (by first | exact Int.le_refl 0 | omega) (by first | exact zlt hc42 | omega) ar_42 (len_E ar_42 (by decide)) (by omega) (by omega) (by omega) (by omega) (by omega) dX9_word_46 (fun H locs hw hS => ?_)
          obtain ⟨X22, hX22⟩ : ∃ Xq, Xq = u3 X1 42 0 w 0 := ⟨_, rfl⟩
          rw [← hX22] at hw
          have hRX22 : Rng X22 := by rw [hX22]; exact rng_set hRX1 (show 0 ≤ 0 ∧ 0 ≤ 1 by omega)
          have hVX22 : X22 42 0 w = 0 := by rw [hX22]; exact u3_s _ _ _ _ _
          have hFX22 : Frm [4001, 4200] X X22 := by rw [hX22]; exact Frm.set hFX1 (show 4200 ∈ [4001, 4200] by decide)
          refine lv_iload_n hx hb dX9_word_47 rfl (lv_at hl 0 rfl) ?_
          refine x_if_eqF (tgt := 55) hx hb (by omega) (by decide) dX9_word_48 (by decide) ?_
          refine lv_iconst (v := jI 1) hx hb dX9_word_51 rfl ?_
          refine lv_goto (tgt := 56) hx hb dX9_word_52 (by decide) ?_
          rw [hQ9]
          refine ret_i (mc := 0) (ms := 0) hx hb hr hlocks hw hS (by first | exact Nat.le_of_ble_eq_true rfl | omega) (by first | exact Nat.le_of_ble_eq_true rfl | omega) dX9_word_56 ?_
          have q24 : Frm [4001, 4200] X X1 := by rw [hX1]; exact Frm.set Frm.rf (show 4001 ∈ [4001, 4200] by decide)
          have q25 : Frm [4001, 4200] X X22 := by rw [hX22]; exact Frm.set q24 (show 4200 ∈ [4001, 4200] by decide)
          have hMq23 : MInv X22 := minv_frm hMI q25 (by decide)
          have e26 : X22 42 0 w = 0 := (by exact hVX22)
          exact ⟨X22, rfl, hRX22, hFX22, hMq23, by omega, (by (try delta Hid at *); first | exact Or.inl ⟨by omega, by omega, by omega, by omega⟩ | omega), fun y hy => (by rw [hX22, u3_j _ _ _ _ hy, hX1, u3_k _ _ _ _ (by decide)])⟩
        · refine lv_iconst (v := jI 1) hx hb dX9_word_41 rfl ?_
          refine lv_goto (tgt := 46) hx hb dX9_word_42 (by decide) ?_
          refine x_zast hx hb hK.1 hw hS (by first | exact Int.le_refl 0 | omega) (by first | exact zlt hc42 | omega) ar_42 (len_E ar_42 (by decide)) (by omega) (by omega) (by omega) (by omega) (by omega) dX9_word_46 (fun H locs hw hS => ?_)
          obtain ⟨X27, hX27⟩ : ∃ Xq, Xq = u3 X1 42 0 w 1 := ⟨_, rfl⟩
          rw [← hX27] at hw
          have hRX27 : Rng X27 := by rw [hX27]; exact rng_set hRX1 (show 0 ≤ 1 ∧ 1 ≤ 1 by omega)
          have hVX27 : X27 42 0 w = 1 := by rw [hX27]; exact u3_s _ _ _ _ _
          have hFX27 : Frm [4001, 4200] X X27 := by rw [hX27]; exact Frm.set hFX1 (show 4200 ∈ [4001, 4200] by decide)
          refine lv_iload_n hx hb dX9_word_47 rfl (lv_at hl 0 rfl) ?_
          refine x_if_eqF (tgt := 55) hx hb (by omega) (by decide) dX9_word_48 (by decide) ?_
          refine lv_iconst (v := jI 1) hx hb dX9_word_51 rfl ?_
          refine lv_goto (tgt := 56) hx hb dX9_word_52 (by decide) ?_
          rw [hQ9]
          refine ret_i (mc := 0) (ms := 0) hx hb hr hlocks hw hS (by first | exact Nat.le_of_ble_eq_true rfl | omega) (by first | exact Nat.le_of_ble_eq_true rfl | omega) dX9_word_56 ?_
          have q29 : Frm [4001, 4200] X X1 := by rw [hX1]; exact Frm.set Frm.rf (show 4001 ∈ [4001, 4200] by decide)
          have q30 : Frm [4001, 4200] X X27 := by rw [hX27]; exact Frm.set q29 (show 4200 ∈ [4001, 4200] by decide)
          have hMq28 : MInv X27 := minv_frm hMI q30 (by decide)
          have e31 : X27 42 0 w = 1 := (by exact hVX27)
          exact ⟨X27, rfl, hRX27, hFX27, hMq28, by omega, (by (try delta Hid at *); first | exact Or.inl ⟨by omega, by omega, by omega, by omega⟩ | omega), fun y hy => (by rw [hX27, u3_j _ _ _ _ hy, hX1, u3_k _ _ _ _ (by decide)])⟩
    · refine lv_iconst (v := jI (-1)) hx hb dX9_word_15 rfl ?_
      rw [hQ9]
      refine ret_i (mc := 0) (ms := 0) hx hb hr hlocks hw hS (by first | exact Nat.le_of_ble_eq_true rfl | omega) (by first | exact Nat.le_of_ble_eq_true rfl | omega) dX9_word_16 ?_
      have q33 : Frm [4001] X X1 := by rw [hX1]; exact Frm.set Frm.rf (show 4001 ∈ [4001] by decide)
      have hMq32 : MInv X1 := minv_frm hMI q33 (by decide)
      have e34 : X1 42 0 w = X 42 0 w := (by rw [hX1, u3_k _ _ _ _ (by decide)])
      exact ⟨X1, rfl, hRX1, hFX1, hMq32, by omega, (by (try delta Hid at *); first | exact Or.inr ((⟨(fun q => by omega), by omega, by omega⟩)) | exact Or.inl ⟨by omega, by omega, by omega, by omega⟩ | omega), fun y hy => (by rw [hX1, u3_k _ _ _ _ (by decide)])⟩
