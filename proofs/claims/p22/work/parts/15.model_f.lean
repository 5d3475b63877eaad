section
set_option maxHeartbeats 4000000 in
set_option maxRecDepth 100000 in
theorem c_X9_meets (l : Launch) (D : va_G) (tc : Nat → ClassId) (base : Nat) (ad : Nat → Int → Nat) (cnt : Nat → Int) (X : Nat → Int → Int → Int) (Y : Nat → Int → Int → Option Int) (ln : Int → Int) (hR : Rng X) (hFx : Fx cnt) (hMI : MInv X) (x y : Int) (hx0 : 0 ≤ x ∧ x ≤ 29) (hy0 : 0 ≤ y ∧ y ≤ 29) (hxt : x < X 40 0 13) (hyt : y < X 40 0 13) (hQ : qOK X) : KI l D tc base yX9_meets wsX9_meets ({ frames := 0, cells := 0, slots := 0, locals := 0 } : Room) [.ref (ad 40 0), .int (jI x), .int (jI y)] (ad, cnt, X, Y, ln) 0 0 (fun z u => ∃ X1 : Nat → Int → Int → Int, u = (ad, cnt, X1, Y, ln) ∧ Rng X1 ∧ Frm [8600, 8700, 9000, 4051] X X1 ∧ MInv X1 ∧ qOK X1 ∧ (0 ≤ z ∧ z ≤ 1)) := by
  refine K_of (cc := cX9_meets) (maxL := 3) (ret := (some .boolean)) (by decide) rfl (Nat.le_of_ble_eq_true rfl) ?_
  intro p e s m below meth c ls hx hb hr hml hown hts hlocks hl hK hw hS
  have hown : s.vm.findClass RX9 = some m.cls := hown
  obtain ⟨av9, hav9⟩ : ∃ a9 : Array Value, a9 = ([.ref (ad 40 0), .int (jI x), .int (jI y)] : List Value).toArray := ⟨_, rfl⟩
  rw [← hav9] at hts ⊢
  obtain ⟨Q9, hQ9⟩ : ∃ q9Q : State → Prop, q9Q = MQ below (QI D tc base (fun z u => ∃ X1 : Nat → Int → Int → Int, u = (ad, cnt, X1, Y, ln) ∧ Rng X1 ∧ Frm [8600, 8700, 9000, 4051] X X1 ∧ MInv X1 ∧ qOK X1 ∧ (0 ≤ z ∧ z ≤ 1))) av9 s 0 0 (frA base) := ⟨_, rfl⟩
  rw [← hQ9]
  have hi9 : ∀ w ∈ wsX90, w ∈ wsX9_meets := fun w h => List.mem_cons_of_mem _ (List.mem_append_right _ h)
  have hf9 : fctx s m _ RX9 wsX9_meets D tc RX9 TX9 51 9 := ⟨hts, hi9, hown, hK.1, rfl⟩
  have lk130 := hts (.fieldLink RX9 130 (TX9 45).1 (TX9 45).2.1 (TX9 45).2.2.1) (gj_X9_meets_0 _ (gp_h))
  have lk133 := hts (.fieldLink RX9 133 (TX9 46).1 (TX9 46).2.1 (TX9 46).2.2.1) (gj_X9_meets_0 _ (gp_1 gp_h))
  have lk142 := hts (.fieldLink RX9 142 (TX9 49).1 (TX9 49).2.1 (TX9 49).2.2.1) (gj_X9_meets_0 _ (gp_1 (gp_1 gp_h)))
  have lk240 := hts (.fieldLink RX9 240 (TX9 50).1 (TX9 50).2.1 (TX9 50).2.2.1) (gj_X9_meets_0 _ (gp_1 (gp_1 (gp_1 gp_h))))
  have hc40 : cnt 40 = 1 := hFx.at 40 1 (by decide)
  have hc86 : cnt 86 = 1 := hFx.at 86 1 (by decide)
  have hc87 : cnt 87 = 1 := hFx.at 87 1 (by decide)
  have hc90 : cnt 90 = 1 := hFx.at 90 1 (by decide)
  have hl : lv_has ls 3 [(0, .ref (ad 40 0)), (1, .int (jI x)), (2, .int (jI y))] := hl
  have fstypes : 0 ≤ X 40 0 2 ∧ X 40 0 2 ≤ 8 := hR 40 0 2
  have fsthings : 0 ≤ X 40 0 13 ∧ X 40 0 13 ≤ 30 := hR 40 0 13
  have fsmarks : 0 ≤ X 40 0 20 ∧ X 40 0 20 ≤ 4 := hR 40 0 20
  have fsnotes : 0 ≤ X 40 0 22 ∧ X 40 0 22 ≤ 80 := hR 40 0 22
  refine lv_aload_n hx hb dX9_meets_0 rfl (lv_at hl 0 rfl) ?_
  refine x_geto hx hb hf9 hw (by first | exact Int.le_refl 0 | omega) (by first | exact zlt hc40 | omega) sl_40_45 lk130 dX9_meets_1 ?_
  refine lv_iload_n hx hb dX9_meets_4 rfl (lv_at hl 1 rfl) ?_
  refine x_iald hx hb hK.1 hw (by first | exact Int.le_refl 0 | omega) (by first | exact zlt hc86 | omega) ar_86 (len_E ar_86 (by first | exact Nat.ne_of_beq_eq_false rfl | decide)) (by omega) (by omega) (by omega) dX9_meets_5 ?_
  have f1 : (-1) ≤ X 86 0 x ∧ X 86 0 x ≤ 29 := hR 86 0 x
  refine x_if_ge (tgt := 18) hx hb (by omega) dX9_meets_6 (by decide) (fun c2 => ?_) (fun c2 => ?_)
  · refine lv_aload_n hx hb dX9_meets_18 rfl (lv_at hl 0 rfl) ?_
    refine x_geto hx hb hf9 hw (by first | exact Int.le_refl 0 | omega) (by first | exact zlt hc40 | omega) sl_40_45 lk130 dX9_meets_19 ?_
    refine lv_iload_n hx hb dX9_meets_22 rfl (lv_at hl 1 rfl) ?_
    refine x_iald hx hb hK.1 hw (by first | exact Int.le_refl 0 | omega) (by first | exact zlt hc86 | omega) ar_86 (len_E ar_86 (by first | exact Nat.ne_of_beq_eq_false rfl | decide)) (by omega) (by omega) (by omega) dX9_meets_23 ?_
    have f3 : (-1) ≤ X 86 0 x ∧ X 86 0 x ≤ 29 := hR 86 0 x
    refine lv_iload_n hx hb dX9_meets_24 rfl (lv_at hl 2 rfl) ?_
    refine x_icmp_ne (tgt := 42) hx hb (by omega) (by omega) dX9_meets_25 (by decide) (fun c4 => ?_) (fun c4 => ?_)
    · refine lv_iconst (v := jI 0) hx hb dX9_meets_42 rfl ?_
      rw [hQ9]
      refine ret_z (mc := 0) (ms := 0) hx hb hr hlocks hw hS (by first | exact Nat.le_of_ble_eq_true rfl | omega) (by first | exact Nat.le_of_ble_eq_true rfl | omega) dX9_meets_43 (by omega) ?_
      exact ⟨X, rfl, hR, Frm.rf, hMI, hQ, by omega⟩
    · refine lv_aload_n hx hb dX9_meets_28 rfl (lv_at hl 0 rfl) ?_
      refine x_geto hx hb hf9 hw (by first | exact Int.le_refl 0 | omega) (by first | exact zlt hc40 | omega) sl_40_46 lk133 dX9_meets_29 ?_
      refine lv_iload_n hx hb dX9_meets_32 rfl (lv_at hl 2 rfl) ?_
      refine x_iald hx hb hK.1 hw (by first | exact Int.le_refl 0 | omega) (by first | exact zlt hc87 | omega) ar_87 (len_E ar_87 (by first | exact Nat.ne_of_beq_eq_false rfl | decide)) (by omega) (by omega) (by omega) dX9_meets_33 ?_
      have f5 : (-1) ≤ X 87 0 y ∧ X 87 0 y ≤ 29 := hR 87 0 y
      refine lv_iload_n hx hb dX9_meets_34 rfl (lv_at hl 1 rfl) ?_
      refine x_icmp_ne (tgt := 42) hx hb (by omega) (by omega) dX9_meets_35 (by decide) (fun c6 => ?_) (fun c6 => ?_)
      · refine lv_iconst (v := jI 0) hx hb dX9_meets_42 rfl ?_
        rw [hQ9]
        refine ret_z (mc := 0) (ms := 0) hx hb hr hlocks hw hS (by first | exact Nat.le_of_ble_eq_true rfl | omega) (by first | exact Nat.le_of_ble_eq_true rfl | omega) dX9_meets_43 (by omega) ?_
        exact ⟨X, rfl, hR, Frm.rf, hMI, hQ, by omega⟩
      · refine lv_iconst (v := jI 1) hx hb dX9_meets_38 rfl ?_
        refine lv_goto (tgt := 43) hx hb dX9_meets_39 (by decide) ?_
        rw [hQ9]
        refine ret_z (mc := 0) (ms := 0) hx hb hr hlocks hw hS (by first | exact Nat.le_of_ble_eq_true rfl | omega) (by first | exact Nat.le_of_ble_eq_true rfl | omega) dX9_meets_43 (by omega) ?_
        exact ⟨X, rfl, hR, Frm.rf, hMI, hQ, by omega⟩
  · refine lv_aload_n hx hb dX9_meets_9 rfl (lv_at hl 0 rfl) ?_
    refine x_geto hx hb hf9 hw (by first | exact Int.le_refl 0 | omega) (by first | exact zlt hc40 | omega) sl_40_46 lk133 dX9_meets_10 ?_
    refine lv_iload_n hx hb dX9_meets_13 rfl (lv_at hl 2 rfl) ?_
    refine x_iald hx hb hK.1 hw (by first | exact Int.le_refl 0 | omega) (by first | exact zlt hc87 | omega) ar_87 (len_E ar_87 (by first | exact Nat.ne_of_beq_eq_false rfl | decide)) (by omega) (by omega) (by omega) dX9_meets_14 ?_
    have f7 : (-1) ≤ X 87 0 y ∧ X 87 0 y ≤ 29 := hR 87 0 y
    refine x_if_lt (tgt := 44) hx hb (by omega) dX9_meets_15 (by decide) (fun c8 => ?_) (fun c8 => ?_)
    · have hq29 := hQ.room (x := x) hR (by omega) (by omega)
      refine lv_aload_n hx hb dX9_meets_44 rfl (lv_at hl 0 rfl) ?_
      refine x_geto hx hb hf9 hw (by first | exact Int.le_refl 0 | omega) (by first | exact zlt hc40 | omega) sl_40_45 lk130 dX9_meets_45 ?_
      refine lv_iload_n hx hb dX9_meets_48 rfl (lv_at hl 1 rfl) ?_
      refine lv_iload_n hx hb dX9_meets_49 rfl (lv_at hl 2 rfl) ?_
      refine x_iast hx hb hK.1 hw hS (by first | exact Int.le_refl 0 | omega) (by first | exact zlt hc86 | omega) ar_86 (len_E ar_86 (by first | exact Nat.ne_of_beq_eq_false rfl | decide)) (by omega) (by omega) (by omega) dX9_meets_50 (fun H locs hw hS => ?_)
      obtain ⟨X9, hX9⟩ : ∃ Xq, Xq = u3 X 86 0 x y := ⟨_, rfl⟩
      rw [← hX9] at hw
      have hRX9 : Rng X9 := by rw [hX9]; exact rng_set hR (show (-1) ≤ y ∧ y ≤ 29 by omega)
      have hVX9 : X9 86 0 x = y := by rw [hX9]; exact u3_s _ _ _ _ _
      have hFX9 : Frm [8600, 8700, 9000, 4051] X X9 := by rw [hX9]; exact Frm.set Frm.rf (show 8600 ∈ [8600, 8700, 9000, 4051] by first | exact nlm_in rfl | decide)
      refine lv_aload_n hx hb dX9_meets_51 rfl (lv_at hl 0 rfl) ?_
      refine x_geto hx hb hf9 hw (by first | exact Int.le_refl 0 | omega) (by first | exact zlt hc40 | omega) sl_40_46 lk133 dX9_meets_52 ?_
      refine lv_iload_n hx hb dX9_meets_55 rfl (lv_at hl 2 rfl) ?_
      refine lv_iload_n hx hb dX9_meets_56 rfl (lv_at hl 1 rfl) ?_
      refine x_iast hx hb hK.1 hw hS (by first | exact Int.le_refl 0 | omega) (by first | exact zlt hc87 | omega) ar_87 (len_E ar_87 (by first | exact Nat.ne_of_beq_eq_false rfl | decide)) (by omega) (by omega) (by omega) dX9_meets_57 (fun H locs hw hS => ?_)
      obtain ⟨X10, hX10⟩ : ∃ Xq, Xq = u3 X9 87 0 y x := ⟨_, rfl⟩
      rw [← hX10] at hw
      have hRX10 : Rng X10 := by rw [hX10]; exact rng_set hRX9 (show (-1) ≤ x ∧ x ≤ 29 by omega)
      have hVX10 : X10 87 0 y = x := by rw [hX10]; exact u3_s _ _ _ _ _
      have hFX10 : Frm [8600, 8700, 9000, 4051] X X10 := by rw [hX10]; exact Frm.set hFX9 (show 8700 ∈ [8600, 8700, 9000, 4051] by first | exact nlm_in rfl | decide)
      refine lv_aload_n hx hb dX9_meets_58 rfl (lv_at hl 0 rfl) ?_
      refine x_geto hx hb hf9 hw (by first | exact Int.le_refl 0 | omega) (by first | exact zlt hc40 | omega) sl_40_49 lk142 dX9_meets_59 ?_
      refine lv_aload_n hx hb dX9_meets_62 rfl (lv_at hl 0 rfl) ?_
      refine x_geti (jz := 50) hx hb hf9 hw (by first | exact Int.le_refl 0 | omega) (by first | exact zlt hc40 | omega) sl_40_50 rfl lk240 dX9_meets_63 ?_
      have e11 : X10 40 0 50 = X 40 0 50 := by rw [hX10, u3_k _ _ _ _ (by first | exact Nat.ne_of_beq_eq_false rfl | decide), hX9, u3_k _ _ _ _ (by first | exact Nat.ne_of_beq_eq_false rfl | decide)]
      rw [e11]
      have f12 : 0 ≤ X 40 0 50 ∧ X 40 0 50 ≤ 30 := hR 40 0 50
      refine lv_iload_n hx hb dX9_meets_66 rfl (lv_at hl 1 rfl) ?_
      refine x_iast hx hb hK.1 hw hS (by first | exact Int.le_refl 0 | omega) (by first | exact zlt hc90 | omega) ar_90 (len_E ar_90 (by first | exact Nat.ne_of_beq_eq_false rfl | decide)) (by omega) (by omega) (by omega) dX9_meets_67 (fun H locs hw hS => ?_)
      obtain ⟨X13, hX13⟩ : ∃ Xq, Xq = u3 X10 90 0 (X 40 0 50) x := ⟨_, rfl⟩
      rw [← hX13] at hw
      have hRX13 : Rng X13 := by rw [hX13]; exact rng_set hRX10 (show 0 ≤ x ∧ x ≤ 29 by omega)
      have hVX13 : X13 90 0 (X 40 0 50) = x := by rw [hX13]; exact u3_s _ _ _ _ _
      have hFX13 : Frm [8600, 8700, 9000, 4051] X X13 := by rw [hX13]; exact Frm.set hFX10 (show 9000 ∈ [8600, 8700, 9000, 4051] by first | exact nlm_in rfl | decide)
      refine lv_aload_n hx hb dX9_meets_68 rfl (lv_at hl 0 rfl) ?_
      refine lv_dup hx hb dX9_meets_69 rfl ?_
      refine x_geti (jz := 50) hx hb hf9 hw (by first | exact Int.le_refl 0 | omega) (by first | exact zlt hc40 | omega) sl_40_50 rfl lk240 dX9_meets_70 ?_
      have e14 : X13 40 0 50 = X 40 0 50 := by rw [hX13, u3_k _ _ _ _ (by first | exact Nat.ne_of_beq_eq_false rfl | decide), hX10, u3_k _ _ _ _ (by first | exact Nat.ne_of_beq_eq_false rfl | decide), hX9, u3_k _ _ _ _ (by first | exact Nat.ne_of_beq_eq_false rfl | decide)]
      rw [e14]
      have f15 : 0 ≤ X 40 0 50 ∧ X 40 0 50 ≤ 30 := hR 40 0 50
      refine lv_iconst (v := jI 1) hx hb dX9_meets_73 rfl ?_
      refine x_iadd hx hb dX9_meets_74 ?_
      refine x_puti (jz := 50) hx hb hf9 ⟨tyX9_ok, nmX9⟩ hw hS (by first | exact Int.le_refl 0 | omega) (by first | exact zlt hc40 | omega) sl_40_50 rfl lk240 rfl (tyX9_ok 50 (by decide)) rfl rfl dX9_meets_75 (fun H locs hw hS => ?_)
      obtain ⟨X16, hX16⟩ : ∃ Xq, Xq = u3 X13 40 0 50 ((X 40 0 50) + 1) := ⟨_, rfl⟩
      rw [← hX16] at hw
      have hRX16 : Rng X16 := by rw [hX16]; exact rng_set hRX13 (show 0 ≤ ((X 40 0 50) + 1) ∧ ((X 40 0 50) + 1) ≤ 30 by omega)
      have hVX16 : X16 40 0 50 = ((X 40 0 50) + 1) := by rw [hX16]; exact u3_s _ _ _ _ _
      have hFX16 : Frm [8600, 8700, 9000, 4051] X X16 := by rw [hX16]; exact Frm.set hFX13 (show 4051 ∈ [8600, 8700, 9000, 4051] by first | exact nlm_in rfl | decide)
      refine lv_iconst (v := jI 1) hx hb dX9_meets_78 rfl ?_
      rw [hQ9]
      refine ret_z (mc := 0) (ms := 0) hx hb hr hlocks hw hS (by first | exact Nat.le_of_ble_eq_true rfl | omega) (by first | exact Nat.le_of_ble_eq_true rfl | omega) dX9_meets_79 (by omega) ?_
      have q18 : Frm [4051, 8600, 8700, 9000] X X9 := by rw [hX9]; exact Frm.set Frm.rf (show 8600 ∈ [4051, 8600, 8700, 9000] by first | exact nlm_in rfl | decide)
      have q19 : Frm [4051, 8600, 8700, 9000] X X10 := by rw [hX10]; exact Frm.set q18 (show 8700 ∈ [4051, 8600, 8700, 9000] by first | exact nlm_in rfl | decide)
      have q20 : Frm [4051, 8600, 8700, 9000] X X13 := by rw [hX13]; exact Frm.set q19 (show 9000 ∈ [4051, 8600, 8700, 9000] by first | exact nlm_in rfl | decide)
      have q21 : Frm [4051, 8600, 8700, 9000] X X16 := by rw [hX16]; exact Frm.set q20 (show 4051 ∈ [4051, 8600, 8700, 9000] by first | exact nlm_in rfl | decide)
      have hMq17 : MInv X16 := minv_frm hMI q21 (by decide)
      exact ⟨X16, rfl, hRX16, hFX16, hMq17, qOK.push hQ (by omega) (by omega) (by omega) hX9 hX10 hX13 hX16, by omega⟩
    · refine lv_aload_n hx hb dX9_meets_18 rfl (lv_at hl 0 rfl) ?_
      refine x_geto hx hb hf9 hw (by first | exact Int.le_refl 0 | omega) (by first | exact zlt hc40 | omega) sl_40_45 lk130 dX9_meets_19 ?_
      refine lv_iload_n hx hb dX9_meets_22 rfl (lv_at hl 1 rfl) ?_
      refine x_iald hx hb hK.1 hw (by first | exact Int.le_refl 0 | omega) (by first | exact zlt hc86 | omega) ar_86 (len_E ar_86 (by first | exact Nat.ne_of_beq_eq_false rfl | decide)) (by omega) (by omega) (by omega) dX9_meets_23 ?_
      have f22 : (-1) ≤ X 86 0 x ∧ X 86 0 x ≤ 29 := hR 86 0 x
      refine lv_iload_n hx hb dX9_meets_24 rfl (lv_at hl 2 rfl) ?_
      refine x_icmp_ne (tgt := 42) hx hb (by omega) (by omega) dX9_meets_25 (by decide) (fun c23 => ?_) (fun c23 => ?_)
      · refine lv_iconst (v := jI 0) hx hb dX9_meets_42 rfl ?_
        rw [hQ9]
        refine ret_z (mc := 0) (ms := 0) hx hb hr hlocks hw hS (by first | exact Nat.le_of_ble_eq_true rfl | omega) (by first | exact Nat.le_of_ble_eq_true rfl | omega) dX9_meets_43 (by omega) ?_
        exact ⟨X, rfl, hR, Frm.rf, hMI, hQ, by omega⟩
      · refine lv_aload_n hx hb dX9_meets_28 rfl (lv_at hl 0 rfl) ?_
        refine x_geto hx hb hf9 hw (by first | exact Int.le_refl 0 | omega) (by first | exact zlt hc40 | omega) sl_40_46 lk133 dX9_meets_29 ?_
        refine lv_iload_n hx hb dX9_meets_32 rfl (lv_at hl 2 rfl) ?_
        refine x_iald hx hb hK.1 hw (by first | exact Int.le_refl 0 | omega) (by first | exact zlt hc87 | omega) ar_87 (len_E ar_87 (by first | exact Nat.ne_of_beq_eq_false rfl | decide)) (by omega) (by omega) (by omega) dX9_meets_33 ?_
        have f24 : (-1) ≤ X 87 0 y ∧ X 87 0 y ≤ 29 := hR 87 0 y
        refine lv_iload_n hx hb dX9_meets_34 rfl (lv_at hl 1 rfl) ?_
        refine x_icmp_ne (tgt := 42) hx hb (by omega) (by omega) dX9_meets_35 (by decide) (fun c25 => ?_) (fun c25 => ?_)
        · refine lv_iconst (v := jI 0) hx hb dX9_meets_42 rfl ?_
          rw [hQ9]
          refine ret_z (mc := 0) (ms := 0) hx hb hr hlocks hw hS (by first | exact Nat.le_of_ble_eq_true rfl | omega) (by first | exact Nat.le_of_ble_eq_true rfl | omega) dX9_meets_43 (by omega) ?_
          exact ⟨X, rfl, hR, Frm.rf, hMI, hQ, by omega⟩
        · refine lv_iconst (v := jI 1) hx hb dX9_meets_38 rfl ?_
          refine lv_goto (tgt := 43) hx hb dX9_meets_39 (by decide) ?_
          rw [hQ9]
          refine ret_z (mc := 0) (ms := 0) hx hb hr hlocks hw hS (by first | exact Nat.le_of_ble_eq_true rfl | omega) (by first | exact Nat.le_of_ble_eq_true rfl | omega) dX9_meets_43 (by omega) ?_
          exact ⟨X, rfl, hR, Frm.rf, hMI, hQ, by omega⟩

set_option maxHeartbeats 4000000 in
set_option maxRecDepth 100000 in
theorem c_X9_rowsMeet (l : Launch) (D : va_G) (tc : Nat → ClassId) (base : Nat) (ad : Nat → Int → Nat) (cnt : Nat → Int) (X : Nat → Int → Int → Int) (Y : Nat → Int → Int → Option Int) (ln : Int → Int) (hR : Rng X) (hFx : Fx cnt) (hMI : MInv X) (a b : Int) (ha0 : 0 ≤ a ∧ a ≤ 399) (hb0 : 0 ≤ b ∧ b ≤ 399) : KI l D tc base yX9_rowsMeet wsX9_rowsMeet ({ frames := 0, cells := 0, slots := 0, locals := 0 } : Room) [.ref (ad 40 0), .int (jI a), .int (jI b)] (ad, cnt, X, Y, ln) 0 0 (fun z u => ∃ X1 : Nat → Int → Int → Int, u = (ad, cnt, X1, Y, ln) ∧ Rng X1 ∧ Frm [8800, 8900] X X1 ∧ MInv X1 ∧ (0 ≤ z ∧ z ≤ 1)) := by
  refine K_of (cc := cX9_rowsMeet) (maxL := 5) (ret := (some .boolean)) (by decide) rfl (Nat.le_of_ble_eq_true rfl) ?_
  intro p e s m below meth c ls hx hb hr hml hown hts hlocks hl hK hw hS
  have hown : s.vm.findClass RX9 = some m.cls := hown
  obtain ⟨av9, hav9⟩ : ∃ a9 : Array Value, a9 = ([.ref (ad 40 0), .int (jI a), .int (jI b)] : List Value).toArray := ⟨_, rfl⟩
  rw [← hav9] at hts ⊢
  obtain ⟨Q9, hQ9⟩ : ∃ q9Q : State → Prop, q9Q = MQ below (QI D tc base (fun z u => ∃ X1 : Nat → Int → Int → Int, u = (ad, cnt, X1, Y, ln) ∧ Rng X1 ∧ Frm [8800, 8900] X X1 ∧ MInv X1 ∧ (0 ≤ z ∧ z ≤ 1))) av9 s 0 0 (frA base) := ⟨_, rfl⟩
  rw [← hQ9]
  have hi9 : ∀ w ∈ wsX90, w ∈ wsX9_rowsMeet := fun w h => List.mem_cons_of_mem _ (List.mem_append_right _ h)
  have hf9 : fctx s m _ RX9 wsX9_rowsMeet D tc RX9 TX9 51 9 := ⟨hts, hi9, hown, hK.1, rfl⟩
  have lk54 := hts (.fieldLink RX9 54 (TX9 17).1 (TX9 17).2.1 (TX9 17).2.2.1) (gj_X9_rowsMeet_0 _ (gp_1 (gp_1 gp_h)))
  have lk57 := hts (.fieldLink RX9 57 (TX9 18).1 (TX9 18).2.1 (TX9 18).2.2.1) (gj_X9_rowsMeet_0 _ (gp_1 (gp_1 (gp_1 gp_h))))
  have lk136 := hts (.fieldLink RX9 136 (TX9 47).1 (TX9 47).2.1 (TX9 47).2.2.1) (gj_X9_rowsMeet_0 _ (gp_h))
  have lk139 := hts (.fieldLink RX9 139 (TX9 48).1 (TX9 48).2.1 (TX9 48).2.2.1) (gj_X9_rowsMeet_0 _ (gp_1 gp_h))
  have hc40 : cnt 40 = 1 := hFx.at 40 1 (by decide)
  have hc58 : cnt 58 = 1 := hFx.at 58 1 (by decide)
  have hc59 : cnt 59 = 1 := hFx.at 59 1 (by decide)
  have hc88 : cnt 88 = 1 := hFx.at 88 1 (by decide)
  have hc89 : cnt 89 = 1 := hFx.at 89 1 (by decide)
  have hl : lv_has ls 5 [(0, .ref (ad 40 0)), (1, .int (jI a)), (2, .int (jI b))] := hl
  have fstypes : 0 ≤ X 40 0 2 ∧ X 40 0 2 ≤ 8 := hR 40 0 2
  have fsthings : 0 ≤ X 40 0 13 ∧ X 40 0 13 ≤ 30 := hR 40 0 13
  have fsmarks : 0 ≤ X 40 0 20 ∧ X 40 0 20 ≤ 4 := hR 40 0 20
  have fsnotes : 0 ≤ X 40 0 22 ∧ X 40 0 22 ≤ 80 := hR 40 0 22
  refine lv_aload_n hx hb dX9_rowsMeet_0 rfl (lv_at hl 0 rfl) ?_
  refine x_geto hx hb hf9 hw (by first | exact Int.le_refl 0 | omega) (by first | exact zlt hc40 | omega) sl_40_47 lk136 dX9_rowsMeet_1 ?_
  refine lv_iload_n hx hb dX9_rowsMeet_4 rfl (lv_at hl 1 rfl) ?_
  refine x_iald hx hb hK.1 hw (by first | exact Int.le_refl 0 | omega) (by first | exact zlt hc88 | omega) ar_88 (len_E ar_88 (by first | exact Nat.ne_of_beq_eq_false rfl | decide)) (by omega) (by omega) (by omega) dX9_rowsMeet_5 ?_
  have f1 : (-1) ≤ X 88 0 a ∧ X 88 0 a ≤ 399 := hR 88 0 a
  refine x_if_ge (tgt := 18) hx hb (by omega) dX9_rowsMeet_6 (by decide) (fun c2 => ?_) (fun c2 => ?_)
  · refine lv_aload_n hx hb dX9_rowsMeet_18 rfl (lv_at hl 0 rfl) ?_
    refine x_geto hx hb hf9 hw (by first | exact Int.le_refl 0 | omega) (by first | exact zlt hc40 | omega) sl_40_47 lk136 dX9_rowsMeet_19 ?_
    refine lv_iload_n hx hb dX9_rowsMeet_22 rfl (lv_at hl 1 rfl) ?_
    refine x_iald hx hb hK.1 hw (by first | exact Int.le_refl 0 | omega) (by first | exact zlt hc88 | omega) ar_88 (len_E ar_88 (by first | exact Nat.ne_of_beq_eq_false rfl | decide)) (by omega) (by omega) (by omega) dX9_rowsMeet_23 ?_
    have f3 : (-1) ≤ X 88 0 a ∧ X 88 0 a ≤ 399 := hR 88 0 a
    refine lv_iload_n hx hb dX9_rowsMeet_24 rfl (lv_at hl 2 rfl) ?_
    refine x_icmp_ne (tgt := 42) hx hb (by omega) (by omega) dX9_rowsMeet_25 (by decide) (fun c4 => ?_) (fun c4 => ?_)
    · refine lv_iconst (v := jI 0) hx hb dX9_rowsMeet_42 rfl ?_
      rw [hQ9]
      refine ret_z (mc := 0) (ms := 0) hx hb hr hlocks hw hS (by first | exact Nat.le_of_ble_eq_true rfl | omega) (by first | exact Nat.le_of_ble_eq_true rfl | omega) dX9_rowsMeet_43 (by omega) ?_
      exact ⟨X, rfl, hR, Frm.rf, hMI, by omega⟩
    · refine lv_aload_n hx hb dX9_rowsMeet_28 rfl (lv_at hl 0 rfl) ?_
      refine x_geto hx hb hf9 hw (by first | exact Int.le_refl 0 | omega) (by first | exact zlt hc40 | omega) sl_40_48 lk139 dX9_rowsMeet_29 ?_
      refine lv_iload_n hx hb dX9_rowsMeet_32 rfl (lv_at hl 2 rfl) ?_
      refine x_iald hx hb hK.1 hw (by first | exact Int.le_refl 0 | omega) (by first | exact zlt hc89 | omega) ar_89 (len_E ar_89 (by first | exact Nat.ne_of_beq_eq_false rfl | decide)) (by omega) (by omega) (by omega) dX9_rowsMeet_33 ?_
      have f5 : (-1) ≤ X 89 0 b ∧ X 89 0 b ≤ 399 := hR 89 0 b
      refine lv_iload_n hx hb dX9_rowsMeet_34 rfl (lv_at hl 1 rfl) ?_
      refine x_icmp_ne (tgt := 42) hx hb (by omega) (by omega) dX9_rowsMeet_35 (by decide) (fun c6 => ?_) (fun c6 => ?_)
      · refine lv_iconst (v := jI 0) hx hb dX9_rowsMeet_42 rfl ?_
        rw [hQ9]
        refine ret_z (mc := 0) (ms := 0) hx hb hr hlocks hw hS (by first | exact Nat.le_of_ble_eq_true rfl | omega) (by first | exact Nat.le_of_ble_eq_true rfl | omega) dX9_rowsMeet_43 (by omega) ?_
        exact ⟨X, rfl, hR, Frm.rf, hMI, by omega⟩
      · refine lv_iconst (v := jI 1) hx hb dX9_rowsMeet_38 rfl ?_
        refine lv_goto (tgt := 43) hx hb dX9_rowsMeet_39 (by decide) ?_
        rw [hQ9]
        refine ret_z (mc := 0) (ms := 0) hx hb hr hlocks hw hS (by first | exact Nat.le_of_ble_eq_true rfl | omega) (by first | exact Nat.le_of_ble_eq_true rfl | omega) dX9_rowsMeet_43 (by omega) ?_
        exact ⟨X, rfl, hR, Frm.rf, hMI, by omega⟩
  · refine lv_aload_n hx hb dX9_rowsMeet_9 rfl (lv_at hl 0 rfl) ?_
    refine x_geto hx hb hf9 hw (by first | exact Int.le_refl 0 | omega) (by first | exact zlt hc40 | omega) sl_40_48 lk139 dX9_rowsMeet_10 ?_
    refine lv_iload_n hx hb dX9_rowsMeet_13 rfl (lv_at hl 2 rfl) ?_
    refine x_iald hx hb hK.1 hw (by first | exact Int.le_refl 0 | omega) (by first | exact zlt hc89 | omega) ar_89 (len_E ar_89 (by first | exact Nat.ne_of_beq_eq_false rfl | decide)) (by omega) (by omega) (by omega) dX9_rowsMeet_14 ?_
    have f7 : (-1) ≤ X 89 0 b ∧ X 89 0 b ≤ 399 := hR 89 0 b
    refine x_if_lt (tgt := 44) hx hb (by omega) dX9_rowsMeet_15 (by decide) (fun c8 => ?_) (fun c8 => ?_)
    · refine lv_aload_n hx hb dX9_rowsMeet_44 rfl (lv_at hl 0 rfl) ?_
      refine x_geto hx hb hf9 hw (by first | exact Int.le_refl 0 | omega) (by first | exact zlt hc40 | omega) sl_40_47 lk136 dX9_rowsMeet_45 ?_
      refine lv_iload_n hx hb dX9_rowsMeet_48 rfl (lv_at hl 1 rfl) ?_
      refine lv_iload_n hx hb dX9_rowsMeet_49 rfl (lv_at hl 2 rfl) ?_
      refine x_iast hx hb hK.1 hw hS (by first | exact Int.le_refl 0 | omega) (by first | exact zlt hc88 | omega) ar_88 (len_E ar_88 (by first | exact Nat.ne_of_beq_eq_false rfl | decide)) (by omega) (by omega) (by omega) dX9_rowsMeet_50 (fun H locs hw hS => ?_)
      obtain ⟨X9, hX9⟩ : ∃ Xq, Xq = u3 X 88 0 a b := ⟨_, rfl⟩
      rw [← hX9] at hw
      have hRX9 : Rng X9 := by rw [hX9]; exact rng_set hR (show (-1) ≤ b ∧ b ≤ 399 by omega)
      have hVX9 : X9 88 0 a = b := by rw [hX9]; exact u3_s _ _ _ _ _
      have hFX9 : Frm [8800, 8900] X X9 := by rw [hX9]; exact Frm.set Frm.rf (show 8800 ∈ [8800, 8900] by first | exact nlm_in rfl | decide)
      refine lv_aload_n hx hb dX9_rowsMeet_51 rfl (lv_at hl 0 rfl) ?_
      refine x_geto hx hb hf9 hw (by first | exact Int.le_refl 0 | omega) (by first | exact zlt hc40 | omega) sl_40_48 lk139 dX9_rowsMeet_52 ?_
      refine lv_iload_n hx hb dX9_rowsMeet_55 rfl (lv_at hl 2 rfl) ?_
      refine lv_iload_n hx hb dX9_rowsMeet_56 rfl (lv_at hl 1 rfl) ?_
      refine x_iast hx hb hK.1 hw hS (by first | exact Int.le_refl 0 | omega) (by first | exact zlt hc89 | omega) ar_89 (len_E ar_89 (by first | exact Nat.ne_of_beq_eq_false rfl | decide)) (by omega) (by omega) (by omega) dX9_rowsMeet_57 (fun H locs hw hS => ?_)
      obtain ⟨X10, hX10⟩ : ∃ Xq, Xq = u3 X9 89 0 b a := ⟨_, rfl⟩
      rw [← hX10] at hw
      have hRX10 : Rng X10 := by rw [hX10]; exact rng_set hRX9 (show (-1) ≤ a ∧ a ≤ 399 by omega)
      have hVX10 : X10 89 0 b = a := by rw [hX10]; exact u3_s _ _ _ _ _
      have hFX10 : Frm [8800, 8900] X X10 := by rw [hX10]; exact Frm.set hFX9 (show 8900 ∈ [8800, 8900] by first | exact nlm_in rfl | decide)
      refine lv_aload_n hx hb dX9_rowsMeet_58 rfl (lv_at hl 0 rfl) ?_
      refine x_geto hx hb hf9 hw (by first | exact Int.le_refl 0 | omega) (by first | exact zlt hc40 | omega) sl_40_17 lk54 dX9_rowsMeet_59 ?_
      refine lv_iload_n hx hb dX9_rowsMeet_62 rfl (lv_at hl 1 rfl) ?_
      refine x_iald hx hb hK.1 hw (by first | exact Int.le_refl 0 | omega) (by first | exact zlt hc58 | omega) ar_58 (len_E ar_58 (by first | exact Nat.ne_of_beq_eq_false rfl | decide)) (by omega) (by omega) (by omega) dX9_rowsMeet_63 ?_
      have e11 : ∀ p9 q9 : Int, X10 58 p9 q9 = X 58 p9 q9 := fun p9 q9 => by rw [hX10, u3_k _ _ _ _ (by first | exact Nat.ne_of_beq_eq_false rfl | decide), hX9, u3_k _ _ _ _ (by first | exact Nat.ne_of_beq_eq_false rfl | decide)]
      rw [e11 0 a]
      have f12 : 0 ≤ X 58 0 a ∧ X 58 0 a ≤ 12 := hR 58 0 a
      refine lv_aload_n hx hb dX9_rowsMeet_64 rfl (lv_at hl 0 rfl) ?_
      refine x_geto hx hb hf9 hw (by first | exact Int.le_refl 0 | omega) (by first | exact zlt hc40 | omega) sl_40_17 lk54 dX9_rowsMeet_65 ?_
      refine lv_iload_n hx hb dX9_rowsMeet_68 rfl (lv_at hl 2 rfl) ?_
      refine x_iald hx hb hK.1 hw (by first | exact Int.le_refl 0 | omega) (by first | exact zlt hc58 | omega) ar_58 (len_E ar_58 (by first | exact Nat.ne_of_beq_eq_false rfl | decide)) (by omega) (by omega) (by omega) dX9_rowsMeet_69 ?_
      have e13 : ∀ p9 q9 : Int, X10 58 p9 q9 = X 58 p9 q9 := fun p9 q9 => by rw [hX10, u3_k _ _ _ _ (by first | exact Nat.ne_of_beq_eq_false rfl | decide), hX9, u3_k _ _ _ _ (by first | exact Nat.ne_of_beq_eq_false rfl | decide)]
      rw [e13 0 b]
      have f14 : 0 ≤ X 58 0 b ∧ X 58 0 b ≤ 12 := hR 58 0 b
      refine x_icmp_ne (tgt := 77) hx hb (by omega) (by omega) dX9_rowsMeet_70 (by decide) (fun c15 => ?_) (fun c15 => ?_)
      · refine lv_iconst (v := jI 0) hx hb dX9_rowsMeet_77 rfl ?_
        refine lv_istore_n (lv' := [(3, .int (jI 0)), (0, .ref (ad 40 0)), (1, .int (jI a)), (2, .int (jI b))]) hx hb dX9_rowsMeet_78 rfl hl (by decide) rfl (fun ls hl => ?_)
        refine lv_iconst (v := jI 0) hx hb dX9_rowsMeet_79 rfl ?_
        refine lv_istore (lv' := [(4, .int (jI 0)), (3, .int (jI 0)), (0, .ref (ad 40 0)), (1, .int (jI a)), (2, .int (jI b))]) hx hb dX9_rowsMeet_80 hl (by decide) rfl (fun ls hl => ?_)
        have lp82 : ∀ (nn : Nat) (sm : Int) (k : Int) (H : Heap) (locs : List Loc) (ls : Array Slot), (12 - k) < (nn : Int) → (0 ≤ sm ∧ sm ≤ 1) → (0 ≤ k ∧ k ≤ 12) → wd D tc base (ad, cnt, X10, Y, ln) H → va_S (frA base) s.heap H locs → lv_has ls 5 [(0, .ref (ad 40 0)), (1, .int (jI a)), (2, .int (jI b)), (3, .int (jI sm)), (4, .int (jI k))] → W p l e ({ frames := 0, cells := 0, slots := 0, locals := 0 } : Room) s m av9 below meth c H locs 0 0 Q9 (F0 m 82 ls []) := by
          intro nn
          induction nn with
          | zero => intro sm k H locs ls hm hsm hk hw hS hl; exfalso; omega
          | succ nn ih82 =>
            intro sm k H locs ls hm hsm hk hw hS hl
            refine lv_iload_n hx hb dX9_rowsMeet_82 rfl (lv_at hl 3 rfl) ?_
            refine x_if_eq (tgt := 137) hx hb (by omega) dX9_rowsMeet_83 (by decide) (fun c16 => ?_) (fun c16 => ?_)
            · refine lv_iload_n hx hb dX9_rowsMeet_137 rfl (lv_at hl 3 rfl) ?_
              rw [hQ9]
              refine ret_z (mc := 0) (ms := 0) hx hb hr hlocks hw hS (by first | exact Nat.le_of_ble_eq_true rfl | omega) (by first | exact Nat.le_of_ble_eq_true rfl | omega) dX9_rowsMeet_138 (by omega) ?_
              have q18 : Frm [8800, 8900] X X9 := by rw [hX9]; exact Frm.set Frm.rf (show 8800 ∈ [8800, 8900] by first | exact nlm_in rfl | decide)
              have q19 : Frm [8800, 8900] X X10 := by rw [hX10]; exact Frm.set q18 (show 8900 ∈ [8800, 8900] by first | exact nlm_in rfl | decide)
              have hMq17 : MInv X10 := minv_frm hMI q19 (by decide)
              exact ⟨X10, rfl, hRX10, hFX10, hMq17, by omega⟩
            · refine lv_iload hx hb dX9_rowsMeet_86 (lv_at hl 4 rfl) ?_
              refine lv_aload_n hx hb dX9_rowsMeet_88 rfl (lv_at hl 0 rfl) ?_
              refine x_geto hx hb hf9 hw (by first | exact Int.le_refl 0 | omega) (by first | exact zlt hc40 | omega) sl_40_17 lk54 dX9_rowsMeet_89 ?_
              refine lv_iload_n hx hb dX9_rowsMeet_92 rfl (lv_at hl 1 rfl) ?_
              refine x_iald hx hb hK.1 hw (by first | exact Int.le_refl 0 | omega) (by first | exact zlt hc58 | omega) ar_58 (len_E ar_58 (by first | exact Nat.ne_of_beq_eq_false rfl | decide)) (by omega) (by omega) (by omega) dX9_rowsMeet_93 ?_
              have e20 : ∀ p9 q9 : Int, X10 58 p9 q9 = X 58 p9 q9 := fun p9 q9 => by rw [hX10, u3_k _ _ _ _ (by first | exact Nat.ne_of_beq_eq_false rfl | decide), hX9, u3_k _ _ _ _ (by first | exact Nat.ne_of_beq_eq_false rfl | decide)]
              rw [e20 0 a]
              have f21 : 0 ≤ X 58 0 a ∧ X 58 0 a ≤ 12 := hR 58 0 a
              refine x_icmp_ge (tgt := 137) hx hb (by omega) (by omega) dX9_rowsMeet_94 (by decide) (fun c22 => ?_) (fun c22 => ?_)
              · refine lv_iload_n hx hb dX9_rowsMeet_137 rfl (lv_at hl 3 rfl) ?_
                rw [hQ9]
                refine ret_z (mc := 0) (ms := 0) hx hb hr hlocks hw hS (by first | exact Nat.le_of_ble_eq_true rfl | omega) (by first | exact Nat.le_of_ble_eq_true rfl | omega) dX9_rowsMeet_138 (by omega) ?_
                have q24 : Frm [8800, 8900] X X9 := by rw [hX9]; exact Frm.set Frm.rf (show 8800 ∈ [8800, 8900] by first | exact nlm_in rfl | decide)
                have q25 : Frm [8800, 8900] X X10 := by rw [hX10]; exact Frm.set q24 (show 8900 ∈ [8800, 8900] by first | exact nlm_in rfl | decide)
                have hMq23 : MInv X10 := minv_frm hMI q25 (by decide)
                exact ⟨X10, rfl, hRX10, hFX10, hMq23, by omega⟩
              · refine lv_aload_n hx hb dX9_rowsMeet_97 rfl (lv_at hl 0 rfl) ?_
                refine x_geto hx hb hf9 hw (by first | exact Int.le_refl 0 | omega) (by first | exact zlt hc40 | omega) sl_40_18 lk57 dX9_rowsMeet_98 ?_
                refine lv_bipush (v := jI 12) hx hb dX9_rowsMeet_101 (by decide) ?_
                refine lv_iload_n hx hb dX9_rowsMeet_103 rfl (lv_at hl 1 rfl) ?_
                refine x_imul hx hb dX9_rowsMeet_104 ?_
                refine lv_iload hx hb dX9_rowsMeet_105 (lv_at hl 4 rfl) ?_
                refine x_iadd hx hb dX9_rowsMeet_107 ?_
                refine x_lald hx hb hK.1 hw (by first | exact Int.le_refl 0 | omega) (by first | exact zlt hc59 | omega) ar_59 (len_E ar_59 (by first | exact Nat.ne_of_beq_eq_false rfl | decide)) (by omega) (by omega) (by omega) dX9_rowsMeet_108 ?_
                have e26 : ∀ p9 q9 : Int, X10 59 p9 q9 = X 59 p9 q9 := fun p9 q9 => by rw [hX10, u3_k _ _ _ _ (by first | exact Nat.ne_of_beq_eq_false rfl | decide), hX9, u3_k _ _ _ _ (by first | exact Nat.ne_of_beq_eq_false rfl | decide)]
                rw [e26 0 ((12 * a) + k)]
                have f27 : (-9223372036854775808) ≤ X 59 0 ((12 * a) + k) ∧ X 59 0 ((12 * a) + k) ≤ 9223372036854775807 := hR 59 0 ((12 * a) + k)
                refine lv_aload_n hx hb dX9_rowsMeet_109 rfl (lv_at hl 0 rfl) ?_
                refine x_geto hx hb hf9 hw (by first | exact Int.le_refl 0 | omega) (by first | exact zlt hc40 | omega) sl_40_18 lk57 dX9_rowsMeet_110 ?_
                refine lv_bipush (v := jI 12) hx hb dX9_rowsMeet_113 (by decide) ?_
                refine lv_iload_n hx hb dX9_rowsMeet_115 rfl (lv_at hl 2 rfl) ?_
                refine x_imul hx hb dX9_rowsMeet_116 ?_
                refine lv_iload hx hb dX9_rowsMeet_117 (lv_at hl 4 rfl) ?_
                refine x_iadd hx hb dX9_rowsMeet_119 ?_
                refine x_lald hx hb hK.1 hw (by first | exact Int.le_refl 0 | omega) (by first | exact zlt hc59 | omega) ar_59 (len_E ar_59 (by first | exact Nat.ne_of_beq_eq_false rfl | decide)) (by omega) (by omega) (by omega) dX9_rowsMeet_120 ?_
                have e28 : ∀ p9 q9 : Int, X10 59 p9 q9 = X 59 p9 q9 := fun p9 q9 => by rw [hX10, u3_k _ _ _ _ (by first | exact Nat.ne_of_beq_eq_false rfl | decide), hX9, u3_k _ _ _ _ (by first | exact Nat.ne_of_beq_eq_false rfl | decide)]
                rw [e28 0 ((12 * b) + k)]
                have f29 : (-9223372036854775808) ≤ X 59 0 ((12 * b) + k) ∧ X 59 0 ((12 * b) + k) ≤ 9223372036854775807 := hR 59 0 ((12 * b) + k)
                refine x_lcmp hx hb (by omega) (by omega) dX9_rowsMeet_121 ?_
                obtain ⟨z30, ez30⟩ : ∃ y : Int, y = cmpZ (X 59 0 ((12 * a) + k)) (X 59 0 ((12 * b) + k)) := ⟨_, rfl⟩
                rw [← ez30]
                have gz30 : (z30 < 0 ↔ ((X 59 0 ((12 * a) + k)) : Int) < (X 59 0 ((12 * b) + k))) ∧ (z30 = 0 ↔ ((X 59 0 ((12 * a) + k)) : Int) = (X 59 0 ((12 * b) + k))) ∧ -1 ≤ z30 ∧ z30 ≤ 1 := by rw [ez30]; exact ⟨cmpZ_lt, cmpZ_eq, (cmpZ_r _ _).1, (cmpZ_r _ _).2⟩
                clear ez30
                refine x_if_ne (tgt := 129) hx hb (by omega) dX9_rowsMeet_122 (by decide) (fun c31 => ?_) (fun c31 => ?_)
                · replace c31 := cz_neT gz30 c31
                  clear gz30
                  refine lv_iconst (v := jI 0) hx hb dX9_rowsMeet_129 rfl ?_
                  refine lv_istore_n (lv' := [(3, .int (jI 0)), (0, .ref (ad 40 0)), (1, .int (jI a)), (2, .int (jI b)), (4, .int (jI k))]) hx hb dX9_rowsMeet_130 rfl hl (by decide) rfl (fun ls hl => ?_)
                  refine lv_iinc (v := jI (k + 1)) (lv' := [(4, .int (jI (k + 1))), (3, .int (jI 0)), (0, .ref (ad 40 0)), (1, .int (jI a)), (2, .int (jI b))]) hx hb dX9_rowsMeet_131 hl (k := 4) rfl (jI_add _ _) (by decide) rfl (fun ls hl => ?_)
                  refine lv_goto (tgt := 82) hx hb dX9_rowsMeet_134 (by decide) ?_
                  exact ih82 0 (k + 1) _ _ _ (by omega) (by omega) (by omega) hw hS (lv_sub hl [2, 3, 4, 1, 0] rfl)
                · replace c31 := cz_neF gz30 c31
                  clear gz30
                  refine lv_iconst (v := jI 1) hx hb dX9_rowsMeet_125 rfl ?_
                  refine lv_goto (tgt := 130) hx hb dX9_rowsMeet_126 (by decide) ?_
                  refine lv_istore_n (lv' := [(3, .int (jI 1)), (0, .ref (ad 40 0)), (1, .int (jI a)), (2, .int (jI b)), (4, .int (jI k))]) hx hb dX9_rowsMeet_130 rfl hl (by decide) rfl (fun ls hl => ?_)
                  refine lv_iinc (v := jI (k + 1)) (lv' := [(4, .int (jI (k + 1))), (3, .int (jI 1)), (0, .ref (ad 40 0)), (1, .int (jI a)), (2, .int (jI b))]) hx hb dX9_rowsMeet_131 hl (k := 4) rfl (jI_add _ _) (by decide) rfl (fun ls hl => ?_)
                  refine lv_goto (tgt := 82) hx hb dX9_rowsMeet_134 (by decide) ?_
                  exact ih82 1 (k + 1) _ _ _ (by omega) (by omega) (by omega) hw hS (lv_sub hl [2, 3, 4, 1, 0] rfl)
        exact lp82 (12 - 0 : Int).toNat.succ 0 0 _ _ _ (by omega) (by omega) (by omega) hw hS (lv_sub hl [2, 3, 4, 1, 0] rfl)
      · refine lv_iconst (v := jI 1) hx hb dX9_rowsMeet_73 rfl ?_
        refine lv_goto (tgt := 78) hx hb dX9_rowsMeet_74 (by decide) ?_
        refine lv_istore_n (lv' := [(3, .int (jI 1)), (0, .ref (ad 40 0)), (1, .int (jI a)), (2, .int (jI b))]) hx hb dX9_rowsMeet_78 rfl hl (by decide) rfl (fun ls hl => ?_)
        refine lv_iconst (v := jI 0) hx hb dX9_rowsMeet_79 rfl ?_
        refine lv_istore (lv' := [(4, .int (jI 0)), (3, .int (jI 1)), (0, .ref (ad 40 0)), (1, .int (jI a)), (2, .int (jI b))]) hx hb dX9_rowsMeet_80 hl (by decide) rfl (fun ls hl => ?_)
        have lp82 : ∀ (nn : Nat) (sm : Int) (k : Int) (H : Heap) (locs : List Loc) (ls : Array Slot), (12 - k) < (nn : Int) → (0 ≤ sm ∧ sm ≤ 1) → (0 ≤ k ∧ k ≤ 12) → wd D tc base (ad, cnt, X10, Y, ln) H → va_S (frA base) s.heap H locs → lv_has ls 5 [(0, .ref (ad 40 0)), (1, .int (jI a)), (2, .int (jI b)), (3, .int (jI sm)), (4, .int (jI k))] → W p l e ({ frames := 0, cells := 0, slots := 0, locals := 0 } : Room) s m av9 below meth c H locs 0 0 Q9 (F0 m 82 ls []) := by
          intro nn
          induction nn with
          | zero => intro sm k H locs ls hm hsm hk hw hS hl; exfalso; omega
          | succ nn ih82 =>
            intro sm k H locs ls hm hsm hk hw hS hl
            refine lv_iload_n hx hb dX9_rowsMeet_82 rfl (lv_at hl 3 rfl) ?_
            refine x_if_eq (tgt := 137) hx hb (by omega) dX9_rowsMeet_83 (by decide) (fun c32 => ?_) (fun c32 => ?_)
            · refine lv_iload_n hx hb dX9_rowsMeet_137 rfl (lv_at hl 3 rfl) ?_
              rw [hQ9]
              refine ret_z (mc := 0) (ms := 0) hx hb hr hlocks hw hS (by first | exact Nat.le_of_ble_eq_true rfl | omega) (by first | exact Nat.le_of_ble_eq_true rfl | omega) dX9_rowsMeet_138 (by omega) ?_
              have q34 : Frm [8800, 8900] X X9 := by rw [hX9]; exact Frm.set Frm.rf (show 8800 ∈ [8800, 8900] by first | exact nlm_in rfl | decide)
              have q35 : Frm [8800, 8900] X X10 := by rw [hX10]; exact Frm.set q34 (show 8900 ∈ [8800, 8900] by first | exact nlm_in rfl | decide)
              have hMq33 : MInv X10 := minv_frm hMI q35 (by decide)
              exact ⟨X10, rfl, hRX10, hFX10, hMq33, by omega⟩
            · refine lv_iload hx hb dX9_rowsMeet_86 (lv_at hl 4 rfl) ?_
              refine lv_aload_n hx hb dX9_rowsMeet_88 rfl (lv_at hl 0 rfl) ?_
              refine x_geto hx hb hf9 hw (by first | exact Int.le_refl 0 | omega) (by first | exact zlt hc40 | omega) sl_40_17 lk54 dX9_rowsMeet_89 ?_
              refine lv_iload_n hx hb dX9_rowsMeet_92 rfl (lv_at hl 1 rfl) ?_
              refine x_iald hx hb hK.1 hw (by first | exact Int.le_refl 0 | omega) (by first | exact zlt hc58 | omega) ar_58 (len_E ar_58 (by first | exact Nat.ne_of_beq_eq_false rfl | decide)) (by omega) (by omega) (by omega) dX9_rowsMeet_93 ?_
              have e36 : ∀ p9 q9 : Int, X10 58 p9 q9 = X 58 p9 q9 := fun p9 q9 => by rw [hX10, u3_k _ _ _ _ (by first | exact Nat.ne_of_beq_eq_false rfl | decide), hX9, u3_k _ _ _ _ (by first | exact Nat.ne_of_beq_eq_false rfl | decide)]
              rw [e36 0 a]
              have f37 : 0 ≤ X 58 0 a ∧ X 58 0 a ≤ 12 := hR 58 0 a
              refine x_icmp_ge (tgt := 137) hx hb (by omega) (by omega) dX9_rowsMeet_94 (by decide) (fun c38 => ?_) (fun c38 => ?_)
              · refine lv_iload_n hx hb dX9_rowsMeet_137 rfl (lv_at hl 3 rfl) ?_
                rw [hQ9]
                refine ret_z (mc := 0) (ms := 0) hx hb hr hlocks hw hS (by first | exact Nat.le_of_ble_eq_true rfl | omega) (by first | exact Nat.le_of_ble_eq_true rfl | omega) dX9_rowsMeet_138 (by omega) ?_
                have q40 : Frm [8800, 8900] X X9 := by rw [hX9]; exact Frm.set Frm.rf (show 8800 ∈ [8800, 8900] by first | exact nlm_in rfl | decide)
                have q41 : Frm [8800, 8900] X X10 := by rw [hX10]; exact Frm.set q40 (show 8900 ∈ [8800, 8900] by first | exact nlm_in rfl | decide)
                have hMq39 : MInv X10 := minv_frm hMI q41 (by decide)
                exact ⟨X10, rfl, hRX10, hFX10, hMq39, by omega⟩
              · refine lv_aload_n hx hb dX9_rowsMeet_97 rfl (lv_at hl 0 rfl) ?_
                refine x_geto hx hb hf9 hw (by first | exact Int.le_refl 0 | omega) (by first | exact zlt hc40 | omega) sl_40_18 lk57 dX9_rowsMeet_98 ?_
                refine lv_bipush (v := jI 12) hx hb dX9_rowsMeet_101 (by decide) ?_
                refine lv_iload_n hx hb dX9_rowsMeet_103 rfl (lv_at hl 1 rfl) ?_
                refine x_imul hx hb dX9_rowsMeet_104 ?_
                refine lv_iload hx hb dX9_rowsMeet_105 (lv_at hl 4 rfl) ?_
                refine x_iadd hx hb dX9_rowsMeet_107 ?_
                refine x_lald hx hb hK.1 hw (by first | exact Int.le_refl 0 | omega) (by first | exact zlt hc59 | omega) ar_59 (len_E ar_59 (by first | exact Nat.ne_of_beq_eq_false rfl | decide)) (by omega) (by omega) (by omega) dX9_rowsMeet_108 ?_
                have e42 : ∀ p9 q9 : Int, X10 59 p9 q9 = X 59 p9 q9 := fun p9 q9 => by rw [hX10, u3_k _ _ _ _ (by first | exact Nat.ne_of_beq_eq_false rfl | decide), hX9, u3_k _ _ _ _ (by first | exact Nat.ne_of_beq_eq_false rfl | decide)]
                rw [e42 0 ((12 * a) + k)]
                have f43 : (-9223372036854775808) ≤ X 59 0 ((12 * a) + k) ∧ X 59 0 ((12 * a) + k) ≤ 9223372036854775807 := hR 59 0 ((12 * a) + k)
                refine lv_aload_n hx hb dX9_rowsMeet_109 rfl (lv_at hl 0 rfl) ?_
                refine x_geto hx hb hf9 hw (by first | exact Int.le_refl 0 | omega) (by first | exact zlt hc40 | omega) sl_40_18 lk57 dX9_rowsMeet_110 ?_
                refine lv_bipush (v := jI 12) hx hb dX9_rowsMeet_113 (by decide) ?_
                refine lv_iload_n hx hb dX9_rowsMeet_115 rfl (lv_at hl 2 rfl) ?_
                refine x_imul hx hb dX9_rowsMeet_116 ?_
                refine lv_iload hx hb dX9_rowsMeet_117 (lv_at hl 4 rfl) ?_
                refine x_iadd hx hb dX9_rowsMeet_119 ?_
                refine x_lald hx hb hK.1 hw (by first | exact Int.le_refl 0 | omega) (by first | exact zlt hc59 | omega) ar_59 (len_E ar_59 (by first | exact Nat.ne_of_beq_eq_false rfl | decide)) (by omega) (by omega) (by omega) dX9_rowsMeet_120 ?_
                have e44 : ∀ p9 q9 : Int, X10 59 p9 q9 = X 59 p9 q9 := fun p9 q9 => by rw [hX10, u3_k _ _ _ _ (by first | exact Nat.ne_of_beq_eq_false rfl | decide), hX9, u3_k _ _ _ _ (by first | exact Nat.ne_of_beq_eq_false rfl | decide)]
                rw [e44 0 ((12 * b) + k)]
                have f45 : (-9223372036854775808) ≤ X 59 0 ((12 * b) + k) ∧ X 59 0 ((12 * b) + k) ≤ 9223372036854775807 := hR 59 0 ((12 * b) + k)
                refine x_lcmp hx hb (by omega) (by omega) dX9_rowsMeet_121 ?_
                obtain ⟨z46, ez46⟩ : ∃ y : Int, y = cmpZ (X 59 0 ((12 * a) + k)) (X 59 0 ((12 * b) + k)) := ⟨_, rfl⟩
                rw [← ez46]
                have gz46 : (z46 < 0 ↔ ((X 59 0 ((12 * a) + k)) : Int) < (X 59 0 ((12 * b) + k))) ∧ (z46 = 0 ↔ ((X 59 0 ((12 * a) + k)) : Int) = (X 59 0 ((12 * b) + k))) ∧ -1 ≤ z46 ∧ z46 ≤ 1 := by rw [ez46]; exact ⟨cmpZ_lt, cmpZ_eq, (cmpZ_r _ _).1, (cmpZ_r _ _).2⟩
                clear ez46
                refine x_if_ne (tgt := 129) hx hb (by omega) dX9_rowsMeet_122 (by decide) (fun c47 => ?_) (fun c47 => ?_)
                · replace c47 := cz_neT gz46 c47
                  clear gz46
                  refine lv_iconst (v := jI 0) hx hb dX9_rowsMeet_129 rfl ?_
                  refine lv_istore_n (lv' := [(3, .int (jI 0)), (0, .ref (ad 40 0)), (1, .int (jI a)), (2, .int (jI b)), (4, .int (jI k))]) hx hb dX9_rowsMeet_130 rfl hl (by decide) rfl (fun ls hl => ?_)
                  refine lv_iinc (v := jI (k + 1)) (lv' := [(4, .int (jI (k + 1))), (3, .int (jI 0)), (0, .ref (ad 40 0)), (1, .int (jI a)), (2, .int (jI b))]) hx hb dX9_rowsMeet_131 hl (k := 4) rfl (jI_add _ _) (by decide) rfl (fun ls hl => ?_)
                  refine lv_goto (tgt := 82) hx hb dX9_rowsMeet_134 (by decide) ?_
                  exact ih82 0 (k + 1) _ _ _ (by omega) (by omega) (by omega) hw hS (lv_sub hl [2, 3, 4, 1, 0] rfl)
                · replace c47 := cz_neF gz46 c47
                  clear gz46
                  refine lv_iconst (v := jI 1) hx hb dX9_rowsMeet_125 rfl ?_
                  refine lv_goto (tgt := 130) hx hb dX9_rowsMeet_126 (by decide) ?_
                  refine lv_istore_n (lv' := [(3, .int (jI 1)), (0, .ref (ad 40 0)), (1, .int (jI a)), (2, .int (jI b)), (4, .int (jI k))]) hx hb dX9_rowsMeet_130 rfl hl (by decide) rfl (fun ls hl => ?_)
                  refine lv_iinc (v := jI (k + 1)) (lv' := [(4, .int (jI (k + 1))), (3, .int (jI 1)), (0, .ref (ad 40 0)), (1, .int (jI a)), (2, .int (jI b))]) hx hb dX9_rowsMeet_131 hl (k := 4) rfl (jI_add _ _) (by decide) rfl (fun ls hl => ?_)
                  refine lv_goto (tgt := 82) hx hb dX9_rowsMeet_134 (by decide) ?_
                  exact ih82 1 (k + 1) _ _ _ (by omega) (by omega) (by omega) hw hS (lv_sub hl [2, 3, 4, 1, 0] rfl)
        exact lp82 (12 - 0 : Int).toNat.succ 1 0 _ _ _ (by omega) (by omega) (by omega) hw hS (lv_sub hl [2, 3, 4, 1, 0] rfl)
    · refine lv_aload_n hx hb dX9_rowsMeet_18 rfl (lv_at hl 0 rfl) ?_
      refine x_geto hx hb hf9 hw (by first | exact Int.le_refl 0 | omega) (by first | exact zlt hc40 | omega) sl_40_47 lk136 dX9_rowsMeet_19 ?_
      refine lv_iload_n hx hb dX9_rowsMeet_22 rfl (lv_at hl 1 rfl) ?_
      refine x_iald hx hb hK.1 hw (by first | exact Int.le_refl 0 | omega) (by first | exact zlt hc88 | omega) ar_88 (len_E ar_88 (by first | exact Nat.ne_of_beq_eq_false rfl | decide)) (by omega) (by omega) (by omega) dX9_rowsMeet_23 ?_
      have f48 : (-1) ≤ X 88 0 a ∧ X 88 0 a ≤ 399 := hR 88 0 a
      refine lv_iload_n hx hb dX9_rowsMeet_24 rfl (lv_at hl 2 rfl) ?_
      refine x_icmp_ne (tgt := 42) hx hb (by omega) (by omega) dX9_rowsMeet_25 (by decide) (fun c49 => ?_) (fun c49 => ?_)
      · refine lv_iconst (v := jI 0) hx hb dX9_rowsMeet_42 rfl ?_
        rw [hQ9]
        refine ret_z (mc := 0) (ms := 0) hx hb hr hlocks hw hS (by first | exact Nat.le_of_ble_eq_true rfl | omega) (by first | exact Nat.le_of_ble_eq_true rfl | omega) dX9_rowsMeet_43 (by omega) ?_
        exact ⟨X, rfl, hR, Frm.rf, hMI, by omega⟩
      · refine lv_aload_n hx hb dX9_rowsMeet_28 rfl (lv_at hl 0 rfl) ?_
        refine x_geto hx hb hf9 hw (by first | exact Int.le_refl 0 | omega) (by first | exact zlt hc40 | omega) sl_40_48 lk139 dX9_rowsMeet_29 ?_
        refine lv_iload_n hx hb dX9_rowsMeet_32 rfl (lv_at hl 2 rfl) ?_
        refine x_iald hx hb hK.1 hw (by first | exact Int.le_refl 0 | omega) (by first | exact zlt hc89 | omega) ar_89 (len_E ar_89 (by first | exact Nat.ne_of_beq_eq_false rfl | decide)) (by omega) (by omega) (by omega) dX9_rowsMeet_33 ?_
        have f50 : (-1) ≤ X 89 0 b ∧ X 89 0 b ≤ 399 := hR 89 0 b
        refine lv_iload_n hx hb dX9_rowsMeet_34 rfl (lv_at hl 1 rfl) ?_
        refine x_icmp_ne (tgt := 42) hx hb (by omega) (by omega) dX9_rowsMeet_35 (by decide) (fun c51 => ?_) (fun c51 => ?_)
        · refine lv_iconst (v := jI 0) hx hb dX9_rowsMeet_42 rfl ?_
          rw [hQ9]
          refine ret_z (mc := 0) (ms := 0) hx hb hr hlocks hw hS (by first | exact Nat.le_of_ble_eq_true rfl | omega) (by first | exact Nat.le_of_ble_eq_true rfl | omega) dX9_rowsMeet_43 (by omega) ?_
          exact ⟨X, rfl, hR, Frm.rf, hMI, by omega⟩
        · refine lv_iconst (v := jI 1) hx hb dX9_rowsMeet_38 rfl ?_
          refine lv_goto (tgt := 43) hx hb dX9_rowsMeet_39 (by decide) ?_
          rw [hQ9]
          refine ret_z (mc := 0) (ms := 0) hx hb hr hlocks hw hS (by first | exact Nat.le_of_ble_eq_true rfl | omega) (by first | exact Nat.le_of_ble_eq_true rfl | omega) dX9_rowsMeet_43 (by omega) ?_
          exact ⟨X, rfl, hR, Frm.rf, hMI, by omega⟩

set_option maxHeartbeats 4000000 in
set_option maxRecDepth 100000 in
theorem c_X9_saved (l : Launch) (D : va_G) (tc : Nat → ClassId) (base : Nat) (ad : Nat → Int → Nat) (cnt : Nat → Int) (X : Nat → Int → Int → Int) (Y : Nat → Int → Int → Option Int) (ln : Int → Int) (hR : Rng X) (hFx : Fx cnt) (hMI : MInv X) (sv what : Int) (hsv : -2147483648 ≤ sv ∧ sv ≤ 2147483647) (hwhat : -2147483648 ≤ what ∧ what ≤ 2147483647) : KI l D tc base yX9_saved wsX9_saved ({ frames := 1, cells := 0, slots := 0, locals := 21 } : Room) [.ref (ad 40 0), .int (jI sv), .int (jI what)] (ad, cnt, X, Y, ln) 0 0 (fun z u => ∃ X1 : Nat → Int → Int → Int, u = (ad, cnt, X1, Y, ln) ∧ Rng X1 ∧ Frm [4001] X X1 ∧ MInv X1 ∧ (-2147483648 ≤ z ∧ z ≤ 2147483647) ∧ ((¬ (0 ≤ sv ∧ sv < 4) ∧ z = -1) ∨ ((0 ≤ sv ∧ sv < 4) ∧ what = 0 ∧ z = X 70 0 sv) ∨ ((0 ≤ sv ∧ sv < 4) ∧ what = 1 ∧ X 70 0 sv = 0 ∧ z = 0) ∨ ((0 ≤ sv ∧ sv < 4) ∧ what = 1 ∧ X 70 0 sv ≠ 0 ∧ z = X 76 0 sv) ∨ ((0 ≤ sv ∧ sv < 4) ∧ what ≠ 0 ∧ what ≠ 1 ∧ z = -2))) := by
  refine K_of (cc := cX9_saved) (maxL := 3) (ret := (some .int)) (by decide) rfl (Nat.le_of_ble_eq_true rfl) ?_
  intro p e s m below meth c ls hx hb hr hml hown hts hlocks hl hK hw hS
  have hown : s.vm.findClass RX9 = some m.cls := hown
  obtain ⟨av9, hav9⟩ : ∃ a9 : Array Value, a9 = ([.ref (ad 40 0), .int (jI sv), .int (jI what)] : List Value).toArray := ⟨_, rfl⟩
  rw [← hav9] at hts ⊢
  obtain ⟨Q9, hQ9⟩ : ∃ q9Q : State → Prop, q9Q = MQ below (QI D tc base (fun z u => ∃ X1 : Nat → Int → Int → Int, u = (ad, cnt, X1, Y, ln) ∧ Rng X1 ∧ Frm [4001] X X1 ∧ MInv X1 ∧ (-2147483648 ≤ z ∧ z ≤ 2147483647) ∧ ((¬ (0 ≤ sv ∧ sv < 4) ∧ z = -1) ∨ ((0 ≤ sv ∧ sv < 4) ∧ what = 0 ∧ z = X 70 0 sv) ∨ ((0 ≤ sv ∧ sv < 4) ∧ what = 1 ∧ X 70 0 sv = 0 ∧ z = 0) ∨ ((0 ≤ sv ∧ sv < 4) ∧ what = 1 ∧ X 70 0 sv ≠ 0 ∧ z = X 76 0 sv) ∨ ((0 ≤ sv ∧ sv < 4) ∧ what ≠ 0 ∧ what ≠ 1 ∧ z = -2)))) av9 s 0 0 (frA base) := ⟨_, rfl⟩
  rw [← hQ9]
  have hi9 : ∀ w ∈ wsX90, w ∈ wsX9_saved := fun w h => List.mem_cons_of_mem _ (List.mem_append_right _ h)
  have hf9 : fctx s m _ RX9 wsX9_saved D tc RX9 TX9 51 9 := ⟨hts, hi9, hown, hK.1, rfl⟩
  have lk81 := hts (.fieldLink RX9 81 (TX9 29).1 (TX9 29).2.1 (TX9 29).2.2.1) (gj_X9_saved_0 _ (gp_1 gp_h))
  have lk99 := hts (.fieldLink RX9 99 (TX9 35).1 (TX9 35).2.1 (TX9 35).2.2.1) (gj_X9_saved_0 _ (gp_1 (gp_1 gp_h)))
  have lk145 := hts (.fieldLink RX9 145 (TX9 0).1 (TX9 0).2.1 (TX9 0).2.2.1) (gj_X9_saved_0 _ (gp_h))
  have hc40 : cnt 40 = 1 := hFx.at 40 1 (by decide)
  have hc70 : cnt 70 = 1 := hFx.at 70 1 (by decide)
  have hc76 : cnt 76 = 1 := hFx.at 76 1 (by decide)
  have hl : lv_has ls 3 [(0, .ref (ad 40 0)), (1, .int (jI sv)), (2, .int (jI what))] := hl
  have fstypes : 0 ≤ X 40 0 2 ∧ X 40 0 2 ≤ 8 := hR 40 0 2
  have fsthings : 0 ≤ X 40 0 13 ∧ X 40 0 13 ≤ 30 := hR 40 0 13
  have fsmarks : 0 ≤ X 40 0 20 ∧ X 40 0 20 ≤ 4 := hR 40 0 20
  have fsnotes : 0 ≤ X 40 0 22 ∧ X 40 0 22 ≤ 80 := hR 40 0 22
  refine lv_aload_n hx hb dX9_saved_0 rfl (lv_at hl 0 rfl) ?_
  refine lv_iconst (v := jI 0) hx hb dX9_saved_1 rfl ?_
  refine x_puti (jz := 0) hx hb hf9 ⟨tyX9_ok, nmX9⟩ hw hS (by first | exact Int.le_refl 0 | omega) (by first | exact zlt hc40 | omega) sl_40_0 rfl lk145 rfl (tyX9_ok 0 (by decide)) rfl rfl dX9_saved_2 (fun H locs hw hS => ?_)
  obtain ⟨X1, hX1⟩ : ∃ Xq, Xq = u3 X 40 0 0 0 := ⟨_, rfl⟩
  rw [← hX1] at hw
  have hRX1 : Rng X1 := by rw [hX1]; exact rng_set hR (show (-2147483648) ≤ 0 ∧ 0 ≤ 2147483647 by omega)
  have hVX1 : X1 40 0 0 = 0 := by rw [hX1]; exact u3_s _ _ _ _ _
  have hFX1 : Frm [4001] X X1 := by rw [hX1]; exact Frm.set Frm.rf (show 4001 ∈ [4001] by first | exact nlm_in rfl | decide)
  refine lv_aload_n hx hb dX9_saved_5 rfl (lv_at hl 0 rfl) ?_
  refine lv_iload_n hx hb dX9_saved_6 rfl (lv_at hl 1 rfl) ?_
  refine gos_i (run_V (As := [.int (jI sv)]) (rest := []) hx hb hml hown hts (c_X9_isSave l D tc base ad cnt X1 Y ln hRX1 hFx sv (by omega)) (cwV 1 hts gX9_saved_X9_isSave rfl rfl rfl (by first | exact hd_X9_isSave | decide +kernel) ⟨Nat.le_of_ble_eq_true rfl, Nat.le_of_ble_eq_true rfl⟩) hK hw (by first | exact Int.le_refl 0 | omega) (by first | exact zlt hc40 | omega) sl_40_0 rfl rfl hl.1 rfl (Nat.le_of_ble_eq_true rfl) dX9_saved_7 ⟨Nat.le_of_ble_eq_true rfl, Nat.le_of_ble_eq_true rfl⟩) hS (fun z2 u3 H locs p4 hw hS => ?_)
  obtain ⟨eu3, p4⟩ := p4
  subst eu3
  rcases p4 with ⟨ez2, p4⟩ | ⟨ez2, p4⟩
  · subst ez2
    refine x_if_neT (tgt := 15) hx hb (by omega) (by decide) dX9_saved_10 (by decide) ?_
    refine lv_iload_n hx hb dX9_saved_15 rfl (lv_at hl 2 rfl) ?_
    refine x_if_ne (tgt := 28) hx hb (by omega) dX9_saved_16 (by decide) (fun c5 => ?_) (fun c5 => ?_)
    · refine lv_iload_n hx hb dX9_saved_28 rfl (lv_at hl 2 rfl) ?_
      refine lv_iconst (v := jI 1) hx hb dX9_saved_29 rfl ?_
      refine x_icmp_ne (tgt := 55) hx hb (by omega) (by omega) dX9_saved_30 (by decide) (fun c6 => ?_) (fun c6 => ?_)
      · refine lv_bipush (v := jI (-2)) hx hb dX9_saved_55 (by decide) ?_
        rw [hQ9]
        refine ret_i (mc := 0) (ms := 0) hx hb hr hlocks hw hS (by first | exact Nat.le_of_ble_eq_true rfl | omega) (by first | exact Nat.le_of_ble_eq_true rfl | omega) dX9_saved_57 ?_
        have q8 : Frm [4001] X X1 := by rw [hX1]; exact Frm.set Frm.rf (show 4001 ∈ [4001] by first | exact nlm_in rfl | decide)
        have hMq7 : MInv X1 := minv_frm hMI q8 (by decide)
        exact ⟨X1, rfl, hRX1, hFX1, hMq7, by omega, (by (try delta Hid at *); first | exact Or.inr (Or.inr (Or.inr (Or.inr (⟨(by omega), by omega, by omega, by omega⟩)))) | exact Or.inr (Or.inl ⟨(by omega), by omega, by omega⟩) | exact Or.inr (Or.inr (Or.inr (Or.inl ⟨(by omega), by omega, by omega, by omega⟩))))⟩
      · refine lv_aload_n hx hb dX9_saved_33 rfl (lv_at hl 0 rfl) ?_
        refine x_geto hx hb hf9 hw (by first | exact Int.le_refl 0 | omega) (by first | exact zlt hc40 | omega) sl_40_29 lk81 dX9_saved_34 ?_
        refine lv_iload_n hx hb dX9_saved_37 rfl (lv_at hl 1 rfl) ?_
        refine x_iald hx hb hK.1 hw (by first | exact Int.le_refl 0 | omega) (by first | exact zlt hc70 | omega) ar_70 (len_E ar_70 (by first | exact Nat.ne_of_beq_eq_false rfl | decide)) (by omega) (by omega) (by omega) dX9_saved_38 ?_
        have e9 : ∀ p9 q9 : Int, X1 70 p9 q9 = X 70 p9 q9 := fun p9 q9 => by rw [hX1, u3_k _ _ _ _ (by first | exact Nat.ne_of_beq_eq_false rfl | decide)]
        rw [e9 0 sv]
        have f10 : 0 ≤ X 70 0 sv ∧ X 70 0 sv ≤ 30 := hR 70 0 sv
        refine x_if_ne (tgt := 46) hx hb (by omega) dX9_saved_39 (by decide) (fun c11 => ?_) (fun c11 => ?_)
        · refine lv_aload_n hx hb dX9_saved_46 rfl (lv_at hl 0 rfl) ?_
          refine x_geto hx hb hf9 hw (by first | exact Int.le_refl 0 | omega) (by first | exact zlt hc40 | omega) sl_40_35 lk99 dX9_saved_47 ?_
          refine lv_iload_n hx hb dX9_saved_50 rfl (lv_at hl 1 rfl) ?_
          refine x_iald hx hb hK.1 hw (by first | exact Int.le_refl 0 | omega) (by first | exact zlt hc76 | omega) ar_76 (len_E ar_76 (by first | exact Nat.ne_of_beq_eq_false rfl | decide)) (by omega) (by omega) (by omega) dX9_saved_51 ?_
          have e12 : ∀ p9 q9 : Int, X1 76 p9 q9 = X 76 p9 q9 := fun p9 q9 => by rw [hX1, u3_k _ _ _ _ (by first | exact Nat.ne_of_beq_eq_false rfl | decide)]
          rw [e12 0 sv]
          have f13 : 0 ≤ X 76 0 sv ∧ X 76 0 sv ≤ 150 := hR 76 0 sv
          refine lv_goto (tgt := 57) hx hb dX9_saved_52 (by decide) ?_
          rw [hQ9]
          refine ret_i (mc := 0) (ms := 0) hx hb hr hlocks hw hS (by first | exact Nat.le_of_ble_eq_true rfl | omega) (by first | exact Nat.le_of_ble_eq_true rfl | omega) dX9_saved_57 ?_
          have q15 : Frm [4001] X X1 := by rw [hX1]; exact Frm.set Frm.rf (show 4001 ∈ [4001] by first | exact nlm_in rfl | decide)
          have hMq14 : MInv X1 := minv_frm hMI q15 (by decide)
          exact ⟨X1, rfl, hRX1, hFX1, hMq14, by omega, (by (try delta Hid at *); first | exact Or.inr (Or.inr (Or.inr (Or.inl ⟨(by omega), by omega, by omega, by omega⟩))) | exact Or.inr (Or.inl ⟨(by omega), by omega, by omega⟩) | exact Or.inl ⟨(fun q => by omega), by omega⟩ | exact Or.inr (Or.inr (Or.inl ⟨(by omega), by omega, by omega, by omega⟩)) | exact Or.inr (Or.inr (Or.inr (Or.inr (⟨(by omega), by omega, by omega, by omega⟩)))))⟩
        · refine lv_iconst (v := jI 0) hx hb dX9_saved_42 rfl ?_
          refine lv_goto (tgt := 57) hx hb dX9_saved_43 (by decide) ?_
          rw [hQ9]
          refine ret_i (mc := 0) (ms := 0) hx hb hr hlocks hw hS (by first | exact Nat.le_of_ble_eq_true rfl | omega) (by first | exact Nat.le_of_ble_eq_true rfl | omega) dX9_saved_57 ?_
          have q17 : Frm [4001] X X1 := by rw [hX1]; exact Frm.set Frm.rf (show 4001 ∈ [4001] by first | exact nlm_in rfl | decide)
          have hMq16 : MInv X1 := minv_frm hMI q17 (by decide)
          exact ⟨X1, rfl, hRX1, hFX1, hMq16, by omega, (by (try delta Hid at *); first | exact Or.inr (Or.inr (Or.inl ⟨(by omega), by omega, by omega, by omega⟩)) | exact Or.inr (Or.inl ⟨(by omega), by omega, by omega⟩) | exact Or.inr (Or.inr (Or.inr (Or.inl ⟨(by omega), by omega, by omega, by omega⟩))))⟩
    · refine lv_aload_n hx hb dX9_saved_19 rfl (lv_at hl 0 rfl) ?_
      refine x_geto hx hb hf9 hw (by first | exact Int.le_refl 0 | omega) (by first | exact zlt hc40 | omega) sl_40_29 lk81 dX9_saved_20 ?_
      refine lv_iload_n hx hb dX9_saved_23 rfl (lv_at hl 1 rfl) ?_
      refine x_iald hx hb hK.1 hw (by first | exact Int.le_refl 0 | omega) (by first | exact zlt hc70 | omega) ar_70 (len_E ar_70 (by first | exact Nat.ne_of_beq_eq_false rfl | decide)) (by omega) (by omega) (by omega) dX9_saved_24 ?_
      have e18 : ∀ p9 q9 : Int, X1 70 p9 q9 = X 70 p9 q9 := fun p9 q9 => by rw [hX1, u3_k _ _ _ _ (by first | exact Nat.ne_of_beq_eq_false rfl | decide)]
      rw [e18 0 sv]
      have f19 : 0 ≤ X 70 0 sv ∧ X 70 0 sv ≤ 30 := hR 70 0 sv
      refine lv_goto (tgt := 57) hx hb dX9_saved_25 (by decide) ?_
      rw [hQ9]
      refine ret_i (mc := 0) (ms := 0) hx hb hr hlocks hw hS (by first | exact Nat.le_of_ble_eq_true rfl | omega) (by first | exact Nat.le_of_ble_eq_true rfl | omega) dX9_saved_57 ?_
      have q21 : Frm [4001] X X1 := by rw [hX1]; exact Frm.set Frm.rf (show 4001 ∈ [4001] by first | exact nlm_in rfl | decide)
      have hMq20 : MInv X1 := minv_frm hMI q21 (by decide)
      exact ⟨X1, rfl, hRX1, hFX1, hMq20, by omega, (by (try delta Hid at *); first | exact Or.inr (Or.inl ⟨(by omega), by omega, by omega⟩) | exact Or.inr (Or.inr (Or.inr (Or.inl ⟨(by omega), by omega, by omega, by omega⟩))) | exact Or.inl ⟨(fun q => by omega), by omega⟩ | exact Or.inr (Or.inr (Or.inl ⟨(by omega), by omega, by omega, by omega⟩)) | exact Or.inr (Or.inr (Or.inr (Or.inr (⟨(by omega), by omega, by omega, by omega⟩)))))⟩
  · subst ez2
    refine x_if_neF (tgt := 15) hx hb (by omega) (by decide) dX9_saved_10 (by decide) ?_
    refine lv_iconst (v := jI (-1)) hx hb dX9_saved_13 rfl ?_
    rw [hQ9]
    refine ret_i (mc := 0) (ms := 0) hx hb hr hlocks hw hS (by first | exact Nat.le_of_ble_eq_true rfl | omega) (by first | exact Nat.le_of_ble_eq_true rfl | omega) dX9_saved_14 ?_
    have q23 : Frm [4001] X X1 := by rw [hX1]; exact Frm.set Frm.rf (show 4001 ∈ [4001] by first | exact nlm_in rfl | decide)
    have hMq22 : MInv X1 := minv_frm hMI q23 (by decide)
    exact ⟨X1, rfl, hRX1, hFX1, hMq22, by omega, (by (try delta Hid at *); first | exact Or.inl ⟨(fun q => by omega), by omega⟩ | exact Or.inr (Or.inl ⟨(by omega), by omega, by omega⟩) | exact Or.inr (Or.inr (Or.inr (Or.inl ⟨(by omega), by omega, by omega, by omega⟩))))⟩

set_option maxHeartbeats 4000000 in
set_option maxRecDepth 100000 in
theorem c_X9_rowsDiffer (l : Launch) (D : va_G) (tc : Nat → ClassId) (base : Nat) (ad : Nat → Int → Nat) (cnt : Nat → Int) (X : Nat → Int → Int → Int) (Y : Nat → Int → Int → Option Int) (ln : Int → Int) (hR : Rng X) (hFx : Fx cnt) (hMI : MInv X) (a b : Int) (ha0 : 0 ≤ a ∧ a ≤ 749) (hb0 : 0 ≤ b ∧ b ≤ 749) : KI l D tc base yX9_rowsDiffer wsX9_rowsDiffer ({ frames := 0, cells := 0, slots := 0, locals := 0 } : Room) [.ref (ad 40 0), .int (jI a), .int (jI b)] (ad, cnt, X, Y, ln) 0 0 (fun z u => u = (ad, cnt, X, Y, ln) ∧ (0 ≤ z ∧ z ≤ 1) ∧ ((z = 0 ∧ rdE X a b) ∨ (z = 1 ∧ ¬ rdE X a b))) := by
  refine K_of (cc := cX9_rowsDiffer) (maxL := 5) (ret := (some .boolean)) (by decide) rfl (Nat.le_of_ble_eq_true rfl) ?_
  intro p e s m below meth c ls hx hb hr hml hown hts hlocks hl hK hw hS
  have hown : s.vm.findClass RX9 = some m.cls := hown
  obtain ⟨av9, hav9⟩ : ∃ a9 : Array Value, a9 = ([.ref (ad 40 0), .int (jI a), .int (jI b)] : List Value).toArray := ⟨_, rfl⟩
  rw [← hav9] at hts ⊢
  obtain ⟨Q9, hQ9⟩ : ∃ q9Q : State → Prop, q9Q = MQ below (QI D tc base (fun z u => u = (ad, cnt, X, Y, ln) ∧ (0 ≤ z ∧ z ≤ 1) ∧ ((z = 0 ∧ rdE X a b) ∨ (z = 1 ∧ ¬ rdE X a b)))) av9 s 0 0 (frA base) := ⟨_, rfl⟩
  rw [← hQ9]
  have hi9 : ∀ w ∈ wsX90, w ∈ wsX9_rowsDiffer := fun w h => List.mem_cons_of_mem _ (List.mem_append_right _ h)
  have hf9 : fctx s m _ RX9 wsX9_rowsDiffer D tc RX9 TX9 51 9 := ⟨hts, hi9, hown, hK.1, rfl⟩
  have lk102 := hts (.fieldLink RX9 102 (TX9 36).1 (TX9 36).2.1 (TX9 36).2.2.1) (gj_X9_rowsDiffer_0 _ (gp_h))
  have lk105 := hts (.fieldLink RX9 105 (TX9 37).1 (TX9 37).2.1 (TX9 37).2.2.1) (gj_X9_rowsDiffer_0 _ (gp_1 gp_h))
  have lk108 := hts (.fieldLink RX9 108 (TX9 38).1 (TX9 38).2.1 (TX9 38).2.2.1) (gj_X9_rowsDiffer_0 _ (gp_1 (gp_1 gp_h)))
  have hc40 : cnt 40 = 1 := hFx.at 40 1 (by decide)
  have hc77 : cnt 77 = 1 := hFx.at 77 1 (by decide)
  have hc78 : cnt 78 = 1 := hFx.at 78 1 (by decide)
  have hc79 : cnt 79 = 1 := hFx.at 79 1 (by decide)
  have hl : lv_has ls 5 [(0, .ref (ad 40 0)), (1, .int (jI a)), (2, .int (jI b))] := hl
  have fstypes : 0 ≤ X 40 0 2 ∧ X 40 0 2 ≤ 8 := hR 40 0 2
  have fsthings : 0 ≤ X 40 0 13 ∧ X 40 0 13 ≤ 30 := hR 40 0 13
  have fsmarks : 0 ≤ X 40 0 20 ∧ X 40 0 20 ≤ 4 := hR 40 0 20
  have fsnotes : 0 ≤ X 40 0 22 ∧ X 40 0 22 ≤ 80 := hR 40 0 22
  refine lv_aload_n hx hb dX9_rowsDiffer_0 rfl (lv_at hl 0 rfl) ?_
  refine x_geto hx hb hf9 hw (by first | exact Int.le_refl 0 | omega) (by first | exact zlt hc40 | omega) sl_40_36 lk102 dX9_rowsDiffer_1 ?_
  refine lv_iload_n hx hb dX9_rowsDiffer_4 rfl (lv_at hl 1 rfl) ?_
  refine x_iald hx hb hK.1 hw (by first | exact Int.le_refl 0 | omega) (by first | exact zlt hc77 | omega) ar_77 (len_E ar_77 (by first | exact Nat.ne_of_beq_eq_false rfl | decide)) (by omega) (by omega) (by omega) dX9_rowsDiffer_5 ?_
  have f1 : 0 ≤ X 77 0 a ∧ X 77 0 a ≤ 5 := hR 77 0 a
  refine lv_aload_n hx hb dX9_rowsDiffer_6 rfl (lv_at hl 0 rfl) ?_
  refine x_geto hx hb hf9 hw (by first | exact Int.le_refl 0 | omega) (by first | exact zlt hc40 | omega) sl_40_36 lk102 dX9_rowsDiffer_7 ?_
  refine lv_iload_n hx hb dX9_rowsDiffer_10 rfl (lv_at hl 2 rfl) ?_
  refine x_iald hx hb hK.1 hw (by first | exact Int.le_refl 0 | omega) (by first | exact zlt hc77 | omega) ar_77 (len_E ar_77 (by first | exact Nat.ne_of_beq_eq_false rfl | decide)) (by omega) (by omega) (by omega) dX9_rowsDiffer_11 ?_
  have f2 : 0 ≤ X 77 0 b ∧ X 77 0 b ≤ 5 := hR 77 0 b
  refine x_icmp_ne (tgt := 34) hx hb (by omega) (by omega) dX9_rowsDiffer_12 (by decide) (fun c3 => ?_) (fun c3 => ?_)
  · refine lv_iconst (v := jI 0) hx hb dX9_rowsDiffer_34 rfl ?_
    refine lv_istore_n (lv' := [(3, .int (jI 0)), (0, .ref (ad 40 0)), (1, .int (jI a)), (2, .int (jI b))]) hx hb dX9_rowsDiffer_35 rfl hl (by decide) rfl (fun ls hl => ?_)
    refine lv_iconst (v := jI 0) hx hb dX9_rowsDiffer_36 rfl ?_
    refine lv_istore (lv' := [(4, .int (jI 0)), (3, .int (jI 0)), (0, .ref (ad 40 0)), (1, .int (jI a)), (2, .int (jI b))]) hx hb dX9_rowsDiffer_37 hl (by decide) rfl (fun ls hl => ?_)
    have lp39 : ∀ (nn : Nat) (sm : Int) (k : Int) (H : Heap) (locs : List Loc) (ls : Array Slot), (12 - k) < (nn : Int) → (0 ≤ sm ∧ sm ≤ 1) → (0 ≤ k ∧ k ≤ 12) → (sm = 1 → X 77 0 a = X 77 0 b ∧ X 78 0 a = X 78 0 b ∧ ∀ j, 0 ≤ j → j < k → X 79 0 (12 * a + j) = X 79 0 (12 * b + j)) → (sm = 0 → ¬ rdE X a b) → wd D tc base (ad, cnt, X, Y, ln) H → va_S (frA base) s.heap H locs → lv_has ls 5 [(0, .ref (ad 40 0)), (1, .int (jI a)), (2, .int (jI b)), (3, .int (jI sm)), (4, .int (jI k))] → W p l e ({ frames := 0, cells := 0, slots := 0, locals := 0 } : Room) s m av9 below meth c H locs 0 0 Q9 (F0 m 39 ls []) := by
      intro nn
      induction nn with
      | zero => intro sm k H locs ls hm hsm hk hsm1 hsm0 hw hS hl; exfalso; omega
      | succ nn ih39 =>
        intro sm k H locs ls hm hsm hk hsm1 hsm0 hw hS hl
        refine lv_iload_n hx hb dX9_rowsDiffer_39 rfl (lv_at hl 3 rfl) ?_
        refine x_if_eq (tgt := 94) hx hb (by omega) dX9_rowsDiffer_40 (by decide) (fun c4 => ?_) (fun c4 => ?_)
        · refine lv_iload_n hx hb dX9_rowsDiffer_94 rfl (lv_at hl 3 rfl) ?_
          refine x_if_ne (tgt := 102) hx hb (by omega) dX9_rowsDiffer_95 (by decide) (fun c5 => ?_) (fun c5 => ?_)
          · refine lv_iconst (v := jI 0) hx hb dX9_rowsDiffer_102 rfl ?_
            rw [hQ9]
            refine ret_z (mc := 0) (ms := 0) hx hb hr hlocks hw hS (by first | exact Nat.le_of_ble_eq_true rfl | omega) (by first | exact Nat.le_of_ble_eq_true rfl | omega) dX9_rowsDiffer_103 (by omega) ?_
            exact ⟨rfl, by omega, Or.inl ⟨by omega, (by obtain ⟨q1, q2, q3⟩ := hsm1 (by omega); exact ⟨q1, q2, fun j a b => q3 j a (by omega)⟩)⟩⟩
          · refine lv_iconst (v := jI 1) hx hb dX9_rowsDiffer_98 rfl ?_
            refine lv_goto (tgt := 103) hx hb dX9_rowsDiffer_99 (by decide) ?_
            rw [hQ9]
            refine ret_z (mc := 0) (ms := 0) hx hb hr hlocks hw hS (by first | exact Nat.le_of_ble_eq_true rfl | omega) (by first | exact Nat.le_of_ble_eq_true rfl | omega) dX9_rowsDiffer_103 (by omega) ?_
            exact ⟨rfl, by omega, Or.inr ⟨by omega, hsm0 (by omega)⟩⟩
        · refine lv_iload hx hb dX9_rowsDiffer_43 (lv_at hl 4 rfl) ?_
          refine lv_aload_n hx hb dX9_rowsDiffer_45 rfl (lv_at hl 0 rfl) ?_
          refine x_geto hx hb hf9 hw (by first | exact Int.le_refl 0 | omega) (by first | exact zlt hc40 | omega) sl_40_37 lk105 dX9_rowsDiffer_46 ?_
          refine lv_iload_n hx hb dX9_rowsDiffer_49 rfl (lv_at hl 1 rfl) ?_
          refine x_iald hx hb hK.1 hw (by first | exact Int.le_refl 0 | omega) (by first | exact zlt hc78 | omega) ar_78 (len_E ar_78 (by first | exact Nat.ne_of_beq_eq_false rfl | decide)) (by omega) (by omega) (by omega) dX9_rowsDiffer_50 ?_
          have f6 : 0 ≤ X 78 0 a ∧ X 78 0 a ≤ 12 := hR 78 0 a
          refine x_icmp_ge (tgt := 94) hx hb (by omega) (by omega) dX9_rowsDiffer_51 (by decide) (fun c7 => ?_) (fun c7 => ?_)
          · refine lv_iload_n hx hb dX9_rowsDiffer_94 rfl (lv_at hl 3 rfl) ?_
            refine x_if_ne (tgt := 102) hx hb (by omega) dX9_rowsDiffer_95 (by decide) (fun c8 => ?_) (fun c8 => ?_)
            · refine lv_iconst (v := jI 0) hx hb dX9_rowsDiffer_102 rfl ?_
              rw [hQ9]
              refine ret_z (mc := 0) (ms := 0) hx hb hr hlocks hw hS (by first | exact Nat.le_of_ble_eq_true rfl | omega) (by first | exact Nat.le_of_ble_eq_true rfl | omega) dX9_rowsDiffer_103 (by omega) ?_
              exact ⟨rfl, by omega, Or.inl ⟨by omega, (by obtain ⟨q1, q2, q3⟩ := hsm1 (by omega); exact ⟨q1, q2, fun j a b => q3 j a (by omega)⟩)⟩⟩
            · refine lv_iconst (v := jI 1) hx hb dX9_rowsDiffer_98 rfl ?_
              refine lv_goto (tgt := 103) hx hb dX9_rowsDiffer_99 (by decide) ?_
              rw [hQ9]
              refine ret_z (mc := 0) (ms := 0) hx hb hr hlocks hw hS (by first | exact Nat.le_of_ble_eq_true rfl | omega) (by first | exact Nat.le_of_ble_eq_true rfl | omega) dX9_rowsDiffer_103 (by omega) ?_
              exact ⟨rfl, by omega, Or.inr ⟨by omega, hsm0 (by omega)⟩⟩
          · refine lv_aload_n hx hb dX9_rowsDiffer_54 rfl (lv_at hl 0 rfl) ?_
            refine x_geto hx hb hf9 hw (by first | exact Int.le_refl 0 | omega) (by first | exact zlt hc40 | omega) sl_40_38 lk108 dX9_rowsDiffer_55 ?_
            refine lv_bipush (v := jI 12) hx hb dX9_rowsDiffer_58 (by decide) ?_
            refine lv_iload_n hx hb dX9_rowsDiffer_60 rfl (lv_at hl 1 rfl) ?_
            refine x_imul hx hb dX9_rowsDiffer_61 ?_
            refine lv_iload hx hb dX9_rowsDiffer_62 (lv_at hl 4 rfl) ?_
            refine x_iadd hx hb dX9_rowsDiffer_64 ?_
            refine x_lald hx hb hK.1 hw (by first | exact Int.le_refl 0 | omega) (by first | exact zlt hc79 | omega) ar_79 (len_E ar_79 (by first | exact Nat.ne_of_beq_eq_false rfl | decide)) (by omega) (by omega) (by omega) dX9_rowsDiffer_65 ?_
            have f9 : (-9223372036854775808) ≤ X 79 0 ((12 * a) + k) ∧ X 79 0 ((12 * a) + k) ≤ 9223372036854775807 := hR 79 0 ((12 * a) + k)
            refine lv_aload_n hx hb dX9_rowsDiffer_66 rfl (lv_at hl 0 rfl) ?_
            refine x_geto hx hb hf9 hw (by first | exact Int.le_refl 0 | omega) (by first | exact zlt hc40 | omega) sl_40_38 lk108 dX9_rowsDiffer_67 ?_
            refine lv_bipush (v := jI 12) hx hb dX9_rowsDiffer_70 (by decide) ?_
            refine lv_iload_n hx hb dX9_rowsDiffer_72 rfl (lv_at hl 2 rfl) ?_
            refine x_imul hx hb dX9_rowsDiffer_73 ?_
            refine lv_iload hx hb dX9_rowsDiffer_74 (lv_at hl 4 rfl) ?_
            refine x_iadd hx hb dX9_rowsDiffer_76 ?_
            refine x_lald hx hb hK.1 hw (by first | exact Int.le_refl 0 | omega) (by first | exact zlt hc79 | omega) ar_79 (len_E ar_79 (by first | exact Nat.ne_of_beq_eq_false rfl | decide)) (by omega) (by omega) (by omega) dX9_rowsDiffer_77 ?_
            have f10 : (-9223372036854775808) ≤ X 79 0 ((12 * b) + k) ∧ X 79 0 ((12 * b) + k) ≤ 9223372036854775807 := hR 79 0 ((12 * b) + k)
            refine x_lcmp hx hb (by omega) (by omega) dX9_rowsDiffer_78 ?_
            obtain ⟨z11, ez11⟩ : ∃ y : Int, y = cmpZ (X 79 0 ((12 * a) + k)) (X 79 0 ((12 * b) + k)) := ⟨_, rfl⟩
            rw [← ez11]
            have gz11 : (z11 < 0 ↔ ((X 79 0 ((12 * a) + k)) : Int) < (X 79 0 ((12 * b) + k))) ∧ (z11 = 0 ↔ ((X 79 0 ((12 * a) + k)) : Int) = (X 79 0 ((12 * b) + k))) ∧ -1 ≤ z11 ∧ z11 ≤ 1 := by rw [ez11]; exact ⟨cmpZ_lt, cmpZ_eq, (cmpZ_r _ _).1, (cmpZ_r _ _).2⟩
            clear ez11
            refine x_if_ne (tgt := 86) hx hb (by omega) dX9_rowsDiffer_79 (by decide) (fun c12 => ?_) (fun c12 => ?_)
            · replace c12 := cz_neT gz11 c12
              clear gz11
              refine lv_iconst (v := jI 0) hx hb dX9_rowsDiffer_86 rfl ?_
              refine lv_istore_n (lv' := [(3, .int (jI 0)), (0, .ref (ad 40 0)), (1, .int (jI a)), (2, .int (jI b)), (4, .int (jI k))]) hx hb dX9_rowsDiffer_87 rfl hl (by decide) rfl (fun ls hl => ?_)
              refine lv_iinc (v := jI (k + 1)) (lv' := [(4, .int (jI (k + 1))), (3, .int (jI 0)), (0, .ref (ad 40 0)), (1, .int (jI a)), (2, .int (jI b))]) hx hb dX9_rowsDiffer_88 hl (k := 4) rfl (jI_add _ _) (by decide) rfl (fun ls hl => ?_)
              refine lv_goto (tgt := 39) hx hb dX9_rowsDiffer_91 (by decide) ?_
              exact ih39 0 (k + 1) _ _ _ (by omega) (by omega) (by omega) (fun q => (by obtain ⟨q1, q2, q3⟩ := hsm1 (by omega); exact ⟨q1, q2, fun j a b => if hj : j = k then (by rw [hj]; omega) else q3 j a (by omega)⟩)) (fun q e => (by have h9 := e.2.2 k (by omega) (by omega); omega)) hw hS (lv_sub hl [2, 3, 4, 1, 0] rfl)
            · replace c12 := cz_neF gz11 c12
              clear gz11
              refine lv_iconst (v := jI 1) hx hb dX9_rowsDiffer_82 rfl ?_
              refine lv_goto (tgt := 87) hx hb dX9_rowsDiffer_83 (by decide) ?_
              refine lv_istore_n (lv' := [(3, .int (jI 1)), (0, .ref (ad 40 0)), (1, .int (jI a)), (2, .int (jI b)), (4, .int (jI k))]) hx hb dX9_rowsDiffer_87 rfl hl (by decide) rfl (fun ls hl => ?_)
              refine lv_iinc (v := jI (k + 1)) (lv' := [(4, .int (jI (k + 1))), (3, .int (jI 1)), (0, .ref (ad 40 0)), (1, .int (jI a)), (2, .int (jI b))]) hx hb dX9_rowsDiffer_88 hl (k := 4) rfl (jI_add _ _) (by decide) rfl (fun ls hl => ?_)
              refine lv_goto (tgt := 39) hx hb dX9_rowsDiffer_91 (by decide) ?_
              exact ih39 1 (k + 1) _ _ _ (by omega) (by omega) (by omega) (fun q => (by obtain ⟨q1, q2, q3⟩ := hsm1 (by omega); exact ⟨q1, q2, fun j a b => if hj : j = k then (by rw [hj]; omega) else q3 j a (by omega)⟩)) (fun q e => (by have h9 := e.2.2 k (by omega) (by omega); omega)) hw hS (lv_sub hl [2, 3, 4, 1, 0] rfl)
    exact lp39 (12 - 0 : Int).toNat.succ 0 0 _ _ _ (by omega) (by omega) (by omega) (fun q => ⟨by omega, by omega, fun j a b => by omega⟩) (fun q e => by obtain ⟨q1, q2, -⟩ := e; omega) hw hS (lv_sub hl [2, 3, 4, 1, 0] rfl)
  · refine lv_aload_n hx hb dX9_rowsDiffer_15 rfl (lv_at hl 0 rfl) ?_
    refine x_geto hx hb hf9 hw (by first | exact Int.le_refl 0 | omega) (by first | exact zlt hc40 | omega) sl_40_37 lk105 dX9_rowsDiffer_16 ?_
    refine lv_iload_n hx hb dX9_rowsDiffer_19 rfl (lv_at hl 1 rfl) ?_
    refine x_iald hx hb hK.1 hw (by first | exact Int.le_refl 0 | omega) (by first | exact zlt hc78 | omega) ar_78 (len_E ar_78 (by first | exact Nat.ne_of_beq_eq_false rfl | decide)) (by omega) (by omega) (by omega) dX9_rowsDiffer_20 ?_
    have f13 : 0 ≤ X 78 0 a ∧ X 78 0 a ≤ 12 := hR 78 0 a
    refine lv_aload_n hx hb dX9_rowsDiffer_21 rfl (lv_at hl 0 rfl) ?_
    refine x_geto hx hb hf9 hw (by first | exact Int.le_refl 0 | omega) (by first | exact zlt hc40 | omega) sl_40_37 lk105 dX9_rowsDiffer_22 ?_
    refine lv_iload_n hx hb dX9_rowsDiffer_25 rfl (lv_at hl 2 rfl) ?_
    refine x_iald hx hb hK.1 hw (by first | exact Int.le_refl 0 | omega) (by first | exact zlt hc78 | omega) ar_78 (len_E ar_78 (by first | exact Nat.ne_of_beq_eq_false rfl | decide)) (by omega) (by omega) (by omega) dX9_rowsDiffer_26 ?_
    have f14 : 0 ≤ X 78 0 b ∧ X 78 0 b ≤ 12 := hR 78 0 b
    refine x_icmp_ne (tgt := 34) hx hb (by omega) (by omega) dX9_rowsDiffer_27 (by decide) (fun c15 => ?_) (fun c15 => ?_)
    · refine lv_iconst (v := jI 0) hx hb dX9_rowsDiffer_34 rfl ?_
      refine lv_istore_n (lv' := [(3, .int (jI 0)), (0, .ref (ad 40 0)), (1, .int (jI a)), (2, .int (jI b))]) hx hb dX9_rowsDiffer_35 rfl hl (by decide) rfl (fun ls hl => ?_)
      refine lv_iconst (v := jI 0) hx hb dX9_rowsDiffer_36 rfl ?_
      refine lv_istore (lv' := [(4, .int (jI 0)), (3, .int (jI 0)), (0, .ref (ad 40 0)), (1, .int (jI a)), (2, .int (jI b))]) hx hb dX9_rowsDiffer_37 hl (by decide) rfl (fun ls hl => ?_)
      have lp39 : ∀ (nn : Nat) (sm : Int) (k : Int) (H : Heap) (locs : List Loc) (ls : Array Slot), (12 - k) < (nn : Int) → (0 ≤ sm ∧ sm ≤ 1) → (0 ≤ k ∧ k ≤ 12) → (sm = 1 → X 77 0 a = X 77 0 b ∧ X 78 0 a = X 78 0 b ∧ ∀ j, 0 ≤ j → j < k → X 79 0 (12 * a + j) = X 79 0 (12 * b + j)) → (sm = 0 → ¬ rdE X a b) → wd D tc base (ad, cnt, X, Y, ln) H → va_S (frA base) s.heap H locs → lv_has ls 5 [(0, .ref (ad 40 0)), (1, .int (jI a)), (2, .int (jI b)), (3, .int (jI sm)), (4, .int (jI k))] → W p l e ({ frames := 0, cells := 0, slots := 0, locals := 0 } : Room) s m av9 below meth c H locs 0 0 Q9 (F0 m 39 ls []) := by
        intro nn
        induction nn with
        | zero => intro sm k H locs ls hm hsm hk hsm1 hsm0 hw hS hl; exfalso; omega
        | succ nn ih39 =>
          intro sm k H locs ls hm hsm hk hsm1 hsm0 hw hS hl
          refine lv_iload_n hx hb dX9_rowsDiffer_39 rfl (lv_at hl 3 rfl) ?_
          refine x_if_eq (tgt := 94) hx hb (by omega) dX9_rowsDiffer_40 (by decide) (fun c16 => ?_) (fun c16 => ?_)
          · refine lv_iload_n hx hb dX9_rowsDiffer_94 rfl (lv_at hl 3 rfl) ?_
            refine x_if_ne (tgt := 102) hx hb (by omega) dX9_rowsDiffer_95 (by decide) (fun c17 => ?_) (fun c17 => ?_)
            · refine lv_iconst (v := jI 0) hx hb dX9_rowsDiffer_102 rfl ?_
              rw [hQ9]
              refine ret_z (mc := 0) (ms := 0) hx hb hr hlocks hw hS (by first | exact Nat.le_of_ble_eq_true rfl | omega) (by first | exact Nat.le_of_ble_eq_true rfl | omega) dX9_rowsDiffer_103 (by omega) ?_
              exact ⟨rfl, by omega, Or.inl ⟨by omega, (by obtain ⟨q1, q2, q3⟩ := hsm1 (by omega); exact ⟨q1, q2, fun j a b => q3 j a (by omega)⟩)⟩⟩
            · refine lv_iconst (v := jI 1) hx hb dX9_rowsDiffer_98 rfl ?_
              refine lv_goto (tgt := 103) hx hb dX9_rowsDiffer_99 (by decide) ?_
              rw [hQ9]
              refine ret_z (mc := 0) (ms := 0) hx hb hr hlocks hw hS (by first | exact Nat.le_of_ble_eq_true rfl | omega) (by first | exact Nat.le_of_ble_eq_true rfl | omega) dX9_rowsDiffer_103 (by omega) ?_
              exact ⟨rfl, by omega, Or.inr ⟨by omega, hsm0 (by omega)⟩⟩
          · refine lv_iload hx hb dX9_rowsDiffer_43 (lv_at hl 4 rfl) ?_
            refine lv_aload_n hx hb dX9_rowsDiffer_45 rfl (lv_at hl 0 rfl) ?_
            refine x_geto hx hb hf9 hw (by first | exact Int.le_refl 0 | omega) (by first | exact zlt hc40 | omega) sl_40_37 lk105 dX9_rowsDiffer_46 ?_
            refine lv_iload_n hx hb dX9_rowsDiffer_49 rfl (lv_at hl 1 rfl) ?_
            refine x_iald hx hb hK.1 hw (by first | exact Int.le_refl 0 | omega) (by first | exact zlt hc78 | omega) ar_78 (len_E ar_78 (by first | exact Nat.ne_of_beq_eq_false rfl | decide)) (by omega) (by omega) (by omega) dX9_rowsDiffer_50 ?_
            have f18 : 0 ≤ X 78 0 a ∧ X 78 0 a ≤ 12 := hR 78 0 a
            refine x_icmp_ge (tgt := 94) hx hb (by omega) (by omega) dX9_rowsDiffer_51 (by decide) (fun c19 => ?_) (fun c19 => ?_)
            · refine lv_iload_n hx hb dX9_rowsDiffer_94 rfl (lv_at hl 3 rfl) ?_
              refine x_if_ne (tgt := 102) hx hb (by omega) dX9_rowsDiffer_95 (by decide) (fun c20 => ?_) (fun c20 => ?_)
              · refine lv_iconst (v := jI 0) hx hb dX9_rowsDiffer_102 rfl ?_
                rw [hQ9]
                refine ret_z (mc := 0) (ms := 0) hx hb hr hlocks hw hS (by first | exact Nat.le_of_ble_eq_true rfl | omega) (by first | exact Nat.le_of_ble_eq_true rfl | omega) dX9_rowsDiffer_103 (by omega) ?_
                exact ⟨rfl, by omega, Or.inl ⟨by omega, (by obtain ⟨q1, q2, q3⟩ := hsm1 (by omega); exact ⟨q1, q2, fun j a b => q3 j a (by omega)⟩)⟩⟩
              · refine lv_iconst (v := jI 1) hx hb dX9_rowsDiffer_98 rfl ?_
                refine lv_goto (tgt := 103) hx hb dX9_rowsDiffer_99 (by decide) ?_
                rw [hQ9]
                refine ret_z (mc := 0) (ms := 0) hx hb hr hlocks hw hS (by first | exact Nat.le_of_ble_eq_true rfl | omega) (by first | exact Nat.le_of_ble_eq_true rfl | omega) dX9_rowsDiffer_103 (by omega) ?_
                exact ⟨rfl, by omega, Or.inr ⟨by omega, hsm0 (by omega)⟩⟩
            · refine lv_aload_n hx hb dX9_rowsDiffer_54 rfl (lv_at hl 0 rfl) ?_
              refine x_geto hx hb hf9 hw (by first | exact Int.le_refl 0 | omega) (by first | exact zlt hc40 | omega) sl_40_38 lk108 dX9_rowsDiffer_55 ?_
              refine lv_bipush (v := jI 12) hx hb dX9_rowsDiffer_58 (by decide) ?_
              refine lv_iload_n hx hb dX9_rowsDiffer_60 rfl (lv_at hl 1 rfl) ?_
              refine x_imul hx hb dX9_rowsDiffer_61 ?_
              refine lv_iload hx hb dX9_rowsDiffer_62 (lv_at hl 4 rfl) ?_
              refine x_iadd hx hb dX9_rowsDiffer_64 ?_
              refine x_lald hx hb hK.1 hw (by first | exact Int.le_refl 0 | omega) (by first | exact zlt hc79 | omega) ar_79 (len_E ar_79 (by first | exact Nat.ne_of_beq_eq_false rfl | decide)) (by omega) (by omega) (by omega) dX9_rowsDiffer_65 ?_
              have f21 : (-9223372036854775808) ≤ X 79 0 ((12 * a) + k) ∧ X 79 0 ((12 * a) + k) ≤ 9223372036854775807 := hR 79 0 ((12 * a) + k)
              refine lv_aload_n hx hb dX9_rowsDiffer_66 rfl (lv_at hl 0 rfl) ?_
              refine x_geto hx hb hf9 hw (by first | exact Int.le_refl 0 | omega) (by first | exact zlt hc40 | omega) sl_40_38 lk108 dX9_rowsDiffer_67 ?_
              refine lv_bipush (v := jI 12) hx hb dX9_rowsDiffer_70 (by decide) ?_
              refine lv_iload_n hx hb dX9_rowsDiffer_72 rfl (lv_at hl 2 rfl) ?_
              refine x_imul hx hb dX9_rowsDiffer_73 ?_
              refine lv_iload hx hb dX9_rowsDiffer_74 (lv_at hl 4 rfl) ?_
              refine x_iadd hx hb dX9_rowsDiffer_76 ?_
              refine x_lald hx hb hK.1 hw (by first | exact Int.le_refl 0 | omega) (by first | exact zlt hc79 | omega) ar_79 (len_E ar_79 (by first | exact Nat.ne_of_beq_eq_false rfl | decide)) (by omega) (by omega) (by omega) dX9_rowsDiffer_77 ?_
              have f22 : (-9223372036854775808) ≤ X 79 0 ((12 * b) + k) ∧ X 79 0 ((12 * b) + k) ≤ 9223372036854775807 := hR 79 0 ((12 * b) + k)
              refine x_lcmp hx hb (by omega) (by omega) dX9_rowsDiffer_78 ?_
              obtain ⟨z23, ez23⟩ : ∃ y : Int, y = cmpZ (X 79 0 ((12 * a) + k)) (X 79 0 ((12 * b) + k)) := ⟨_, rfl⟩
              rw [← ez23]
              have gz23 : (z23 < 0 ↔ ((X 79 0 ((12 * a) + k)) : Int) < (X 79 0 ((12 * b) + k))) ∧ (z23 = 0 ↔ ((X 79 0 ((12 * a) + k)) : Int) = (X 79 0 ((12 * b) + k))) ∧ -1 ≤ z23 ∧ z23 ≤ 1 := by rw [ez23]; exact ⟨cmpZ_lt, cmpZ_eq, (cmpZ_r _ _).1, (cmpZ_r _ _).2⟩
              clear ez23
              refine x_if_ne (tgt := 86) hx hb (by omega) dX9_rowsDiffer_79 (by decide) (fun c24 => ?_) (fun c24 => ?_)
              · replace c24 := cz_neT gz23 c24
                clear gz23
                refine lv_iconst (v := jI 0) hx hb dX9_rowsDiffer_86 rfl ?_
                refine lv_istore_n (lv' := [(3, .int (jI 0)), (0, .ref (ad 40 0)), (1, .int (jI a)), (2, .int (jI b)), (4, .int (jI k))]) hx hb dX9_rowsDiffer_87 rfl hl (by decide) rfl (fun ls hl => ?_)
                refine lv_iinc (v := jI (k + 1)) (lv' := [(4, .int (jI (k + 1))), (3, .int (jI 0)), (0, .ref (ad 40 0)), (1, .int (jI a)), (2, .int (jI b))]) hx hb dX9_rowsDiffer_88 hl (k := 4) rfl (jI_add _ _) (by decide) rfl (fun ls hl => ?_)
                refine lv_goto (tgt := 39) hx hb dX9_rowsDiffer_91 (by decide) ?_
                exact ih39 0 (k + 1) _ _ _ (by omega) (by omega) (by omega) (fun q => (by obtain ⟨q1, q2, q3⟩ := hsm1 (by omega); exact ⟨q1, q2, fun j a b => if hj : j = k then (by rw [hj]; omega) else q3 j a (by omega)⟩)) (fun q e => (by have h9 := e.2.2 k (by omega) (by omega); omega)) hw hS (lv_sub hl [2, 3, 4, 1, 0] rfl)
              · replace c24 := cz_neF gz23 c24
                clear gz23
                refine lv_iconst (v := jI 1) hx hb dX9_rowsDiffer_82 rfl ?_
                refine lv_goto (tgt := 87) hx hb dX9_rowsDiffer_83 (by decide) ?_
                refine lv_istore_n (lv' := [(3, .int (jI 1)), (0, .ref (ad 40 0)), (1, .int (jI a)), (2, .int (jI b)), (4, .int (jI k))]) hx hb dX9_rowsDiffer_87 rfl hl (by decide) rfl (fun ls hl => ?_)
                refine lv_iinc (v := jI (k + 1)) (lv' := [(4, .int (jI (k + 1))), (3, .int (jI 1)), (0, .ref (ad 40 0)), (1, .int (jI a)), (2, .int (jI b))]) hx hb dX9_rowsDiffer_88 hl (k := 4) rfl (jI_add _ _) (by decide) rfl (fun ls hl => ?_)
                refine lv_goto (tgt := 39) hx hb dX9_rowsDiffer_91 (by decide) ?_
                exact ih39 1 (k + 1) _ _ _ (by omega) (by omega) (by omega) (fun q => (by obtain ⟨q1, q2, q3⟩ := hsm1 (by omega); exact ⟨q1, q2, fun j a b => if hj : j = k then (by rw [hj]; omega) else q3 j a (by omega)⟩)) (fun q e => (by have h9 := e.2.2 k (by omega) (by omega); omega)) hw hS (lv_sub hl [2, 3, 4, 1, 0] rfl)
      exact lp39 (12 - 0 : Int).toNat.succ 0 0 _ _ _ (by omega) (by omega) (by omega) (fun q => ⟨by omega, by omega, fun j a b => by omega⟩) (fun q e => by obtain ⟨q1, q2, -⟩ := e; omega) hw hS (lv_sub hl [2, 3, 4, 1, 0] rfl)
    · refine lv_iconst (v := jI 1) hx hb dX9_rowsDiffer_30 rfl ?_
      refine lv_goto (tgt := 35) hx hb dX9_rowsDiffer_31 (by decide) ?_
      refine lv_istore_n (lv' := [(3, .int (jI 1)), (0, .ref (ad 40 0)), (1, .int (jI a)), (2, .int (jI b))]) hx hb dX9_rowsDiffer_35 rfl hl (by decide) rfl (fun ls hl => ?_)
      refine lv_iconst (v := jI 0) hx hb dX9_rowsDiffer_36 rfl ?_
      refine lv_istore (lv' := [(4, .int (jI 0)), (3, .int (jI 1)), (0, .ref (ad 40 0)), (1, .int (jI a)), (2, .int (jI b))]) hx hb dX9_rowsDiffer_37 hl (by decide) rfl (fun ls hl => ?_)
      have lp39 : ∀ (nn : Nat) (sm : Int) (k : Int) (H : Heap) (locs : List Loc) (ls : Array Slot), (12 - k) < (nn : Int) → (0 ≤ sm ∧ sm ≤ 1) → (0 ≤ k ∧ k ≤ 12) → (sm = 1 → X 77 0 a = X 77 0 b ∧ X 78 0 a = X 78 0 b ∧ ∀ j, 0 ≤ j → j < k → X 79 0 (12 * a + j) = X 79 0 (12 * b + j)) → (sm = 0 → ¬ rdE X a b) → wd D tc base (ad, cnt, X, Y, ln) H → va_S (frA base) s.heap H locs → lv_has ls 5 [(0, .ref (ad 40 0)), (1, .int (jI a)), (2, .int (jI b)), (3, .int (jI sm)), (4, .int (jI k))] → W p l e ({ frames := 0, cells := 0, slots := 0, locals := 0 } : Room) s m av9 below meth c H locs 0 0 Q9 (F0 m 39 ls []) := by
        intro nn
        induction nn with
        | zero => intro sm k H locs ls hm hsm hk hsm1 hsm0 hw hS hl; exfalso; omega
        | succ nn ih39 =>
          intro sm k H locs ls hm hsm hk hsm1 hsm0 hw hS hl
          refine lv_iload_n hx hb dX9_rowsDiffer_39 rfl (lv_at hl 3 rfl) ?_
          refine x_if_eq (tgt := 94) hx hb (by omega) dX9_rowsDiffer_40 (by decide) (fun c25 => ?_) (fun c25 => ?_)
          · refine lv_iload_n hx hb dX9_rowsDiffer_94 rfl (lv_at hl 3 rfl) ?_
            refine x_if_ne (tgt := 102) hx hb (by omega) dX9_rowsDiffer_95 (by decide) (fun c26 => ?_) (fun c26 => ?_)
            · refine lv_iconst (v := jI 0) hx hb dX9_rowsDiffer_102 rfl ?_
              rw [hQ9]
              refine ret_z (mc := 0) (ms := 0) hx hb hr hlocks hw hS (by first | exact Nat.le_of_ble_eq_true rfl | omega) (by first | exact Nat.le_of_ble_eq_true rfl | omega) dX9_rowsDiffer_103 (by omega) ?_
              exact ⟨rfl, by omega, Or.inl ⟨by omega, (by obtain ⟨q1, q2, q3⟩ := hsm1 (by omega); exact ⟨q1, q2, fun j a b => q3 j a (by omega)⟩)⟩⟩
            · refine lv_iconst (v := jI 1) hx hb dX9_rowsDiffer_98 rfl ?_
              refine lv_goto (tgt := 103) hx hb dX9_rowsDiffer_99 (by decide) ?_
              rw [hQ9]
              refine ret_z (mc := 0) (ms := 0) hx hb hr hlocks hw hS (by first | exact Nat.le_of_ble_eq_true rfl | omega) (by first | exact Nat.le_of_ble_eq_true rfl | omega) dX9_rowsDiffer_103 (by omega) ?_
              exact ⟨rfl, by omega, Or.inr ⟨by omega, hsm0 (by omega)⟩⟩
          · refine lv_iload hx hb dX9_rowsDiffer_43 (lv_at hl 4 rfl) ?_
            refine lv_aload_n hx hb dX9_rowsDiffer_45 rfl (lv_at hl 0 rfl) ?_
            refine x_geto hx hb hf9 hw (by first | exact Int.le_refl 0 | omega) (by first | exact zlt hc40 | omega) sl_40_37 lk105 dX9_rowsDiffer_46 ?_
            refine lv_iload_n hx hb dX9_rowsDiffer_49 rfl (lv_at hl 1 rfl) ?_
            refine x_iald hx hb hK.1 hw (by first | exact Int.le_refl 0 | omega) (by first | exact zlt hc78 | omega) ar_78 (len_E ar_78 (by first | exact Nat.ne_of_beq_eq_false rfl | decide)) (by omega) (by omega) (by omega) dX9_rowsDiffer_50 ?_
            have f27 : 0 ≤ X 78 0 a ∧ X 78 0 a ≤ 12 := hR 78 0 a
            refine x_icmp_ge (tgt := 94) hx hb (by omega) (by omega) dX9_rowsDiffer_51 (by decide) (fun c28 => ?_) (fun c28 => ?_)
            · refine lv_iload_n hx hb dX9_rowsDiffer_94 rfl (lv_at hl 3 rfl) ?_
              refine x_if_ne (tgt := 102) hx hb (by omega) dX9_rowsDiffer_95 (by decide) (fun c29 => ?_) (fun c29 => ?_)
              · refine lv_iconst (v := jI 0) hx hb dX9_rowsDiffer_102 rfl ?_
                rw [hQ9]
                refine ret_z (mc := 0) (ms := 0) hx hb hr hlocks hw hS (by first | exact Nat.le_of_ble_eq_true rfl | omega) (by first | exact Nat.le_of_ble_eq_true rfl | omega) dX9_rowsDiffer_103 (by omega) ?_
                exact ⟨rfl, by omega, Or.inl ⟨by omega, (by obtain ⟨q1, q2, q3⟩ := hsm1 (by omega); exact ⟨q1, q2, fun j a b => q3 j a (by omega)⟩)⟩⟩
              · refine lv_iconst (v := jI 1) hx hb dX9_rowsDiffer_98 rfl ?_
                refine lv_goto (tgt := 103) hx hb dX9_rowsDiffer_99 (by decide) ?_
                rw [hQ9]
                refine ret_z (mc := 0) (ms := 0) hx hb hr hlocks hw hS (by first | exact Nat.le_of_ble_eq_true rfl | omega) (by first | exact Nat.le_of_ble_eq_true rfl | omega) dX9_rowsDiffer_103 (by omega) ?_
                exact ⟨rfl, by omega, Or.inr ⟨by omega, hsm0 (by omega)⟩⟩
            · refine lv_aload_n hx hb dX9_rowsDiffer_54 rfl (lv_at hl 0 rfl) ?_
              refine x_geto hx hb hf9 hw (by first | exact Int.le_refl 0 | omega) (by first | exact zlt hc40 | omega) sl_40_38 lk108 dX9_rowsDiffer_55 ?_
              refine lv_bipush (v := jI 12) hx hb dX9_rowsDiffer_58 (by decide) ?_
              refine lv_iload_n hx hb dX9_rowsDiffer_60 rfl (lv_at hl 1 rfl) ?_
              refine x_imul hx hb dX9_rowsDiffer_61 ?_
              refine lv_iload hx hb dX9_rowsDiffer_62 (lv_at hl 4 rfl) ?_
              refine x_iadd hx hb dX9_rowsDiffer_64 ?_
              refine x_lald hx hb hK.1 hw (by first | exact Int.le_refl 0 | omega) (by first | exact zlt hc79 | omega) ar_79 (len_E ar_79 (by first | exact Nat.ne_of_beq_eq_false rfl | decide)) (by omega) (by omega) (by omega) dX9_rowsDiffer_65 ?_
              have f30 : (-9223372036854775808) ≤ X 79 0 ((12 * a) + k) ∧ X 79 0 ((12 * a) + k) ≤ 9223372036854775807 := hR 79 0 ((12 * a) + k)
              refine lv_aload_n hx hb dX9_rowsDiffer_66 rfl (lv_at hl 0 rfl) ?_
              refine x_geto hx hb hf9 hw (by first | exact Int.le_refl 0 | omega) (by first | exact zlt hc40 | omega) sl_40_38 lk108 dX9_rowsDiffer_67 ?_
              refine lv_bipush (v := jI 12) hx hb dX9_rowsDiffer_70 (by decide) ?_
              refine lv_iload_n hx hb dX9_rowsDiffer_72 rfl (lv_at hl 2 rfl) ?_
              refine x_imul hx hb dX9_rowsDiffer_73 ?_
              refine lv_iload hx hb dX9_rowsDiffer_74 (lv_at hl 4 rfl) ?_
              refine x_iadd hx hb dX9_rowsDiffer_76 ?_
              refine x_lald hx hb hK.1 hw (by first | exact Int.le_refl 0 | omega) (by first | exact zlt hc79 | omega) ar_79 (len_E ar_79 (by first | exact Nat.ne_of_beq_eq_false rfl | decide)) (by omega) (by omega) (by omega) dX9_rowsDiffer_77 ?_
              have f31 : (-9223372036854775808) ≤ X 79 0 ((12 * b) + k) ∧ X 79 0 ((12 * b) + k) ≤ 9223372036854775807 := hR 79 0 ((12 * b) + k)
              refine x_lcmp hx hb (by omega) (by omega) dX9_rowsDiffer_78 ?_
              obtain ⟨z32, ez32⟩ : ∃ y : Int, y = cmpZ (X 79 0 ((12 * a) + k)) (X 79 0 ((12 * b) + k)) := ⟨_, rfl⟩
              rw [← ez32]
              have gz32 : (z32 < 0 ↔ ((X 79 0 ((12 * a) + k)) : Int) < (X 79 0 ((12 * b) + k))) ∧ (z32 = 0 ↔ ((X 79 0 ((12 * a) + k)) : Int) = (X 79 0 ((12 * b) + k))) ∧ -1 ≤ z32 ∧ z32 ≤ 1 := by rw [ez32]; exact ⟨cmpZ_lt, cmpZ_eq, (cmpZ_r _ _).1, (cmpZ_r _ _).2⟩
              clear ez32
              refine x_if_ne (tgt := 86) hx hb (by omega) dX9_rowsDiffer_79 (by decide) (fun c33 => ?_) (fun c33 => ?_)
              · replace c33 := cz_neT gz32 c33
                clear gz32
                refine lv_iconst (v := jI 0) hx hb dX9_rowsDiffer_86 rfl ?_
                refine lv_istore_n (lv' := [(3, .int (jI 0)), (0, .ref (ad 40 0)), (1, .int (jI a)), (2, .int (jI b)), (4, .int (jI k))]) hx hb dX9_rowsDiffer_87 rfl hl (by decide) rfl (fun ls hl => ?_)
                refine lv_iinc (v := jI (k + 1)) (lv' := [(4, .int (jI (k + 1))), (3, .int (jI 0)), (0, .ref (ad 40 0)), (1, .int (jI a)), (2, .int (jI b))]) hx hb dX9_rowsDiffer_88 hl (k := 4) rfl (jI_add _ _) (by decide) rfl (fun ls hl => ?_)
                refine lv_goto (tgt := 39) hx hb dX9_rowsDiffer_91 (by decide) ?_
                exact ih39 0 (k + 1) _ _ _ (by omega) (by omega) (by omega) (fun q => (by obtain ⟨q1, q2, q3⟩ := hsm1 (by omega); exact ⟨q1, q2, fun j a b => if hj : j = k then (by rw [hj]; omega) else q3 j a (by omega)⟩)) (fun q e => (by have h9 := e.2.2 k (by omega) (by omega); omega)) hw hS (lv_sub hl [2, 3, 4, 1, 0] rfl)
              · replace c33 := cz_neF gz32 c33
                clear gz32
                refine lv_iconst (v := jI 1) hx hb dX9_rowsDiffer_82 rfl ?_
                refine lv_goto (tgt := 87) hx hb dX9_rowsDiffer_83 (by decide) ?_
                refine lv_istore_n (lv' := [(3, .int (jI 1)), (0, .ref (ad 40 0)), (1, .int (jI a)), (2, .int (jI b)), (4, .int (jI k))]) hx hb dX9_rowsDiffer_87 rfl hl (by decide) rfl (fun ls hl => ?_)
                refine lv_iinc (v := jI (k + 1)) (lv' := [(4, .int (jI (k + 1))), (3, .int (jI 1)), (0, .ref (ad 40 0)), (1, .int (jI a)), (2, .int (jI b))]) hx hb dX9_rowsDiffer_88 hl (k := 4) rfl (jI_add _ _) (by decide) rfl (fun ls hl => ?_)
                refine lv_goto (tgt := 39) hx hb dX9_rowsDiffer_91 (by decide) ?_
                exact ih39 1 (k + 1) _ _ _ (by omega) (by omega) (by omega) (fun q => (by obtain ⟨q1, q2, q3⟩ := hsm1 (by omega); exact ⟨q1, q2, fun j a b => if hj : j = k then (by rw [hj]; omega) else q3 j a (by omega)⟩)) (fun q e => (by have h9 := e.2.2 k (by omega) (by omega); omega)) hw hS (lv_sub hl [2, 3, 4, 1, 0] rfl)
      exact lp39 (12 - 0 : Int).toNat.succ 1 0 _ _ _ (by omega) (by omega) (by omega) (fun q => ⟨by omega, by omega, fun j a b => by omega⟩) (fun q e => by obtain ⟨q1, q2, -⟩ := e; omega) hw hS (lv_sub hl [2, 3, 4, 1, 0] rfl)

set_option maxHeartbeats 4000000 in
set_option maxRecDepth 100000 in
theorem c_X9_like (l : Launch) (D : va_G) (tc : Nat → ClassId) (base : Nat) (ad : Nat → Int → Nat) (cnt : Nat → Int) (X : Nat → Int → Int → Int) (Y : Nat → Int → Int → Option Int) (ln : Int → Int) (hR : Rng X) (hFx : Fx cnt) (hMI : MInv X) (x y : Int) (hx : -2147483648 ≤ x ∧ x ≤ 2147483647) (hy : -2147483648 ≤ y ∧ y ≤ 2147483647) : KI l D tc base yX9_like wsX9_like ({ frames := 1, cells := 0, slots := 0, locals := 24 } : Room) [.ref (ad 40 0), .int (jI x), .int (jI y)] (ad, cnt, X, Y, ln) 0 0 (fun z u => ∃ X1 : Nat → Int → Int → Int, u = (ad, cnt, X1, Y, ln) ∧ Rng X1 ∧ Frm [4001, 8600, 8700, 9000, 4051, 8800, 8900] X X1 ∧ MInv X1 ∧ (-2147483648 ≤ z ∧ z ≤ 2147483647)) := by
  refine K_of (cc := cX9_like) (maxL := 12) (ret := (some .int)) (by decide) rfl (Nat.le_of_ble_eq_true rfl) ?_
  intro p e s m below meth c ls hx hb hr hml hown hts hlocks hl hK hw hS
  have hown : s.vm.findClass RX9 = some m.cls := hown
  obtain ⟨av9, hav9⟩ : ∃ a9 : Array Value, a9 = ([.ref (ad 40 0), .int (jI x), .int (jI y)] : List Value).toArray := ⟨_, rfl⟩
  rw [← hav9] at hts ⊢
  obtain ⟨Q9, hQ9⟩ : ∃ q9Q : State → Prop, q9Q = MQ below (QI D tc base (fun z u => ∃ X1 : Nat → Int → Int → Int, u = (ad, cnt, X1, Y, ln) ∧ Rng X1 ∧ Frm [4001, 8600, 8700, 9000, 4051, 8800, 8900] X X1 ∧ MInv X1 ∧ (-2147483648 ≤ z ∧ z ≤ 2147483647))) av9 s 0 0 (frA base) := ⟨_, rfl⟩
  rw [← hQ9]
  have hi9 : ∀ w ∈ wsX90, w ∈ wsX9_like := fun w h => List.mem_cons_of_mem _ (List.mem_append_right _ h)
  have hf9 : fctx s m _ RX9 wsX9_like D tc RX9 TX9 51 9 := ⟨hts, hi9, hown, hK.1, rfl⟩
  have lk13 := hts (.fieldLink RX9 13 (TX9 3).1 (TX9 3).2.1 (TX9 3).2.2.1) (gj_X9_like_0 _ (gp_4 (gp_4 gp_h)))
  have lk45 := hts (.fieldLink RX9 45 (TX9 14).1 (TX9 14).2.1 (TX9 14).2.2.1) (gj_X9_like_0 _ (gp_4 (gp_1 (gp_1 (gp_1 gp_h)))))
  have lk48 := hts (.fieldLink RX9 48 (TX9 15).1 (TX9 15).2.1 (TX9 15).2.2.1) (gj_X9_like_0 _ (gp_4 (gp_4 (gp_1 gp_h))))
  have lk130 := hts (.fieldLink RX9 130 (TX9 45).1 (TX9 45).2.1 (TX9 45).2.2.1) (gj_X9_like_0 _ (gp_1 gp_h))
  have lk133 := hts (.fieldLink RX9 133 (TX9 46).1 (TX9 46).2.1 (TX9 46).2.2.1) (gj_X9_like_0 _ (gp_1 (gp_1 gp_h)))
  have lk136 := hts (.fieldLink RX9 136 (TX9 47).1 (TX9 47).2.1 (TX9 47).2.2.1) (gj_X9_like_0 _ (gp_1 (gp_1 (gp_1 gp_h))))
  have lk139 := hts (.fieldLink RX9 139 (TX9 48).1 (TX9 48).2.1 (TX9 48).2.2.1) (gj_X9_like_0 _ (gp_4 gp_h))
  have lk142 := hts (.fieldLink RX9 142 (TX9 49).1 (TX9 49).2.1 (TX9 49).2.2.1) (gj_X9_like_0 _ (gp_4 (gp_1 (gp_1 gp_h))))
  have lk145 := hts (.fieldLink RX9 145 (TX9 0).1 (TX9 0).2.1 (TX9 0).2.2.1) (gj_X9_like_0 _ (gp_h))
  have lk240 := hts (.fieldLink RX9 240 (TX9 50).1 (TX9 50).2.1 (TX9 50).2.2.1) (gj_X9_like_0 _ (gp_4 (gp_1 gp_h)))
  have hc40 : cnt 40 = 1 := hFx.at 40 1 (by decide)
  have hc44 : cnt 44 = 1 := hFx.at 44 1 (by decide)
  have hc55 : cnt 55 = 1 := hFx.at 55 1 (by decide)
  have hc56 : cnt 56 = 1 := hFx.at 56 1 (by decide)
  have hc86 : cnt 86 = 1 := hFx.at 86 1 (by decide)
  have hc87 : cnt 87 = 1 := hFx.at 87 1 (by decide)
  have hc88 : cnt 88 = 1 := hFx.at 88 1 (by decide)
  have hc89 : cnt 89 = 1 := hFx.at 89 1 (by decide)
  have hc90 : cnt 90 = 1 := hFx.at 90 1 (by decide)
  have hl : lv_has ls 12 [(0, .ref (ad 40 0)), (1, .int (jI x)), (2, .int (jI y))] := hl
  have fstypes : 0 ≤ X 40 0 2 ∧ X 40 0 2 ≤ 8 := hR 40 0 2
  have fsthings : 0 ≤ X 40 0 13 ∧ X 40 0 13 ≤ 30 := hR 40 0 13
  have fsmarks : 0 ≤ X 40 0 20 ∧ X 40 0 20 ≤ 4 := hR 40 0 20
  have fsnotes : 0 ≤ X 40 0 22 ∧ X 40 0 22 ≤ 80 := hR 40 0 22
  refine lv_aload_n hx hb dX9_like_0 rfl (lv_at hl 0 rfl) ?_
  refine lv_iconst (v := jI 0) hx hb dX9_like_1 rfl ?_
  refine x_puti (jz := 0) hx hb hf9 ⟨tyX9_ok, nmX9⟩ hw hS (by first | exact Int.le_refl 0 | omega) (by first | exact zlt hc40 | omega) sl_40_0 rfl lk145 rfl (tyX9_ok 0 (by decide)) rfl rfl dX9_like_2 (fun H locs hw hS => ?_)
  obtain ⟨X1, hX1⟩ : ∃ Xq, Xq = u3 X 40 0 0 0 := ⟨_, rfl⟩
  rw [← hX1] at hw
  have hRX1 : Rng X1 := by rw [hX1]; exact rng_set hR (show (-2147483648) ≤ 0 ∧ 0 ≤ 2147483647 by omega)
  have hVX1 : X1 40 0 0 = 0 := by rw [hX1]; exact u3_s _ _ _ _ _
  have hFX1 : Frm [4001, 8600, 8700, 9000, 4051, 8800, 8900] X X1 := by rw [hX1]; exact Frm.set Frm.rf (show 4001 ∈ [4001, 8600, 8700, 9000, 4051, 8800, 8900] by first | exact nlm_in rfl | decide)
  refine lv_aload_n hx hb dX9_like_5 rfl (lv_at hl 0 rfl) ?_
  refine lv_iload_n hx hb dX9_like_6 rfl (lv_at hl 1 rfl) ?_
  refine gos_i (run_V (As := [.int (jI x)]) (rest := []) hx hb hml hown hts (c_X9_isThing l D tc base ad cnt X1 Y ln hRX1 hFx x (by omega)) (cwV 1 hts gX9_like_X9_isThing rfl rfl rfl (by first | exact hd_X9_isThing | decide +kernel) ⟨Nat.le_of_ble_eq_true rfl, Nat.le_of_ble_eq_true rfl⟩) hK hw (by first | exact Int.le_refl 0 | omega) (by first | exact zlt hc40 | omega) sl_40_0 rfl rfl hl.1 rfl (Nat.le_of_ble_eq_true rfl) dX9_like_7 ⟨Nat.le_of_ble_eq_true rfl, Nat.le_of_ble_eq_true rfl⟩) hS (fun z2 u3 H locs p4 hw hS => ?_)
  obtain ⟨eu3, p4⟩ := p4
  subst eu3
  have e5 : X1 40 0 13 = X 40 0 13 := by rw [hX1, u3_j _ _ _ _ (by decide)]
  simp only [e5] at p4
  rcases p4 with ⟨ez2, p4⟩ | ⟨ez2, p4⟩
  · subst ez2
    refine x_if_eqF (tgt := 21) hx hb (by omega) (by decide) dX9_like_10 (by decide) ?_
    refine lv_aload_n hx hb dX9_like_13 rfl (lv_at hl 0 rfl) ?_
    refine lv_iload_n hx hb dX9_like_14 rfl (lv_at hl 2 rfl) ?_
    refine gos_i (run_V (As := [.int (jI y)]) (rest := []) hx hb hml hown hts (c_X9_isThing l D tc base ad cnt X1 Y ln hRX1 hFx y (by omega)) (cwV 1 hts gX9_like_X9_isThing rfl rfl rfl (by first | exact hd_X9_isThing | decide +kernel) ⟨Nat.le_of_ble_eq_true rfl, Nat.le_of_ble_eq_true rfl⟩) hK hw (by first | exact Int.le_refl 0 | omega) (by first | exact zlt hc40 | omega) sl_40_0 rfl rfl hl.1 rfl (Nat.le_of_ble_eq_true rfl) dX9_like_15 ⟨Nat.le_of_ble_eq_true rfl, Nat.le_of_ble_eq_true rfl⟩) hS (fun z6 u7 H locs p8 hw hS => ?_)
    obtain ⟨eu7, p8⟩ := p8
    subst eu7
    have e9 : X1 40 0 13 = X 40 0 13 := by rw [hX1, u3_j _ _ _ _ (by decide)]
    simp only [e9] at p8
    rcases p8 with ⟨ez6, p8⟩ | ⟨ez6, p8⟩
    · subst ez6
      refine x_if_neT (tgt := 23) hx hb (by omega) (by decide) dX9_like_18 (by decide) ?_
      refine lv_iconst (v := jI 0) hx hb dX9_like_23 rfl ?_
      refine lv_istore_n (lv' := [(3, .int (jI 0)), (0, .ref (ad 40 0)), (1, .int (jI x)), (2, .int (jI y))]) hx hb dX9_like_24 rfl hl (by decide) rfl (fun ls hl => ?_)
      have lp25 : ∀ (nn : Nat) (k : Int) (Xa : Nat → Int → Int → Int) (H : Heap) (locs : List Loc) (ls : Array Slot), (30 - k) < (nn : Int) → (Rng Xa) → (Frm [8600, 8700] X1 Xa) → (0 ≤ k ∧ k ≤ 30) → wd D tc base (ad, cnt, Xa, Y, ln) H → va_S (frA base) s.heap H locs → lv_has ls 12 [(0, .ref (ad 40 0)), (1, .int (jI x)), (2, .int (jI y)), (3, .int (jI k))] → W p l e ({ frames := 1, cells := 0, slots := 0, locals := 24 } : Room) s m av9 below meth c H locs 0 0 Q9 (F0 m 25 ls []) := by
        intro nn
        induction nn with
        | zero => intro k Xa H locs ls hm hRXa hGXa hk hw hS hl; exfalso; omega
        | succ nn ih25 =>
          intro k Xa H locs ls hm hRXa hGXa hk hw hS hl
          have hFXa : Frm [4001, 8600, 8700, 9000, 4051, 8800, 8900] X Xa := Frm.tr hFX1 (Frm.mono hGXa (by first | exact nls_of rfl | decide))
          refine lv_iload_n hx hb dX9_like_25 rfl (lv_at hl 3 rfl) ?_
          refine lv_bipush (v := jI 30) hx hb dX9_like_26 (by decide) ?_
          refine x_icmp_ge (tgt := 51) hx hb (by omega) (by omega) dX9_like_28 (by decide) (fun c10 => ?_) (fun c10 => ?_)
          · refine lv_iconst (v := jI 0) hx hb dX9_like_51 rfl ?_
            refine lv_istore_n (lv' := [(3, .int (jI 0)), (0, .ref (ad 40 0)), (1, .int (jI x)), (2, .int (jI y))]) hx hb dX9_like_52 rfl hl (by decide) rfl (fun ls hl => ?_)
            have lp53 : ∀ (nn : Nat) (k : Int) (Xb : Nat → Int → Int → Int) (H : Heap) (locs : List Loc) (ls : Array Slot), (400 - k) < (nn : Int) → (Rng Xb) → (Frm [8800, 8900] Xa Xb) → (0 ≤ k ∧ k ≤ 400) → wd D tc base (ad, cnt, Xb, Y, ln) H → va_S (frA base) s.heap H locs → lv_has ls 12 [(0, .ref (ad 40 0)), (1, .int (jI x)), (2, .int (jI y)), (3, .int (jI k))] → W p l e ({ frames := 1, cells := 0, slots := 0, locals := 24 } : Room) s m av9 below meth c H locs 0 0 Q9 (F0 m 53 ls []) := by
              intro nn
              induction nn with
              | zero => intro k Xb H locs ls hm hRXb hGXb hk hw hS hl; exfalso; omega
              | succ nn ih53 =>
                intro k Xb H locs ls hm hRXb hGXb hk hw hS hl
                have hFXb : Frm [4001, 8600, 8700, 9000, 4051, 8800, 8900] X Xb := Frm.tr hFXa (Frm.mono hGXb (by first | exact nls_of rfl | decide))
                refine lv_iload_n hx hb dX9_like_53 rfl (lv_at hl 3 rfl) ?_
                refine lv_sipush (v := jI 400) hx hb dX9_like_54 (by decide) ?_
                refine x_icmp_ge (tgt := 80) hx hb (by omega) (by omega) dX9_like_57 (by decide) (fun c11 => ?_) (fun c11 => ?_)
                · refine lv_aload_n hx hb dX9_like_80 rfl (lv_at hl 0 rfl) ?_
                  refine lv_iconst (v := jI 0) hx hb dX9_like_81 rfl ?_
                  refine x_puti (jz := 50) hx hb hf9 ⟨tyX9_ok, nmX9⟩ hw hS (by first | exact Int.le_refl 0 | omega) (by first | exact zlt hc40 | omega) sl_40_50 rfl lk240 rfl (tyX9_ok 50 (by decide)) rfl rfl dX9_like_82 (fun H locs hw hS => ?_)
                  obtain ⟨X12, hX12⟩ : ∃ Xq, Xq = u3 Xb 40 0 50 0 := ⟨_, rfl⟩
                  rw [← hX12] at hw
                  have hRX12 : Rng X12 := by rw [hX12]; exact rng_set hRXb (show 0 ≤ 0 ∧ 0 ≤ 30 by omega)
                  have hVX12 : X12 40 0 50 = 0 := by rw [hX12]; exact u3_s _ _ _ _ _
                  have hFX12 : Frm [4001, 8600, 8700, 9000, 4051, 8800, 8900] X X12 := by rw [hX12]; exact Frm.set hFXb (show 4051 ∈ [4001, 8600, 8700, 9000, 4051, 8800, 8900] by first | exact nlm_in rfl | decide)
                  have hQn : qOK X12 := qOK.nil (by omega)
                  refine lv_aload_n hx hb dX9_like_85 rfl (lv_at hl 0 rfl) ?_
                  refine lv_iload_n hx hb dX9_like_86 rfl (lv_at hl 1 rfl) ?_
                  refine lv_iload_n hx hb dX9_like_87 rfl (lv_at hl 2 rfl) ?_
                  have q14 : Frm [4001, 4051, 8600, 8700, 8800, 8900] X X1 := by rw [hX1]; exact Frm.set Frm.rf (show 4001 ∈ [4001, 4051, 8600, 8700, 8800, 8900] by first | exact nlm_in rfl | decide)
                  have q15 : Frm [4001, 4051, 8600, 8700, 8800, 8900] X Xa := Frm.tr q14 (Frm.mono hGXa (by first | exact nls_of rfl | decide))
                  have q16 : Frm [4001, 4051, 8600, 8700, 8800, 8900] X Xb := Frm.tr q15 (Frm.mono hGXb (by first | exact nls_of rfl | decide))
                  have q17 : Frm [4001, 4051, 8600, 8700, 8800, 8900] X X12 := by rw [hX12]; exact Frm.set q16 (show 4051 ∈ [4001, 4051, 8600, 8700, 8800, 8900] by first | exact nlm_in rfl | decide)
                  have hMq13 : MInv X12 := minv_frm hMI q17 (by decide)
                  have e18 : X12 40 0 13 = X 40 0 13 := by rw [hX12, u3_j _ _ _ _ (by decide), hGXb 40 0 13 (show 4014 ∉ [8800, 8900] by first | exact nlm_ni rfl | decide), hGXa 40 0 13 (show 4014 ∉ [8600, 8700] by first | exact nlm_ni rfl | decide), hX1, u3_j _ _ _ _ (by decide)]
                  refine gos_i (run_V (As := [.int (jI x), .int (jI y)]) (rest := []) hx hb hml hown hts (c_X9_meets l D tc base ad cnt X12 Y ln hRX12 hFx hMq13 x y (by omega) (by omega) (by simp only [e18]; omega) (by simp only [e18]; omega) hQn) (cwV 2 hts gX9_like_X9_meets rfl rfl rfl (by first | exact hd_X9_meets | decide +kernel) ⟨Nat.le_of_ble_eq_true rfl, Nat.le_of_ble_eq_true rfl⟩) hK hw (by first | exact Int.le_refl 0 | omega) (by first | exact zlt hc40 | omega) sl_40_0 rfl rfl hl.1 rfl (Nat.le_of_ble_eq_true rfl) dX9_like_88 ⟨Nat.le_of_ble_eq_true rfl, Nat.le_of_ble_eq_true rfl⟩) hS (fun z19 u20 H locs p21 hw hS => ?_)
                  obtain ⟨X22, eu20, hRX22, hG23, hMIX22, hQX22, p21⟩ := p21
                  subst eu20
                  have hFX22 : Frm [4001, 8600, 8700, 9000, 4051, 8800, 8900] X X22 := Frm.tr hFX12 (Frm.mono hG23 (by first | exact nls_of rfl | decide))
                  refine lv_pop hx hb dX9_like_91 rfl ?_
                  refine lv_iconst (v := jI 0) hx hb dX9_like_92 rfl ?_
                  refine lv_istore_n (lv' := [(3, .int (jI 0)), (0, .ref (ad 40 0)), (1, .int (jI x)), (2, .int (jI y))]) hx hb dX9_like_93 rfl hl (by decide) rfl (fun ls hl => ?_)
                  have lp94 : ∀ (nn : Nat) (q : Int) (Xc : Nat → Int → Int → Int) (H : Heap) (locs : List Loc) (ls : Array Slot), (30 - q) < (nn : Int) → (Rng Xc) → (Frm [8600, 8700, 9000, 4051, 8800, 8900] X22 Xc) → (0 ≤ q ∧ q ≤ 30) → (MInv Xc) → (qOK Xc) → wd D tc base (ad, cnt, Xc, Y, ln) H → va_S (frA base) s.heap H locs → lv_has ls 12 [(0, .ref (ad 40 0)), (1, .int (jI x)), (2, .int (jI y)), (3, .int (jI q))] → W p l e ({ frames := 1, cells := 0, slots := 0, locals := 24 } : Room) s m av9 below meth c H locs 0 0 Q9 (F0 m 94 ls []) := by
                    intro nn
                    induction nn with
                    | zero => intro q Xc H locs ls hm hRXc hGXc hq0 hMIXc hQc hw hS hl; exfalso; omega
                    | succ nn ih94 =>
                      intro q Xc H locs ls hm hRXc hGXc hq0 hMIXc hQc hw hS hl
                      have hFXc : Frm [4001, 8600, 8700, 9000, 4051, 8800, 8900] X Xc := Frm.tr hFX22 (Frm.mono hGXc (by first | exact nls_of rfl | decide))
                      skip
                      refine lv_iload_n hx hb dX9_like_94 rfl (lv_at hl 3 rfl) ?_
                      refine lv_aload_n hx hb dX9_like_95 rfl (lv_at hl 0 rfl) ?_
                      refine x_geti (jz := 50) hx hb hf9 hw (by first | exact Int.le_refl 0 | omega) (by first | exact zlt hc40 | omega) sl_40_50 rfl lk240 dX9_like_96 ?_
                      have f24 : 0 ≤ Xc 40 0 50 ∧ Xc 40 0 50 ≤ 30 := hRXc 40 0 50
                      refine x_icmp_ge (tgt := 286) hx hb (by omega) (by omega) dX9_like_99 (by decide) (fun c25 => ?_) (fun c25 => ?_)
                      · refine lv_iconst (v := jI 1) hx hb dX9_like_286 rfl ?_
                        rw [hQ9]
                        refine ret_i (mc := 0) (ms := 0) hx hb hr hlocks hw hS (by first | exact Nat.le_of_ble_eq_true rfl | omega) (by first | exact Nat.le_of_ble_eq_true rfl | omega) dX9_like_287 ?_
                        exact ⟨Xc, rfl, hRXc, hFXc, hMIXc, by omega⟩
                      · refine lv_aload_n hx hb dX9_like_102 rfl (lv_at hl 0 rfl) ?_
                        refine x_geto hx hb hf9 hw (by first | exact Int.le_refl 0 | omega) (by first | exact zlt hc40 | omega) sl_40_49 lk142 dX9_like_103 ?_
                        refine lv_iload_n hx hb dX9_like_106 rfl (lv_at hl 3 rfl) ?_
                        refine x_iald hx hb hK.1 hw (by first | exact Int.le_refl 0 | omega) (by first | exact zlt hc90 | omega) ar_90 (len_E ar_90 (by first | exact Nat.ne_of_beq_eq_false rfl | decide)) (by omega) (by omega) (by omega) dX9_like_107 ?_
                        have f26 : 0 ≤ Xc 90 0 q ∧ Xc 90 0 q ≤ 29 := hRXc 90 0 q
                        have e27 : Xc 40 0 13 = X 40 0 13 := by rw [hGXc 40 0 13 (show 4014 ∉ [8600, 8700, 9000, 4051, 8800, 8900] by first | exact nlm_ni rfl | decide), hG23 40 0 13 (show 4014 ∉ [8600, 8700, 9000, 4051] by first | exact nlm_ni rfl | decide), hX12, u3_j _ _ _ _ (by decide), hGXb 40 0 13 (show 4014 ∉ [8800, 8900] by first | exact nlm_ni rfl | decide), hGXa 40 0 13 (show 4014 ∉ [8600, 8700] by first | exact nlm_ni rfl | decide), hX1, u3_j _ _ _ _ (by decide)]
                        have hqa : 0 ≤ Xc 86 0 (Xc 90 0 q) ∧ Xc 86 0 (Xc 90 0 q) < X 40 0 13 ∧ Xc 90 0 q < X 40 0 13 := by have h9 := hQc.1 q (by omega) (by omega); simp only [e27] at h9; exact h9
                        refine lv_istore (lv' := [(4, .int (jI (Xc 90 0 q))), (0, .ref (ad 40 0)), (1, .int (jI x)), (2, .int (jI y)), (3, .int (jI q))]) hx hb dX9_like_108 hl (by decide) rfl (fun ls hl => ?_)
                        refine lv_aload_n hx hb dX9_like_110 rfl (lv_at hl 1 rfl) ?_
                        refine x_geto hx hb hf9 hw (by first | exact Int.le_refl 0 | omega) (by first | exact zlt hc40 | omega) sl_40_45 lk130 dX9_like_111 ?_
                        refine lv_iload hx hb dX9_like_114 (lv_at hl 0 rfl) ?_
                        refine x_iald hx hb hK.1 hw (by first | exact Int.le_refl 0 | omega) (by first | exact zlt hc86 | omega) ar_86 (len_E ar_86 (by first | exact Nat.ne_of_beq_eq_false rfl | decide)) (by omega) (by omega) (by omega) dX9_like_116 ?_
                        have f28 : (-1) ≤ Xc 86 0 (Xc 90 0 q) ∧ Xc 86 0 (Xc 90 0 q) ≤ 29 := hRXc 86 0 (Xc 90 0 q)
                        refine lv_istore (lv' := [(5, .int (jI (Xc 86 0 (Xc 90 0 q)))), (4, .int (jI (Xc 90 0 q))), (0, .ref (ad 40 0)), (1, .int (jI x)), (2, .int (jI y)), (3, .int (jI q))]) hx hb dX9_like_117 hl (by decide) rfl (fun ls hl => ?_)
                        refine lv_aload_n hx hb dX9_like_119 rfl (lv_at hl 2 rfl) ?_
                        refine x_geto hx hb hf9 hw (by first | exact Int.le_refl 0 | omega) (by first | exact zlt hc40 | omega) sl_40_14 lk45 dX9_like_120 ?_
                        refine lv_iload hx hb dX9_like_123 (lv_at hl 1 rfl) ?_
                        refine x_iald hx hb hK.1 hw (by first | exact Int.le_refl 0 | omega) (by first | exact zlt hc55 | omega) ar_55 (len_E ar_55 (by first | exact Nat.ne_of_beq_eq_false rfl | decide)) (by omega) (by omega) (by omega) dX9_like_125 ?_
                        have e29 : ∀ p9 q9 : Int, Xc 55 p9 q9 = X 55 p9 q9 := fun p9 q9 => by rw [hGXc 55 p9 q9 (show 5500 ∉ [8600, 8700, 9000, 4051, 8800, 8900] by first | exact nlm_ni rfl | decide), hG23 55 p9 q9 (show 5500 ∉ [8600, 8700, 9000, 4051] by first | exact nlm_ni rfl | decide), hX12, u3_k _ _ _ _ (by first | exact Nat.ne_of_beq_eq_false rfl | decide), hGXb 55 p9 q9 (show 5500 ∉ [8800, 8900] by first | exact nlm_ni rfl | decide), hGXa 55 p9 q9 (show 5500 ∉ [8600, 8700] by first | exact nlm_ni rfl | decide), hX1, u3_k _ _ _ _ (by first | exact Nat.ne_of_beq_eq_false rfl | decide)]
                        rw [e29 0 (Xc 90 0 q)]
                        have f30 : 0 ≤ X 55 0 (Xc 90 0 q) ∧ X 55 0 (Xc 90 0 q) ≤ 7 := hR 55 0 (Xc 90 0 q)
                        refine lv_aload_n hx hb dX9_like_126 rfl (lv_at hl 2 rfl) ?_
                        refine x_geto hx hb hf9 hw (by first | exact Int.le_refl 0 | omega) (by first | exact zlt hc40 | omega) sl_40_14 lk45 dX9_like_127 ?_
                        refine lv_iload hx hb dX9_like_130 (lv_at hl 0 rfl) ?_
                        refine x_iald hx hb hK.1 hw (by first | exact Int.le_refl 0 | omega) (by first | exact zlt hc55 | omega) ar_55 (len_E ar_55 (by first | exact Nat.ne_of_beq_eq_false rfl | decide)) (by omega) (by omega) (by omega) dX9_like_132 ?_
                        have e31 : ∀ p9 q9 : Int, Xc 55 p9 q9 = X 55 p9 q9 := fun p9 q9 => by rw [hGXc 55 p9 q9 (show 5500 ∉ [8600, 8700, 9000, 4051, 8800, 8900] by first | exact nlm_ni rfl | decide), hG23 55 p9 q9 (show 5500 ∉ [8600, 8700, 9000, 4051] by first | exact nlm_ni rfl | decide), hX12, u3_k _ _ _ _ (by first | exact Nat.ne_of_beq_eq_false rfl | decide), hGXb 55 p9 q9 (show 5500 ∉ [8800, 8900] by first | exact nlm_ni rfl | decide), hGXa 55 p9 q9 (show 5500 ∉ [8600, 8700] by first | exact nlm_ni rfl | decide), hX1, u3_k _ _ _ _ (by first | exact Nat.ne_of_beq_eq_false rfl | decide)]
                        rw [e31 0 (Xc 86 0 (Xc 90 0 q))]
                        have f32 : 0 ≤ X 55 0 (Xc 86 0 (Xc 90 0 q)) ∧ X 55 0 (Xc 86 0 (Xc 90 0 q)) ≤ 7 := hR 55 0 (Xc 86 0 (Xc 90 0 q))
                        refine x_icmp_eq (tgt := 138) hx hb (by omega) (by omega) dX9_like_133 (by decide) (fun c33 => ?_) (fun c33 => ?_)
                        · have cEQ : X 55 0 (Xc 90 0 q) = X 55 0 (Xc 86 0 (Xc 90 0 q)) := by omega
                          refine lv_iconst (v := jI 0) hx hb dX9_like_138 rfl ?_
                          refine lv_istore (lv' := [(6, .int (jI 0)), (5, .int (jI (Xc 86 0 (Xc 90 0 q)))), (4, .int (jI (Xc 90 0 q))), (0, .ref (ad 40 0)), (1, .int (jI x)), (2, .int (jI y)), (3, .int (jI q))]) hx hb dX9_like_139 hl (by decide) rfl (fun ls hl => ?_)
                          have lp141 : ∀ (nn : Nat) (k : Int) (Xd : Nat → Int → Int → Int) (H : Heap) (locs : List Loc) (ls : Array Slot), (5 - k) < (nn : Int) → (Rng Xd) → (Frm [8600, 8700, 9000, 4051, 8800, 8900] Xc Xd) → (0 ≤ k ∧ k ≤ 5) → (MInv Xd) → (qOK Xd) → wd D tc base (ad, cnt, Xd, Y, ln) H → va_S (frA base) s.heap H locs → lv_has ls 12 [(0, .ref (ad 40 0)), (1, .int (jI x)), (2, .int (jI y)), (3, .int (jI q)), (4, .int (jI (Xc 90 0 q))), (5, .int (jI (Xc 86 0 (Xc 90 0 q)))), (6, .int (jI k))] → W p l e ({ frames := 1, cells := 0, slots := 0, locals := 24 } : Room) s m av9 below meth c H locs 0 0 Q9 (F0 m 141 ls []) := by
                            intro nn
                            induction nn with
                            | zero => intro k Xd H locs ls hm hRXd hGXd hk hMIXd hQd hw hS hl; exfalso; omega
                            | succ nn ih141 =>
                              intro k Xd H locs ls hm hRXd hGXd hk hMIXd hQd hw hS hl
                              have hFXd : Frm [4001, 8600, 8700, 9000, 4051, 8800, 8900] X Xd := Frm.tr hFXc (Frm.mono hGXd (by first | exact nls_of rfl | decide))
                              skip
                              refine lv_iload hx hb dX9_like_141 (lv_at hl 6 rfl) ?_
                              refine lv_aload_n hx hb dX9_like_143 rfl (lv_at hl 0 rfl) ?_
                              refine x_geto hx hb hf9 hw (by first | exact Int.le_refl 0 | omega) (by first | exact zlt hc40 | omega) sl_40_3 lk13 dX9_like_144 ?_
                              refine lv_aload_n hx hb dX9_like_147 rfl (lv_at hl 0 rfl) ?_
                              refine x_geto hx hb hf9 hw (by first | exact Int.le_refl 0 | omega) (by first | exact zlt hc40 | omega) sl_40_14 lk45 dX9_like_148 ?_
                              refine lv_iload hx hb dX9_like_151 (lv_at hl 4 rfl) ?_
                              refine x_iald hx hb hK.1 hw (by first | exact Int.le_refl 0 | omega) (by first | exact zlt hc55 | omega) ar_55 (len_E ar_55 (by first | exact Nat.ne_of_beq_eq_false rfl | decide)) (by omega) (by omega) (by omega) dX9_like_153 ?_
                              have e34 : ∀ p9 q9 : Int, Xd 55 p9 q9 = X 55 p9 q9 := fun p9 q9 => by rw [hGXd 55 p9 q9 (show 5500 ∉ [8600, 8700, 9000, 4051, 8800, 8900] by first | exact nlm_ni rfl | decide), hGXc 55 p9 q9 (show 5500 ∉ [8600, 8700, 9000, 4051, 8800, 8900] by first | exact nlm_ni rfl | decide), hG23 55 p9 q9 (show 5500 ∉ [8600, 8700, 9000, 4051] by first | exact nlm_ni rfl | decide), hX12, u3_k _ _ _ _ (by first | exact Nat.ne_of_beq_eq_false rfl | decide), hGXb 55 p9 q9 (show 5500 ∉ [8800, 8900] by first | exact nlm_ni rfl | decide), hGXa 55 p9 q9 (show 5500 ∉ [8600, 8700] by first | exact nlm_ni rfl | decide), hX1, u3_k _ _ _ _ (by first | exact Nat.ne_of_beq_eq_false rfl | decide)]
                              rw [e34 0 (Xc 90 0 q)]
                              have f35 : 0 ≤ X 55 0 (Xc 90 0 q) ∧ X 55 0 (Xc 90 0 q) ≤ 7 := hR 55 0 (Xc 90 0 q)
                              refine x_iald hx hb hK.1 hw (by first | exact Int.le_refl 0 | omega) (by first | exact zlt hc44 | omega) ar_44 (len_E ar_44 (by first | exact Nat.ne_of_beq_eq_false rfl | decide)) (by omega) (by omega) (by omega) dX9_like_154 ?_
                              have e36 : ∀ p9 q9 : Int, Xd 44 p9 q9 = X 44 p9 q9 := fun p9 q9 => by rw [hGXd 44 p9 q9 (show 4400 ∉ [8600, 8700, 9000, 4051, 8800, 8900] by first | exact nlm_ni rfl | decide), hGXc 44 p9 q9 (show 4400 ∉ [8600, 8700, 9000, 4051, 8800, 8900] by first | exact nlm_ni rfl | decide), hG23 44 p9 q9 (show 4400 ∉ [8600, 8700, 9000, 4051] by first | exact nlm_ni rfl | decide), hX12, u3_k _ _ _ _ (by first | exact Nat.ne_of_beq_eq_false rfl | decide), hGXb 44 p9 q9 (show 4400 ∉ [8800, 8900] by first | exact nlm_ni rfl | decide), hGXa 44 p9 q9 (show 4400 ∉ [8600, 8700] by first | exact nlm_ni rfl | decide), hX1, u3_k _ _ _ _ (by first | exact Nat.ne_of_beq_eq_false rfl | decide)]
                              rw [e36 0 (X 55 0 (Xc 90 0 q))]
                              have f37 : 0 ≤ X 44 0 (X 55 0 (Xc 90 0 q)) ∧ X 44 0 (X 55 0 (Xc 90 0 q)) ≤ 5 := hR 44 0 (X 55 0 (Xc 90 0 q))
                              refine x_icmp_ge (tgt := 280) hx hb (by omega) (by omega) dX9_like_155 (by decide) (fun c38 => ?_) (fun c38 => ?_)
                              · refine lv_iinc (v := jI (q + 1)) (lv' := [(3, .int (jI (q + 1))), (0, .ref (ad 40 0)), (1, .int (jI x)), (2, .int (jI y)), (4, .int (jI (Xc 90 0 q))), (5, .int (jI (Xc 86 0 (Xc 90 0 q)))), (6, .int (jI k))]) hx hb dX9_like_280 hl (k := 3) rfl (jI_add _ _) (by decide) rfl (fun ls hl => ?_)
                                refine lv_goto (tgt := 94) hx hb dX9_like_283 (by decide) ?_
                                have q39 : Frm [8600, 8700, 9000, 4051, 8800, 8900] X22 Xc := Frm.tr Frm.rf (Frm.mono hGXc (by first | exact nls_of rfl | decide))
                                have q40 : Frm [8600, 8700, 9000, 4051, 8800, 8900] X22 Xd := Frm.tr q39 (Frm.mono hGXd (by first | exact nls_of rfl | decide))
                                exact ih94 (q + 1) Xd _ _ _ (by omega) hRXd q40 (by omega) (hMIXd) (hQd) hw hS (lv_sub hl [1, 2, 3, 0] rfl)
                              · refine lv_aload_n hx hb dX9_like_158 rfl (lv_at hl 0 rfl) ?_
                                refine x_geto hx hb hf9 hw (by first | exact Int.le_refl 0 | omega) (by first | exact zlt hc40 | omega) sl_40_15 lk48 dX9_like_159 ?_
                                refine lv_iconst (v := jI 5) hx hb dX9_like_162 rfl ?_
                                refine lv_iload hx hb dX9_like_163 (lv_at hl 4 rfl) ?_
                                refine x_imul hx hb dX9_like_165 ?_
                                refine lv_iload hx hb dX9_like_166 (lv_at hl 6 rfl) ?_
                                refine x_iadd hx hb dX9_like_168 ?_
                                obtain ⟨hy1, hy2, hy3⟩ := hMI.1 (Xc 90 0 q) k (by omega) (by omega) (by omega) (by omega)
                                refine x_lald hx hb hK.1 hw (by first | exact Int.le_refl 0 | omega) (by first | exact zlt hc56 | omega) ar_56 (len_E ar_56 (by first | exact Nat.ne_of_beq_eq_false rfl | decide)) (by omega) (by omega) (by omega) dX9_like_169 ?_
                                have e41 : ∀ p9 q9 : Int, Xd 56 p9 q9 = X 56 p9 q9 := fun p9 q9 => by rw [hGXd 56 p9 q9 (show 5600 ∉ [8600, 8700, 9000, 4051, 8800, 8900] by first | exact nlm_ni rfl | decide), hGXc 56 p9 q9 (show 5600 ∉ [8600, 8700, 9000, 4051, 8800, 8900] by first | exact nlm_ni rfl | decide), hG23 56 p9 q9 (show 5600 ∉ [8600, 8700, 9000, 4051] by first | exact nlm_ni rfl | decide), hX12, u3_k _ _ _ _ (by first | exact Nat.ne_of_beq_eq_false rfl | decide), hGXb 56 p9 q9 (show 5600 ∉ [8800, 8900] by first | exact nlm_ni rfl | decide), hGXa 56 p9 q9 (show 5600 ∉ [8600, 8700] by first | exact nlm_ni rfl | decide), hX1, u3_k _ _ _ _ (by first | exact Nat.ne_of_beq_eq_false rfl | decide)]
                                rw [e41 0 ((5 * (Xc 90 0 q)) + k)]
                                have f42 : (-9223372036854775808) ≤ X 56 0 ((5 * (Xc 90 0 q)) + k) ∧ X 56 0 ((5 * (Xc 90 0 q)) + k) ≤ 9223372036854775807 := hR 56 0 ((5 * (Xc 90 0 q)) + k)
                                refine lv_lstore (lv' := [(7, .long (jL (X 56 0 ((5 * (Xc 90 0 q)) + k)))), (0, .ref (ad 40 0)), (1, .int (jI x)), (2, .int (jI y)), (3, .int (jI q)), (4, .int (jI (Xc 90 0 q))), (5, .int (jI (Xc 86 0 (Xc 90 0 q)))), (6, .int (jI k))]) hx hb dX9_like_170 hl (by decide) rfl (fun ls hl => ?_)
                                refine lv_aload_n hx hb dX9_like_172 rfl (lv_at hl 1 rfl) ?_
                                refine x_geto hx hb hf9 hw (by first | exact Int.le_refl 0 | omega) (by first | exact zlt hc40 | omega) sl_40_15 lk48 dX9_like_173 ?_
                                refine lv_iconst (v := jI 5) hx hb dX9_like_176 rfl ?_
                                refine lv_iload hx hb dX9_like_177 (lv_at hl 6 rfl) ?_
                                refine x_imul hx hb dX9_like_179 ?_
                                refine lv_iload hx hb dX9_like_180 (lv_at hl 7 rfl) ?_
                                refine x_iadd hx hb dX9_like_182 ?_
                                have hz0 := hMI.1 (Xc 86 0 (Xc 90 0 q)) k (by omega) (by omega) (by omega) (by rw [← cEQ]; omega)
                                rw [← cEQ] at hz0
                                obtain ⟨hz1, hz2, hz3⟩ := hz0
                                refine x_lald hx hb hK.1 hw (by first | exact Int.le_refl 0 | omega) (by first | exact zlt hc56 | omega) ar_56 (len_E ar_56 (by first | exact Nat.ne_of_beq_eq_false rfl | decide)) (by omega) (by omega) (by omega) dX9_like_183 ?_
                                have e43 : ∀ p9 q9 : Int, Xd 56 p9 q9 = X 56 p9 q9 := fun p9 q9 => by rw [hGXd 56 p9 q9 (show 5600 ∉ [8600, 8700, 9000, 4051, 8800, 8900] by first | exact nlm_ni rfl | decide), hGXc 56 p9 q9 (show 5600 ∉ [8600, 8700, 9000, 4051, 8800, 8900] by first | exact nlm_ni rfl | decide), hG23 56 p9 q9 (show 5600 ∉ [8600, 8700, 9000, 4051] by first | exact nlm_ni rfl | decide), hX12, u3_k _ _ _ _ (by first | exact Nat.ne_of_beq_eq_false rfl | decide), hGXb 56 p9 q9 (show 5600 ∉ [8800, 8900] by first | exact nlm_ni rfl | decide), hGXa 56 p9 q9 (show 5600 ∉ [8600, 8700] by first | exact nlm_ni rfl | decide), hX1, u3_k _ _ _ _ (by first | exact Nat.ne_of_beq_eq_false rfl | decide)]
                                rw [e43 0 ((5 * (Xc 86 0 (Xc 90 0 q))) + k)]
                                have f44 : (-9223372036854775808) ≤ X 56 0 ((5 * (Xc 86 0 (Xc 90 0 q))) + k) ∧ X 56 0 ((5 * (Xc 86 0 (Xc 90 0 q))) + k) ≤ 9223372036854775807 := hR 56 0 ((5 * (Xc 86 0 (Xc 90 0 q))) + k)
                                refine lv_lstore (lv' := [(9, .long (jL (X 56 0 ((5 * (Xc 86 0 (Xc 90 0 q))) + k)))), (7, .long (jL (X 56 0 ((5 * (Xc 90 0 q)) + k)))), (0, .ref (ad 40 0)), (1, .int (jI x)), (2, .int (jI y)), (3, .int (jI q)), (4, .int (jI (Xc 90 0 q))), (5, .int (jI (Xc 86 0 (Xc 90 0 q)))), (6, .int (jI k))]) hx hb dX9_like_184 hl (by decide) rfl (fun ls hl => ?_)
                                refine lv_aload_n hx hb dX9_like_186 rfl (lv_at hl 2 rfl) ?_
                                refine lv_iload hx hb dX9_like_187 (lv_at hl 6 rfl) ?_
                                refine lv_iload hx hb dX9_like_189 (lv_at hl 8 rfl) ?_
                                refine gos_i (run_V (As := [.int (jI (Xc 90 0 q)), .int (jI k)]) (rest := []) hx hb hml hown hts (c_X9_lane l D tc base ad cnt Xd Y ln hRXd hFx (Xc 90 0 q) k (by omega) (by omega)) (cwV 2 hts gX9_like_X9_lane rfl rfl rfl (by first | exact hd_X9_lane | decide +kernel) ⟨Nat.le_of_ble_eq_true rfl, Nat.le_of_ble_eq_true rfl⟩) hK hw (by first | exact Int.le_refl 0 | omega) (by first | exact zlt hc40 | omega) sl_40_0 rfl rfl hl.1 rfl (Nat.le_of_ble_eq_true rfl) dX9_like_191 ⟨Nat.le_of_ble_eq_true rfl, Nat.le_of_ble_eq_true rfl⟩) hS (fun z45 u46 H locs p47 hw hS => ?_)
                                obtain ⟨eu46, p47⟩ := p47
                                subst eu46
                                have e48 : ∀ j : Int, Xd 55 0 j = X 55 0 j := fun j => by rw [hGXd 55 0 j (show 5500 ∉ [8600, 8700, 9000, 4051, 8800, 8900] by first | exact nlm_ni rfl | decide), hGXc 55 0 j (show 5500 ∉ [8600, 8700, 9000, 4051, 8800, 8900] by first | exact nlm_ni rfl | decide), hG23 55 0 j (show 5500 ∉ [8600, 8700, 9000, 4051] by first | exact nlm_ni rfl | decide), hX12, u3_k _ _ _ _ (by first | exact Nat.ne_of_beq_eq_false rfl | decide), hGXb 55 0 j (show 5500 ∉ [8800, 8900] by first | exact nlm_ni rfl | decide), hGXa 55 0 j (show 5500 ∉ [8600, 8700] by first | exact nlm_ni rfl | decide), hX1, u3_k _ _ _ _ (by first | exact Nat.ne_of_beq_eq_false rfl | decide)]
                                have e49 : ∀ j : Int, Xd 46 0 j = X 46 0 j := fun j => by rw [hGXd 46 0 j (show 4600 ∉ [8600, 8700, 9000, 4051, 8800, 8900] by first | exact nlm_ni rfl | decide), hGXc 46 0 j (show 4600 ∉ [8600, 8700, 9000, 4051, 8800, 8900] by first | exact nlm_ni rfl | decide), hG23 46 0 j (show 4600 ∉ [8600, 8700, 9000, 4051] by first | exact nlm_ni rfl | decide), hX12, u3_k _ _ _ _ (by first | exact Nat.ne_of_beq_eq_false rfl | decide), hGXb 46 0 j (show 4600 ∉ [8800, 8900] by first | exact nlm_ni rfl | decide), hGXa 46 0 j (show 4600 ∉ [8600, 8700] by first | exact nlm_ni rfl | decide), hX1, u3_k _ _ _ _ (by first | exact Nat.ne_of_beq_eq_false rfl | decide)]
                                simp only [e48, e49] at p47
                                refine lv_iconst (v := jI 2) hx hb dX9_like_194 rfl ?_
                                refine x_icmp_lt (tgt := 212) hx hb (by omega) (by omega) dX9_like_195 (by decide) (fun c50 => ?_) (fun c50 => ?_)
                                · refine lv_lload hx hb dX9_like_212 (lv_at hl 1 rfl) ?_
                                  refine lv_lload hx hb dX9_like_214 (lv_at hl 0 rfl) ?_
                                  refine x_lcmp hx hb (by omega) (by omega) dX9_like_216 ?_
                                  obtain ⟨z51, ez51⟩ : ∃ y : Int, y = cmpZ (X 56 0 ((5 * (Xc 90 0 q)) + k)) (X 56 0 ((5 * (Xc 86 0 (Xc 90 0 q))) + k)) := ⟨_, rfl⟩
                                  rw [← ez51]
                                  have gz51 : (z51 < 0 ↔ ((X 56 0 ((5 * (Xc 90 0 q)) + k)) : Int) < (X 56 0 ((5 * (Xc 86 0 (Xc 90 0 q))) + k))) ∧ (z51 = 0 ↔ ((X 56 0 ((5 * (Xc 90 0 q)) + k)) : Int) = (X 56 0 ((5 * (Xc 86 0 (Xc 90 0 q))) + k))) ∧ -1 ≤ z51 ∧ z51 ≤ 1 := by rw [ez51]; exact ⟨cmpZ_lt, cmpZ_eq, (cmpZ_r _ _).1, (cmpZ_r _ _).2⟩
                                  clear ez51
                                  refine x_if_ne (tgt := 224) hx hb (by omega) dX9_like_217 (by decide) (fun c52 => ?_) (fun c52 => ?_)
                                  · replace c52 := cz_neT gz51 c52
                                    clear gz51
                                    refine lv_iconst (v := jI 0) hx hb dX9_like_224 rfl ?_
                                    refine lv_istore (lv' := [(11, .int (jI 0)), (9, .long (jL (X 56 0 ((5 * (Xc 86 0 (Xc 90 0 q))) + k)))), (7, .long (jL (X 56 0 ((5 * (Xc 90 0 q)) + k)))), (0, .ref (ad 40 0)), (1, .int (jI x)), (2, .int (jI y)), (3, .int (jI q)), (4, .int (jI (Xc 90 0 q))), (5, .int (jI (Xc 86 0 (Xc 90 0 q)))), (6, .int (jI k))]) hx hb dX9_like_225 hl (by decide) rfl (fun ls hl => ?_)
                                    refine lv_goto (tgt := 267) hx hb dX9_like_227 (by decide) ?_
                                    refine lv_iload hx hb dX9_like_267 (lv_at hl 0 rfl) ?_
                                    refine x_if_neF (tgt := 274) hx hb (by omega) (by decide) dX9_like_269 (by decide) ?_
                                    refine lv_iconst (v := jI 0) hx hb dX9_like_272 rfl ?_
                                    rw [hQ9]
                                    refine ret_i (mc := 0) (ms := 0) hx hb hr hlocks hw hS (by first | exact Nat.le_of_ble_eq_true rfl | omega) (by first | exact Nat.le_of_ble_eq_true rfl | omega) dX9_like_273 ?_
                                    exact ⟨Xd, rfl, hRXd, hFXd, hMIXd, by omega⟩
                                  · replace c52 := cz_neF gz51 c52
                                    clear gz51
                                    refine lv_iconst (v := jI 1) hx hb dX9_like_220 rfl ?_
                                    refine lv_goto (tgt := 225) hx hb dX9_like_221 (by decide) ?_
                                    refine lv_istore (lv' := [(11, .int (jI 1)), (9, .long (jL (X 56 0 ((5 * (Xc 86 0 (Xc 90 0 q))) + k)))), (7, .long (jL (X 56 0 ((5 * (Xc 90 0 q)) + k)))), (0, .ref (ad 40 0)), (1, .int (jI x)), (2, .int (jI y)), (3, .int (jI q)), (4, .int (jI (Xc 90 0 q))), (5, .int (jI (Xc 86 0 (Xc 90 0 q)))), (6, .int (jI k))]) hx hb dX9_like_225 hl (by decide) rfl (fun ls hl => ?_)
                                    refine lv_goto (tgt := 267) hx hb dX9_like_227 (by decide) ?_
                                    refine lv_iload hx hb dX9_like_267 (lv_at hl 0 rfl) ?_
                                    refine x_if_neT (tgt := 274) hx hb (by omega) (by decide) dX9_like_269 (by decide) ?_
                                    refine lv_iinc (v := jI (k + 1)) (lv' := [(6, .int (jI (k + 1))), (11, .int (jI 1)), (9, .long (jL (X 56 0 ((5 * (Xc 86 0 (Xc 90 0 q))) + k)))), (7, .long (jL (X 56 0 ((5 * (Xc 90 0 q)) + k)))), (0, .ref (ad 40 0)), (1, .int (jI x)), (2, .int (jI y)), (3, .int (jI q)), (4, .int (jI (Xc 90 0 q))), (5, .int (jI (Xc 86 0 (Xc 90 0 q))))]) hx hb dX9_like_274 hl (k := 9) rfl (jI_add _ _) (by decide) rfl (fun ls hl => ?_)
                                    refine lv_goto (tgt := 141) hx hb dX9_like_277 (by decide) ?_
                                    have q53 : Frm [8600, 8700, 9000, 4051, 8800, 8900] Xc Xd := Frm.tr Frm.rf (Frm.mono hGXd (by first | exact nls_of rfl | decide))
                                    exact ih141 (k + 1) Xd _ _ _ (by omega) hRXd q53 (by omega) (hMIXd) (hQd) hw hS (lv_sub hl [4, 5, 6, 7, 8, 9, 0] rfl)
                                · refine lv_lload hx hb dX9_like_198 (lv_at hl 1 rfl) ?_
                                  refine lv_lconst (v := jL 0) hx hb dX9_like_200 (by decide) ?_
                                  refine x_lcmp hx hb (by omega) (by omega) dX9_like_201 ?_
                                  obtain ⟨z54, ez54⟩ : ∃ y : Int, y = cmpZ (X 56 0 ((5 * (Xc 90 0 q)) + k)) 0 := ⟨_, rfl⟩
                                  rw [← ez54]
                                  have gz54 : (z54 < 0 ↔ ((X 56 0 ((5 * (Xc 90 0 q)) + k)) : Int) < 0) ∧ (z54 = 0 ↔ ((X 56 0 ((5 * (Xc 90 0 q)) + k)) : Int) = 0) ∧ -1 ≤ z54 ∧ z54 ≤ 1 := by rw [ez54]; exact ⟨cmpZ_lt, cmpZ_eq, (cmpZ_r _ _).1, (cmpZ_r _ _).2⟩
                                  clear ez54
                                  refine x_if_lt (tgt := 212) hx hb (by omega) dX9_like_202 (by decide) (fun c55 => ?_) (fun c55 => ?_)
                                  · replace c55 := cz_ltT gz54 c55
                                    clear gz54
                                    refine lv_lload hx hb dX9_like_212 (lv_at hl 1 rfl) ?_
                                    refine lv_lload hx hb dX9_like_214 (lv_at hl 0 rfl) ?_
                                    refine x_lcmp hx hb (by omega) (by omega) dX9_like_216 ?_
                                    obtain ⟨z56, ez56⟩ : ∃ y : Int, y = cmpZ (X 56 0 ((5 * (Xc 90 0 q)) + k)) (X 56 0 ((5 * (Xc 86 0 (Xc 90 0 q))) + k)) := ⟨_, rfl⟩
                                    rw [← ez56]
                                    have gz56 : (z56 < 0 ↔ ((X 56 0 ((5 * (Xc 90 0 q)) + k)) : Int) < (X 56 0 ((5 * (Xc 86 0 (Xc 90 0 q))) + k))) ∧ (z56 = 0 ↔ ((X 56 0 ((5 * (Xc 90 0 q)) + k)) : Int) = (X 56 0 ((5 * (Xc 86 0 (Xc 90 0 q))) + k))) ∧ -1 ≤ z56 ∧ z56 ≤ 1 := by rw [ez56]; exact ⟨cmpZ_lt, cmpZ_eq, (cmpZ_r _ _).1, (cmpZ_r _ _).2⟩
                                    clear ez56
                                    refine x_if_ne (tgt := 224) hx hb (by omega) dX9_like_217 (by decide) (fun c57 => ?_) (fun c57 => ?_)
                                    · replace c57 := cz_neT gz56 c57
                                      clear gz56
                                      refine lv_iconst (v := jI 0) hx hb dX9_like_224 rfl ?_
                                      refine lv_istore (lv' := [(11, .int (jI 0)), (9, .long (jL (X 56 0 ((5 * (Xc 86 0 (Xc 90 0 q))) + k)))), (7, .long (jL (X 56 0 ((5 * (Xc 90 0 q)) + k)))), (0, .ref (ad 40 0)), (1, .int (jI x)), (2, .int (jI y)), (3, .int (jI q)), (4, .int (jI (Xc 90 0 q))), (5, .int (jI (Xc 86 0 (Xc 90 0 q)))), (6, .int (jI k))]) hx hb dX9_like_225 hl (by decide) rfl (fun ls hl => ?_)
                                      refine lv_goto (tgt := 267) hx hb dX9_like_227 (by decide) ?_
                                      refine lv_iload hx hb dX9_like_267 (lv_at hl 0 rfl) ?_
                                      refine x_if_neF (tgt := 274) hx hb (by omega) (by decide) dX9_like_269 (by decide) ?_
                                      refine lv_iconst (v := jI 0) hx hb dX9_like_272 rfl ?_
                                      rw [hQ9]
                                      refine ret_i (mc := 0) (ms := 0) hx hb hr hlocks hw hS (by first | exact Nat.le_of_ble_eq_true rfl | omega) (by first | exact Nat.le_of_ble_eq_true rfl | omega) dX9_like_273 ?_
                                      exact ⟨Xd, rfl, hRXd, hFXd, hMIXd, by omega⟩
                                    · replace c57 := cz_neF gz56 c57
                                      clear gz56
                                      refine lv_iconst (v := jI 1) hx hb dX9_like_220 rfl ?_
                                      refine lv_goto (tgt := 225) hx hb dX9_like_221 (by decide) ?_
                                      refine lv_istore (lv' := [(11, .int (jI 1)), (9, .long (jL (X 56 0 ((5 * (Xc 86 0 (Xc 90 0 q))) + k)))), (7, .long (jL (X 56 0 ((5 * (Xc 90 0 q)) + k)))), (0, .ref (ad 40 0)), (1, .int (jI x)), (2, .int (jI y)), (3, .int (jI q)), (4, .int (jI (Xc 90 0 q))), (5, .int (jI (Xc 86 0 (Xc 90 0 q)))), (6, .int (jI k))]) hx hb dX9_like_225 hl (by decide) rfl (fun ls hl => ?_)
                                      refine lv_goto (tgt := 267) hx hb dX9_like_227 (by decide) ?_
                                      refine lv_iload hx hb dX9_like_267 (lv_at hl 0 rfl) ?_
                                      refine x_if_neT (tgt := 274) hx hb (by omega) (by decide) dX9_like_269 (by decide) ?_
                                      refine lv_iinc (v := jI (k + 1)) (lv' := [(6, .int (jI (k + 1))), (11, .int (jI 1)), (9, .long (jL (X 56 0 ((5 * (Xc 86 0 (Xc 90 0 q))) + k)))), (7, .long (jL (X 56 0 ((5 * (Xc 90 0 q)) + k)))), (0, .ref (ad 40 0)), (1, .int (jI x)), (2, .int (jI y)), (3, .int (jI q)), (4, .int (jI (Xc 90 0 q))), (5, .int (jI (Xc 86 0 (Xc 90 0 q))))]) hx hb dX9_like_274 hl (k := 9) rfl (jI_add _ _) (by decide) rfl (fun ls hl => ?_)
                                      refine lv_goto (tgt := 141) hx hb dX9_like_277 (by decide) ?_
                                      have q58 : Frm [8600, 8700, 9000, 4051, 8800, 8900] Xc Xd := Frm.tr Frm.rf (Frm.mono hGXd (by first | exact nls_of rfl | decide))
                                      exact ih141 (k + 1) Xd _ _ _ (by omega) hRXd q58 (by omega) (hMIXd) (hQd) hw hS (lv_sub hl [4, 5, 6, 7, 8, 9, 0] rfl)
                                  · replace c55 := cz_ltF gz54 c55
                                    clear gz54
                                    refine lv_lload hx hb dX9_like_205 (lv_at hl 0 rfl) ?_
                                    refine lv_lconst (v := jL 0) hx hb dX9_like_207 (by decide) ?_
                                    refine x_lcmp hx hb (by omega) (by omega) dX9_like_208 ?_
                                    obtain ⟨z59, ez59⟩ : ∃ y : Int, y = cmpZ (X 56 0 ((5 * (Xc 86 0 (Xc 90 0 q))) + k)) 0 := ⟨_, rfl⟩
                                    rw [← ez59]
                                    have gz59 : (z59 < 0 ↔ ((X 56 0 ((5 * (Xc 86 0 (Xc 90 0 q))) + k)) : Int) < 0) ∧ (z59 = 0 ↔ ((X 56 0 ((5 * (Xc 86 0 (Xc 90 0 q))) + k)) : Int) = 0) ∧ -1 ≤ z59 ∧ z59 ≤ 1 := by rw [ez59]; exact ⟨cmpZ_lt, cmpZ_eq, (cmpZ_r _ _).1, (cmpZ_r _ _).2⟩
                                    clear ez59
                                    refine x_if_ge (tgt := 230) hx hb (by omega) dX9_like_209 (by decide) (fun c60 => ?_) (fun c60 => ?_)
                                    · replace c60 := cz_geT gz59 c60
                                      clear gz59
                                      refine lv_aload_n hx hb dX9_like_230 rfl (lv_at hl 2 rfl) ?_
                                      refine lv_iload hx hb dX9_like_231 (lv_at hl 6 rfl) ?_
                                      refine lv_iload hx hb dX9_like_233 (lv_at hl 8 rfl) ?_
                                      refine gos_i (run_V (As := [.int (jI (Xc 90 0 q)), .int (jI k)]) (rest := []) hx hb hml hown hts (c_X9_lane l D tc base ad cnt Xd Y ln hRXd hFx (Xc 90 0 q) k (by omega) (by omega)) (cwV 2 hts gX9_like_X9_lane rfl rfl rfl (by first | exact hd_X9_lane | decide +kernel) ⟨Nat.le_of_ble_eq_true rfl, Nat.le_of_ble_eq_true rfl⟩) hK hw (by first | exact Int.le_refl 0 | omega) (by first | exact zlt hc40 | omega) sl_40_0 rfl rfl hl.1 rfl (Nat.le_of_ble_eq_true rfl) dX9_like_235 ⟨Nat.le_of_ble_eq_true rfl, Nat.le_of_ble_eq_true rfl⟩) hS (fun z61 u62 H locs p63 hw hS => ?_)
                                      obtain ⟨eu62, p63⟩ := p63
                                      subst eu62
                                      have e64 : ∀ j : Int, Xd 55 0 j = X 55 0 j := fun j => by rw [hGXd 55 0 j (show 5500 ∉ [8600, 8700, 9000, 4051, 8800, 8900] by first | exact nlm_ni rfl | decide), hGXc 55 0 j (show 5500 ∉ [8600, 8700, 9000, 4051, 8800, 8900] by first | exact nlm_ni rfl | decide), hG23 55 0 j (show 5500 ∉ [8600, 8700, 9000, 4051] by first | exact nlm_ni rfl | decide), hX12, u3_k _ _ _ _ (by first | exact Nat.ne_of_beq_eq_false rfl | decide), hGXb 55 0 j (show 5500 ∉ [8800, 8900] by first | exact nlm_ni rfl | decide), hGXa 55 0 j (show 5500 ∉ [8600, 8700] by first | exact nlm_ni rfl | decide), hX1, u3_k _ _ _ _ (by first | exact Nat.ne_of_beq_eq_false rfl | decide)]
                                      have e65 : ∀ j : Int, Xd 46 0 j = X 46 0 j := fun j => by rw [hGXd 46 0 j (show 4600 ∉ [8600, 8700, 9000, 4051, 8800, 8900] by first | exact nlm_ni rfl | decide), hGXc 46 0 j (show 4600 ∉ [8600, 8700, 9000, 4051, 8800, 8900] by first | exact nlm_ni rfl | decide), hG23 46 0 j (show 4600 ∉ [8600, 8700, 9000, 4051] by first | exact nlm_ni rfl | decide), hX12, u3_k _ _ _ _ (by first | exact Nat.ne_of_beq_eq_false rfl | decide), hGXb 46 0 j (show 4600 ∉ [8800, 8900] by first | exact nlm_ni rfl | decide), hGXa 46 0 j (show 4600 ∉ [8600, 8700] by first | exact nlm_ni rfl | decide), hX1, u3_k _ _ _ _ (by first | exact Nat.ne_of_beq_eq_false rfl | decide)]
                                      simp only [e64, e65] at p63
                                      refine lv_iconst (v := jI 2) hx hb dX9_like_238 rfl ?_
                                      refine x_icmp_ne (tgt := 255) hx hb (by omega) (by omega) dX9_like_239 (by decide) (fun c66 => ?_) (fun c66 => ?_)
                                      · refine lv_aload_n hx hb dX9_like_255 rfl (lv_at hl 2 rfl) ?_
                                        refine lv_lload hx hb dX9_like_256 (lv_at hl 1 rfl) ?_
                                        refine x_l2i hx hb dX9_like_258 ?_
                                        refine lv_lload hx hb dX9_like_259 (lv_at hl 0 rfl) ?_
                                        refine x_l2i hx hb dX9_like_261 ?_
                                        refine gos_i (run_V (As := [.int (jI (X 56 0 ((5 * (Xc 90 0 q)) + k))), .int (jI (X 56 0 ((5 * (Xc 86 0 (Xc 90 0 q))) + k)))]) (rest := []) hx hb hml hown hts (c_X9_rowsMeet l D tc base ad cnt Xd Y ln hRXd hFx hMIXd (X 56 0 ((5 * (Xc 90 0 q)) + k)) (X 56 0 ((5 * (Xc 86 0 (Xc 90 0 q))) + k)) (by omega) (by omega)) (cwV 2 hts gX9_like_X9_rowsMeet rfl rfl rfl (by first | exact hd_X9_rowsMeet | decide +kernel) ⟨Nat.le_of_ble_eq_true rfl, Nat.le_of_ble_eq_true rfl⟩) hK hw (by first | exact Int.le_refl 0 | omega) (by first | exact zlt hc40 | omega) sl_40_0 rfl rfl hl.1 rfl (Nat.le_of_ble_eq_true rfl) dX9_like_262 ⟨Nat.le_of_ble_eq_true rfl, Nat.le_of_ble_eq_true rfl⟩) hS (fun z67 u68 H locs p69 hw hS => ?_)
                                        obtain ⟨X70, eu68, hRX70, hG71, hMIX70, p69⟩ := p69
                                        subst eu68
                                        have hFX70 : Frm [4001, 8600, 8700, 9000, 4051, 8800, 8900] X X70 := Frm.tr hFXd (Frm.mono hG71 (by first | exact nls_of rfl | decide))
                                        refine lv_istore (lv' := [(11, .int (jI z67)), (9, .long (jL (X 56 0 ((5 * (Xc 86 0 (Xc 90 0 q))) + k)))), (7, .long (jL (X 56 0 ((5 * (Xc 90 0 q)) + k)))), (0, .ref (ad 40 0)), (1, .int (jI x)), (2, .int (jI y)), (3, .int (jI q)), (4, .int (jI (Xc 90 0 q))), (5, .int (jI (Xc 86 0 (Xc 90 0 q)))), (6, .int (jI k))]) hx hb dX9_like_265 hl (by decide) rfl (fun ls hl => ?_)
                                        refine lv_iload hx hb dX9_like_267 (lv_at hl 0 rfl) ?_
                                        refine x_if_ne (tgt := 274) hx hb (by omega) dX9_like_269 (by decide) (fun c72 => ?_) (fun c72 => ?_)
                                        · refine lv_iinc (v := jI (k + 1)) (lv' := [(6, .int (jI (k + 1))), (11, .int (jI z67)), (9, .long (jL (X 56 0 ((5 * (Xc 86 0 (Xc 90 0 q))) + k)))), (7, .long (jL (X 56 0 ((5 * (Xc 90 0 q)) + k)))), (0, .ref (ad 40 0)), (1, .int (jI x)), (2, .int (jI y)), (3, .int (jI q)), (4, .int (jI (Xc 90 0 q))), (5, .int (jI (Xc 86 0 (Xc 90 0 q))))]) hx hb dX9_like_274 hl (k := 9) rfl (jI_add _ _) (by decide) rfl (fun ls hl => ?_)
                                          refine lv_goto (tgt := 141) hx hb dX9_like_277 (by decide) ?_
                                          have q73 : Frm [8600, 8700, 9000, 4051, 8800, 8900] Xc Xd := Frm.tr Frm.rf (Frm.mono hGXd (by first | exact nls_of rfl | decide))
                                          have q74 : Frm [8600, 8700, 9000, 4051, 8800, 8900] Xc X70 := Frm.tr q73 (Frm.mono hG71 (by first | exact nls_of rfl | decide))
                                          have q75 : Frm [8800, 8900] Xd X70 := Frm.tr Frm.rf (Frm.mono hG71 (by first | exact nls_of rfl | decide))
                                          have hO76 : qOK X70 := qOK.of hQd q75 (by decide)
                                          exact ih141 (k + 1) X70 _ _ _ (by omega) hRX70 q74 (by omega) (hMIX70) (hO76) hw hS (lv_sub hl [4, 5, 6, 7, 8, 9, 0] rfl)
                                        · refine lv_iconst (v := jI 0) hx hb dX9_like_272 rfl ?_
                                          rw [hQ9]
                                          refine ret_i (mc := 0) (ms := 0) hx hb hr hlocks hw hS (by first | exact Nat.le_of_ble_eq_true rfl | omega) (by first | exact Nat.le_of_ble_eq_true rfl | omega) dX9_like_273 ?_
                                          exact ⟨X70, rfl, hRX70, hFX70, hMIX70, by omega⟩
                                      · refine lv_aload_n hx hb dX9_like_242 rfl (lv_at hl 2 rfl) ?_
                                        refine lv_lload hx hb dX9_like_243 (lv_at hl 1 rfl) ?_
                                        refine x_l2i hx hb dX9_like_245 ?_
                                        refine lv_lload hx hb dX9_like_246 (lv_at hl 0 rfl) ?_
                                        refine x_l2i hx hb dX9_like_248 ?_
                                        have e77 : Xd 40 0 13 = X 40 0 13 := by rw [hGXd 40 0 13 (show 4014 ∉ [8600, 8700, 9000, 4051, 8800, 8900] by first | exact nlm_ni rfl | decide), hGXc 40 0 13 (show 4014 ∉ [8600, 8700, 9000, 4051, 8800, 8900] by first | exact nlm_ni rfl | decide), hG23 40 0 13 (show 4014 ∉ [8600, 8700, 9000, 4051] by first | exact nlm_ni rfl | decide), hX12, u3_j _ _ _ _ (by decide), hGXb 40 0 13 (show 4014 ∉ [8800, 8900] by first | exact nlm_ni rfl | decide), hGXa 40 0 13 (show 4014 ∉ [8600, 8700] by first | exact nlm_ni rfl | decide), hX1, u3_j _ _ _ _ (by decide)]
                                        refine gos_i (run_V (As := [.int (jI (X 56 0 ((5 * (Xc 90 0 q)) + k))), .int (jI (X 56 0 ((5 * (Xc 86 0 (Xc 90 0 q))) + k)))]) (rest := []) hx hb hml hown hts (c_X9_meets l D tc base ad cnt Xd Y ln hRXd hFx hMIXd (X 56 0 ((5 * (Xc 90 0 q)) + k)) (X 56 0 ((5 * (Xc 86 0 (Xc 90 0 q))) + k)) (by omega) (by omega) (by simp only [e77]; omega) (by simp only [e77]; omega) hQd) (cwV 2 hts gX9_like_X9_meets rfl rfl rfl (by first | exact hd_X9_meets | decide +kernel) ⟨Nat.le_of_ble_eq_true rfl, Nat.le_of_ble_eq_true rfl⟩) hK hw (by first | exact Int.le_refl 0 | omega) (by first | exact zlt hc40 | omega) sl_40_0 rfl rfl hl.1 rfl (Nat.le_of_ble_eq_true rfl) dX9_like_249 ⟨Nat.le_of_ble_eq_true rfl, Nat.le_of_ble_eq_true rfl⟩) hS (fun z78 u79 H locs p80 hw hS => ?_)
                                        obtain ⟨X81, eu79, hRX81, hG82, hMIX81, hQX81, p80⟩ := p80
                                        subst eu79
                                        have hFX81 : Frm [4001, 8600, 8700, 9000, 4051, 8800, 8900] X X81 := Frm.tr hFXd (Frm.mono hG82 (by first | exact nls_of rfl | decide))
                                        refine lv_goto (tgt := 265) hx hb dX9_like_252 (by decide) ?_
                                        refine lv_istore (lv' := [(11, .int (jI z78)), (9, .long (jL (X 56 0 ((5 * (Xc 86 0 (Xc 90 0 q))) + k)))), (7, .long (jL (X 56 0 ((5 * (Xc 90 0 q)) + k)))), (0, .ref (ad 40 0)), (1, .int (jI x)), (2, .int (jI y)), (3, .int (jI q)), (4, .int (jI (Xc 90 0 q))), (5, .int (jI (Xc 86 0 (Xc 90 0 q)))), (6, .int (jI k))]) hx hb dX9_like_265 hl (by decide) rfl (fun ls hl => ?_)
                                        refine lv_iload hx hb dX9_like_267 (lv_at hl 0 rfl) ?_
                                        refine x_if_ne (tgt := 274) hx hb (by omega) dX9_like_269 (by decide) (fun c83 => ?_) (fun c83 => ?_)
                                        · refine lv_iinc (v := jI (k + 1)) (lv' := [(6, .int (jI (k + 1))), (11, .int (jI z78)), (9, .long (jL (X 56 0 ((5 * (Xc 86 0 (Xc 90 0 q))) + k)))), (7, .long (jL (X 56 0 ((5 * (Xc 90 0 q)) + k)))), (0, .ref (ad 40 0)), (1, .int (jI x)), (2, .int (jI y)), (3, .int (jI q)), (4, .int (jI (Xc 90 0 q))), (5, .int (jI (Xc 86 0 (Xc 90 0 q))))]) hx hb dX9_like_274 hl (k := 9) rfl (jI_add _ _) (by decide) rfl (fun ls hl => ?_)
                                          refine lv_goto (tgt := 141) hx hb dX9_like_277 (by decide) ?_
                                          have q84 : Frm [8600, 8700, 9000, 4051, 8800, 8900] Xc Xd := Frm.tr Frm.rf (Frm.mono hGXd (by first | exact nls_of rfl | decide))
                                          have q85 : Frm [8600, 8700, 9000, 4051, 8800, 8900] Xc X81 := Frm.tr q84 (Frm.mono hG82 (by first | exact nls_of rfl | decide))
                                          exact ih141 (k + 1) X81 _ _ _ (by omega) hRX81 q85 (by omega) (hMIX81) (hQX81) hw hS (lv_sub hl [4, 5, 6, 7, 8, 9, 0] rfl)
                                        · refine lv_iconst (v := jI 0) hx hb dX9_like_272 rfl ?_
                                          rw [hQ9]
                                          refine ret_i (mc := 0) (ms := 0) hx hb hr hlocks hw hS (by first | exact Nat.le_of_ble_eq_true rfl | omega) (by first | exact Nat.le_of_ble_eq_true rfl | omega) dX9_like_273 ?_
                                          exact ⟨X81, rfl, hRX81, hFX81, hMIX81, by omega⟩
                                    · replace c60 := cz_geF gz59 c60
                                      clear gz59
                                      refine lv_lload hx hb dX9_like_212 (lv_at hl 1 rfl) ?_
                                      refine lv_lload hx hb dX9_like_214 (lv_at hl 0 rfl) ?_
                                      refine x_lcmp hx hb (by omega) (by omega) dX9_like_216 ?_
                                      obtain ⟨z86, ez86⟩ : ∃ y : Int, y = cmpZ (X 56 0 ((5 * (Xc 90 0 q)) + k)) (X 56 0 ((5 * (Xc 86 0 (Xc 90 0 q))) + k)) := ⟨_, rfl⟩
                                      rw [← ez86]
                                      have gz86 : (z86 < 0 ↔ ((X 56 0 ((5 * (Xc 90 0 q)) + k)) : Int) < (X 56 0 ((5 * (Xc 86 0 (Xc 90 0 q))) + k))) ∧ (z86 = 0 ↔ ((X 56 0 ((5 * (Xc 90 0 q)) + k)) : Int) = (X 56 0 ((5 * (Xc 86 0 (Xc 90 0 q))) + k))) ∧ -1 ≤ z86 ∧ z86 ≤ 1 := by rw [ez86]; exact ⟨cmpZ_lt, cmpZ_eq, (cmpZ_r _ _).1, (cmpZ_r _ _).2⟩
                                      clear ez86
                                      refine x_if_ne (tgt := 224) hx hb (by omega) dX9_like_217 (by decide) (fun c87 => ?_) (fun c87 => ?_)
                                      · replace c87 := cz_neT gz86 c87
                                        clear gz86
                                        refine lv_iconst (v := jI 0) hx hb dX9_like_224 rfl ?_
                                        refine lv_istore (lv' := [(11, .int (jI 0)), (9, .long (jL (X 56 0 ((5 * (Xc 86 0 (Xc 90 0 q))) + k)))), (7, .long (jL (X 56 0 ((5 * (Xc 90 0 q)) + k)))), (0, .ref (ad 40 0)), (1, .int (jI x)), (2, .int (jI y)), (3, .int (jI q)), (4, .int (jI (Xc 90 0 q))), (5, .int (jI (Xc 86 0 (Xc 90 0 q)))), (6, .int (jI k))]) hx hb dX9_like_225 hl (by decide) rfl (fun ls hl => ?_)
                                        refine lv_goto (tgt := 267) hx hb dX9_like_227 (by decide) ?_
                                        refine lv_iload hx hb dX9_like_267 (lv_at hl 0 rfl) ?_
                                        refine x_if_neF (tgt := 274) hx hb (by omega) (by decide) dX9_like_269 (by decide) ?_
                                        refine lv_iconst (v := jI 0) hx hb dX9_like_272 rfl ?_
                                        rw [hQ9]
                                        refine ret_i (mc := 0) (ms := 0) hx hb hr hlocks hw hS (by first | exact Nat.le_of_ble_eq_true rfl | omega) (by first | exact Nat.le_of_ble_eq_true rfl | omega) dX9_like_273 ?_
                                        exact ⟨Xd, rfl, hRXd, hFXd, hMIXd, by omega⟩
                                      · replace c87 := cz_neF gz86 c87
                                        clear gz86
                                        refine lv_iconst (v := jI 1) hx hb dX9_like_220 rfl ?_
                                        refine lv_goto (tgt := 225) hx hb dX9_like_221 (by decide) ?_
                                        refine lv_istore (lv' := [(11, .int (jI 1)), (9, .long (jL (X 56 0 ((5 * (Xc 86 0 (Xc 90 0 q))) + k)))), (7, .long (jL (X 56 0 ((5 * (Xc 90 0 q)) + k)))), (0, .ref (ad 40 0)), (1, .int (jI x)), (2, .int (jI y)), (3, .int (jI q)), (4, .int (jI (Xc 90 0 q))), (5, .int (jI (Xc 86 0 (Xc 90 0 q)))), (6, .int (jI k))]) hx hb dX9_like_225 hl (by decide) rfl (fun ls hl => ?_)
                                        refine lv_goto (tgt := 267) hx hb dX9_like_227 (by decide) ?_
                                        refine lv_iload hx hb dX9_like_267 (lv_at hl 0 rfl) ?_
                                        refine x_if_neT (tgt := 274) hx hb (by omega) (by decide) dX9_like_269 (by decide) ?_
                                        refine lv_iinc (v := jI (k + 1)) (lv' := [(6, .int (jI (k + 1))), (11, .int (jI 1)), (9, .long (jL (X 56 0 ((5 * (Xc 86 0 (Xc 90 0 q))) + k)))), (7, .long (jL (X 56 0 ((5 * (Xc 90 0 q)) + k)))), (0, .ref (ad 40 0)), (1, .int (jI x)), (2, .int (jI y)), (3, .int (jI q)), (4, .int (jI (Xc 90 0 q))), (5, .int (jI (Xc 86 0 (Xc 90 0 q))))]) hx hb dX9_like_274 hl (k := 9) rfl (jI_add _ _) (by decide) rfl (fun ls hl => ?_)
                                        refine lv_goto (tgt := 141) hx hb dX9_like_277 (by decide) ?_
                                        have q88 : Frm [8600, 8700, 9000, 4051, 8800, 8900] Xc Xd := Frm.tr Frm.rf (Frm.mono hGXd (by first | exact nls_of rfl | decide))
                                        exact ih141 (k + 1) Xd _ _ _ (by omega) hRXd q88 (by omega) (hMIXd) (hQd) hw hS (lv_sub hl [4, 5, 6, 7, 8, 9, 0] rfl)
                          exact lp141 (5 - 0 : Int).toNat.succ 0 Xc _ _ _ (by omega) hRXc Frm.rf (by omega) (hMIXc) (hQc) hw hS (lv_sub hl [3, 4, 5, 6, 2, 1, 0] rfl)
                        · refine lv_iconst (v := jI 0) hx hb dX9_like_136 rfl ?_
                          rw [hQ9]
                          refine ret_i (mc := 0) (ms := 0) hx hb hr hlocks hw hS (by first | exact Nat.le_of_ble_eq_true rfl | omega) (by first | exact Nat.le_of_ble_eq_true rfl | omega) dX9_like_137 ?_
                          exact ⟨Xc, rfl, hRXc, hFXc, hMIXc, by omega⟩
                  exact lp94 (30 - 0 : Int).toNat.succ 0 X22 _ _ _ (by omega) hRX22 Frm.rf (by omega) (hMIX22) (hQX22) hw hS (lv_sub hl [1, 2, 3, 0] rfl)
                · refine lv_aload_n hx hb dX9_like_60 rfl (lv_at hl 0 rfl) ?_
                  refine x_geto hx hb hf9 hw (by first | exact Int.le_refl 0 | omega) (by first | exact zlt hc40 | omega) sl_40_47 lk136 dX9_like_61 ?_
                  refine lv_iload_n hx hb dX9_like_64 rfl (lv_at hl 3 rfl) ?_
                  refine lv_iconst (v := jI (-1)) hx hb dX9_like_65 rfl ?_
                  refine x_iast hx hb hK.1 hw hS (by first | exact Int.le_refl 0 | omega) (by first | exact zlt hc88 | omega) ar_88 (len_E ar_88 (by first | exact Nat.ne_of_beq_eq_false rfl | decide)) (by omega) (by omega) (by omega) dX9_like_66 (fun H locs hw hS => ?_)
                  obtain ⟨X89, hX89⟩ : ∃ Xq, Xq = u3 Xb 88 0 k (-1) := ⟨_, rfl⟩
                  rw [← hX89] at hw
                  have hRX89 : Rng X89 := by rw [hX89]; exact rng_set hRXb (show (-1) ≤ (-1) ∧ (-1) ≤ 399 by omega)
                  have hVX89 : X89 88 0 k = (-1) := by rw [hX89]; exact u3_s _ _ _ _ _
                  have hFX89 : Frm [4001, 8600, 8700, 9000, 4051, 8800, 8900] X X89 := by rw [hX89]; exact Frm.set hFXb (show 8800 ∈ [4001, 8600, 8700, 9000, 4051, 8800, 8900] by first | exact nlm_in rfl | decide)
                  refine lv_aload_n hx hb dX9_like_67 rfl (lv_at hl 0 rfl) ?_
                  refine x_geto hx hb hf9 hw (by first | exact Int.le_refl 0 | omega) (by first | exact zlt hc40 | omega) sl_40_48 lk139 dX9_like_68 ?_
                  refine lv_iload_n hx hb dX9_like_71 rfl (lv_at hl 3 rfl) ?_
                  refine lv_iconst (v := jI (-1)) hx hb dX9_like_72 rfl ?_
                  refine x_iast hx hb hK.1 hw hS (by first | exact Int.le_refl 0 | omega) (by first | exact zlt hc89 | omega) ar_89 (len_E ar_89 (by first | exact Nat.ne_of_beq_eq_false rfl | decide)) (by omega) (by omega) (by omega) dX9_like_73 (fun H locs hw hS => ?_)
                  obtain ⟨X90, hX90⟩ : ∃ Xq, Xq = u3 X89 89 0 k (-1) := ⟨_, rfl⟩
                  rw [← hX90] at hw
                  have hRX90 : Rng X90 := by rw [hX90]; exact rng_set hRX89 (show (-1) ≤ (-1) ∧ (-1) ≤ 399 by omega)
                  have hVX90 : X90 89 0 k = (-1) := by rw [hX90]; exact u3_s _ _ _ _ _
                  have hFX90 : Frm [4001, 8600, 8700, 9000, 4051, 8800, 8900] X X90 := by rw [hX90]; exact Frm.set hFX89 (show 8900 ∈ [4001, 8600, 8700, 9000, 4051, 8800, 8900] by first | exact nlm_in rfl | decide)
                  refine lv_iinc (v := jI (k + 1)) (lv' := [(3, .int (jI (k + 1))), (0, .ref (ad 40 0)), (1, .int (jI x)), (2, .int (jI y))]) hx hb dX9_like_74 hl (k := 3) rfl (jI_add _ _) (by decide) rfl (fun ls hl => ?_)
                  refine lv_goto (tgt := 53) hx hb dX9_like_77 (by decide) ?_
                  have q91 : Frm [8800, 8900] Xa Xb := Frm.tr Frm.rf (Frm.mono hGXb (by first | exact nls_of rfl | decide))
                  have q92 : Frm [8800, 8900] Xa X89 := by rw [hX89]; exact Frm.set q91 (show 8800 ∈ [8800, 8900] by first | exact nlm_in rfl | decide)
                  have q93 : Frm [8800, 8900] Xa X90 := by rw [hX90]; exact Frm.set q92 (show 8900 ∈ [8800, 8900] by first | exact nlm_in rfl | decide)
                  exact ih53 (k + 1) X90 _ _ _ (by omega) hRX90 q93 (by omega) hw hS (lv_sub hl [1, 2, 3, 0] rfl)
            exact lp53 (400 - 0 : Int).toNat.succ 0 Xa _ _ _ (by omega) hRXa Frm.rf (by omega) hw hS (lv_sub hl [1, 2, 3, 0] rfl)
          · refine lv_aload_n hx hb dX9_like_31 rfl (lv_at hl 0 rfl) ?_
            refine x_geto hx hb hf9 hw (by first | exact Int.le_refl 0 | omega) (by first | exact zlt hc40 | omega) sl_40_45 lk130 dX9_like_32 ?_
            refine lv_iload_n hx hb dX9_like_35 rfl (lv_at hl 3 rfl) ?_
            refine lv_iconst (v := jI (-1)) hx hb dX9_like_36 rfl ?_
            refine x_iast hx hb hK.1 hw hS (by first | exact Int.le_refl 0 | omega) (by first | exact zlt hc86 | omega) ar_86 (len_E ar_86 (by first | exact Nat.ne_of_beq_eq_false rfl | decide)) (by omega) (by omega) (by omega) dX9_like_37 (fun H locs hw hS => ?_)
            obtain ⟨X94, hX94⟩ : ∃ Xq, Xq = u3 Xa 86 0 k (-1) := ⟨_, rfl⟩
            rw [← hX94] at hw
            have hRX94 : Rng X94 := by rw [hX94]; exact rng_set hRXa (show (-1) ≤ (-1) ∧ (-1) ≤ 29 by omega)
            have hVX94 : X94 86 0 k = (-1) := by rw [hX94]; exact u3_s _ _ _ _ _
            have hFX94 : Frm [4001, 8600, 8700, 9000, 4051, 8800, 8900] X X94 := by rw [hX94]; exact Frm.set hFXa (show 8600 ∈ [4001, 8600, 8700, 9000, 4051, 8800, 8900] by first | exact nlm_in rfl | decide)
            refine lv_aload_n hx hb dX9_like_38 rfl (lv_at hl 0 rfl) ?_
            refine x_geto hx hb hf9 hw (by first | exact Int.le_refl 0 | omega) (by first | exact zlt hc40 | omega) sl_40_46 lk133 dX9_like_39 ?_
            refine lv_iload_n hx hb dX9_like_42 rfl (lv_at hl 3 rfl) ?_
            refine lv_iconst (v := jI (-1)) hx hb dX9_like_43 rfl ?_
            refine x_iast hx hb hK.1 hw hS (by first | exact Int.le_refl 0 | omega) (by first | exact zlt hc87 | omega) ar_87 (len_E ar_87 (by first | exact Nat.ne_of_beq_eq_false rfl | decide)) (by omega) (by omega) (by omega) dX9_like_44 (fun H locs hw hS => ?_)
            obtain ⟨X95, hX95⟩ : ∃ Xq, Xq = u3 X94 87 0 k (-1) := ⟨_, rfl⟩
            rw [← hX95] at hw
            have hRX95 : Rng X95 := by rw [hX95]; exact rng_set hRX94 (show (-1) ≤ (-1) ∧ (-1) ≤ 29 by omega)
            have hVX95 : X95 87 0 k = (-1) := by rw [hX95]; exact u3_s _ _ _ _ _
            have hFX95 : Frm [4001, 8600, 8700, 9000, 4051, 8800, 8900] X X95 := by rw [hX95]; exact Frm.set hFX94 (show 8700 ∈ [4001, 8600, 8700, 9000, 4051, 8800, 8900] by first | exact nlm_in rfl | decide)
            refine lv_iinc (v := jI (k + 1)) (lv' := [(3, .int (jI (k + 1))), (0, .ref (ad 40 0)), (1, .int (jI x)), (2, .int (jI y))]) hx hb dX9_like_45 hl (k := 3) rfl (jI_add _ _) (by decide) rfl (fun ls hl => ?_)
            refine lv_goto (tgt := 25) hx hb dX9_like_48 (by decide) ?_
            have q96 : Frm [8600, 8700] X1 Xa := Frm.tr Frm.rf (Frm.mono hGXa (by first | exact nls_of rfl | decide))
            have q97 : Frm [8600, 8700] X1 X94 := by rw [hX94]; exact Frm.set q96 (show 8600 ∈ [8600, 8700] by first | exact nlm_in rfl | decide)
            have q98 : Frm [8600, 8700] X1 X95 := by rw [hX95]; exact Frm.set q97 (show 8700 ∈ [8600, 8700] by first | exact nlm_in rfl | decide)
            exact ih25 (k + 1) X95 _ _ _ (by omega) hRX95 q98 (by omega) hw hS (lv_sub hl [1, 2, 3, 0] rfl)
      exact lp25 (30 - 0 : Int).toNat.succ 0 X1 _ _ _ (by omega) hRX1 Frm.rf (by omega) hw hS (lv_sub hl [1, 2, 3, 0] rfl)
    · subst ez6
      refine x_if_neF (tgt := 23) hx hb (by omega) (by decide) dX9_like_18 (by decide) ?_
      refine lv_iconst (v := jI (-1)) hx hb dX9_like_21 rfl ?_
      rw [hQ9]
      refine ret_i (mc := 0) (ms := 0) hx hb hr hlocks hw hS (by first | exact Nat.le_of_ble_eq_true rfl | omega) (by first | exact Nat.le_of_ble_eq_true rfl | omega) dX9_like_22 ?_
      have q100 : Frm [4001] X X1 := by rw [hX1]; exact Frm.set Frm.rf (show 4001 ∈ [4001] by first | exact nlm_in rfl | decide)
      have hMq99 : MInv X1 := minv_frm hMI q100 (by decide)
      exact ⟨X1, rfl, hRX1, hFX1, hMq99, by omega⟩
  · subst ez2
    refine x_if_eqT (tgt := 21) hx hb (by omega) (by decide) dX9_like_10 (by decide) ?_
    refine lv_iconst (v := jI (-1)) hx hb dX9_like_21 rfl ?_
    rw [hQ9]
    refine ret_i (mc := 0) (ms := 0) hx hb hr hlocks hw hS (by first | exact Nat.le_of_ble_eq_true rfl | omega) (by first | exact Nat.le_of_ble_eq_true rfl | omega) dX9_like_22 ?_
    have q102 : Frm [4001] X X1 := by rw [hX1]; exact Frm.set Frm.rf (show 4001 ∈ [4001] by first | exact nlm_in rfl | decide)
    have hMq101 : MInv X1 := minv_frm hMI q102 (by decide)
    exact ⟨X1, rfl, hRX1, hFX1, hMq101, by omega⟩
end
section
set_option maxHeartbeats 4000000 in
set_option maxRecDepth 100000 in
theorem c_X9_undo (l : Launch) (D : va_G) (tc : Nat → ClassId) (base : Nat) (ad : Nat → Int → Nat) (cnt : Nat → Int) (X : Nat → Int → Int → Int) (Y : Nat → Int → Int → Option Int) (ln : Int → Int) (hR : Rng X) (hFx : Fx cnt) (hMI : MInv X)  : KI l D tc base yX9_undo wsX9_undo ({ frames := 0, cells := 0, slots := 0, locals := 0 } : Room) [.ref (ad 40 0)] (ad, cnt, X, Y, ln) 0 0 (fun z u => ∃ X1 : Nat → Int → Int → Int, u = (ad, cnt, X1, Y, ln) ∧ Rng X1 ∧ Frm [4001, 4021, 4023, 5600, 5900] X X1 ∧ MInv X1 ∧ (-2147483648 ≤ z ∧ z ≤ 2147483647) ∧ ((X 40 0 20 = 0 ∧ X1 40 0 20 = 0) ∨ (1 ≤ X 40 0 20 ∧ X1 40 0 20 = X 40 0 20 - 1)) ∧ (X 40 0 20 = 0 → Frm [4001] X X1 ∧ z = -3) ∧ (1 ≤ X 40 0 20 → ∃ V : Nat → Int → Int → Int, Frm [4001, 4021] X V ∧ V 40 0 20 = X 40 0 20 - 1 ∧ X1 40 0 22 ≤ X 62 0 (X 40 0 20 - 1) ∧ (X1 40 0 22 = X 40 0 22 ∨ X 62 0 (X 40 0 20 - 1) ≤ X1 40 0 22) ∧ z = X 40 0 22 - X 62 0 (X 40 0 20 - 1) ∧ uTrM (X 40 0 22) ((X 40 0 22 - X1 40 0 22).toNat) V X1)) := by
  refine K_of (cc := cX9_undo) (maxL := 2) (ret := (some .int)) (by decide) rfl (Nat.le_of_ble_eq_true rfl) ?_
  intro p e s m below meth c ls hx hb hr hml hown hts hlocks hl hK hw hS
  have hown : s.vm.findClass RX9 = some m.cls := hown
  obtain ⟨av9, hav9⟩ : ∃ a9 : Array Value, a9 = ([.ref (ad 40 0)] : List Value).toArray := ⟨_, rfl⟩
  rw [← hav9] at hts ⊢
  obtain ⟨Q9, hQ9⟩ : ∃ q9Q : State → Prop, q9Q = MQ below (QI D tc base (fun z u => ∃ X1 : Nat → Int → Int → Int, u = (ad, cnt, X1, Y, ln) ∧ Rng X1 ∧ Frm [4001, 4021, 4023, 5600, 5900] X X1 ∧ MInv X1 ∧ (-2147483648 ≤ z ∧ z ≤ 2147483647) ∧ ((X 40 0 20 = 0 ∧ X1 40 0 20 = 0) ∨ (1 ≤ X 40 0 20 ∧ X1 40 0 20 = X 40 0 20 - 1)) ∧ (X 40 0 20 = 0 → Frm [4001] X X1 ∧ z = -3) ∧ (1 ≤ X 40 0 20 → ∃ V : Nat → Int → Int → Int, Frm [4001, 4021] X V ∧ V 40 0 20 = X 40 0 20 - 1 ∧ X1 40 0 22 ≤ X 62 0 (X 40 0 20 - 1) ∧ (X1 40 0 22 = X 40 0 22 ∨ X 62 0 (X 40 0 20 - 1) ≤ X1 40 0 22) ∧ z = X 40 0 22 - X 62 0 (X 40 0 20 - 1) ∧ uTrM (X 40 0 22) ((X 40 0 22 - X1 40 0 22).toNat) V X1))) av9 s 0 0 (frA base) := ⟨_, rfl⟩
  rw [← hQ9]
  have hi9 : ∀ w ∈ wsX90, w ∈ wsX9_undo := fun w h => List.mem_cons_of_mem _ (List.mem_append_right _ h)
  have hf9 : fctx s m _ RX9 wsX9_undo D tc RX9 TX9 51 9 := ⟨hts, hi9, hown, hK.1, rfl⟩
  have lk48 := hts (.fieldLink RX9 48 (TX9 15).1 (TX9 15).2.1 (TX9 15).2.2.1) (gj_X9_undo_0 _ (gp_4 (gp_1 gp_h)))
  have lk57 := hts (.fieldLink RX9 57 (TX9 18).1 (TX9 18).2.1 (TX9 18).2.2.1) (gj_X9_undo_0 _ (gp_4 (gp_4 (gp_1 gp_h))))
  have lk63 := hts (.fieldLink RX9 63 (TX9 21).1 (TX9 21).2.1 (TX9 21).2.2.1) (gj_X9_undo_0 _ (gp_1 (gp_1 (gp_1 gp_h))))
  have lk66 := hts (.fieldLink RX9 66 (TX9 23).1 (TX9 23).2.1 (TX9 23).2.2.1) (gj_X9_undo_0 _ (gp_4 (gp_1 (gp_1 gp_h))))
  have lk69 := hts (.fieldLink RX9 69 (TX9 24).1 (TX9 24).2.1 (TX9 24).2.2.1) (gj_X9_undo_0 _ (gp_4 (gp_1 (gp_1 (gp_1 gp_h)))))
  have lk72 := hts (.fieldLink RX9 72 (TX9 25).1 (TX9 25).2.1 (TX9 25).2.2.1) (gj_X9_undo_0 _ (gp_4 (gp_4 (gp_1 (gp_1 gp_h)))))
  have lk75 := hts (.fieldLink RX9 75 (TX9 26).1 (TX9 26).2.1 (TX9 26).2.2.1) (gj_X9_undo_0 _ (gp_4 gp_h))
  have lk78 := hts (.fieldLink RX9 78 (TX9 27).1 (TX9 27).2.1 (TX9 27).2.2.1) (gj_X9_undo_0 _ (gp_4 (gp_4 gp_h)))
  have lk145 := hts (.fieldLink RX9 145 (TX9 0).1 (TX9 0).2.1 (TX9 0).2.2.1) (gj_X9_undo_0 _ (gp_h))
  have lk165 := hts (.fieldLink RX9 165 (TX9 20).1 (TX9 20).2.1 (TX9 20).2.2.1) (gj_X9_undo_0 _ (gp_1 gp_h))
  have lk173 := hts (.fieldLink RX9 173 (TX9 22).1 (TX9 22).2.1 (TX9 22).2.2.1) (gj_X9_undo_0 _ (gp_1 (gp_1 gp_h)))
  have hc40 : cnt 40 = 1 := hFx.at 40 1 (by decide)
  have hc56 : cnt 56 = 1 := hFx.at 56 1 (by decide)
  have hc59 : cnt 59 = 1 := hFx.at 59 1 (by decide)
  have hc62 : cnt 62 = 1 := hFx.at 62 1 (by decide)
  have hc64 : cnt 64 = 1 := hFx.at 64 1 (by decide)
  have hc65 : cnt 65 = 1 := hFx.at 65 1 (by decide)
  have hc66 : cnt 66 = 1 := hFx.at 66 1 (by decide)
  have hc67 : cnt 67 = 1 := hFx.at 67 1 (by decide)
  have hc68 : cnt 68 = 1 := hFx.at 68 1 (by decide)
  have hl : lv_has ls 2 [(0, .ref (ad 40 0))] := hl
  have fstypes : 0 ≤ X 40 0 2 ∧ X 40 0 2 ≤ 8 := hR 40 0 2
  have fsthings : 0 ≤ X 40 0 13 ∧ X 40 0 13 ≤ 30 := hR 40 0 13
  have fsmarks : 0 ≤ X 40 0 20 ∧ X 40 0 20 ≤ 4 := hR 40 0 20
  have fsnotes : 0 ≤ X 40 0 22 ∧ X 40 0 22 ≤ 80 := hR 40 0 22
  refine lv_aload_n hx hb dX9_undo_0 rfl (lv_at hl 0 rfl) ?_
  refine lv_iconst (v := jI 0) hx hb dX9_undo_1 rfl ?_
  refine x_puti (jz := 0) hx hb hf9 ⟨tyX9_ok, nmX9⟩ hw hS (by first | exact Int.le_refl 0 | omega) (by first | exact zlt hc40 | omega) sl_40_0 rfl lk145 rfl (tyX9_ok 0 (by decide)) rfl rfl dX9_undo_2 (fun H locs hw hS => ?_)
  obtain ⟨X1, hX1⟩ : ∃ Xq, Xq = u3 X 40 0 0 0 := ⟨_, rfl⟩
  rw [← hX1] at hw
  have hRX1 : Rng X1 := by rw [hX1]; exact rng_set hR (show (-2147483648) ≤ 0 ∧ 0 ≤ 2147483647 by omega)
  have hVX1 : X1 40 0 0 = 0 := by rw [hX1]; exact u3_s _ _ _ _ _
  have hFX1 : Frm [4001, 4021, 4023, 5600, 5900] X X1 := by rw [hX1]; exact Frm.set Frm.rf (show 4001 ∈ [4001, 4021, 4023, 5600, 5900] by first | exact nlm_in rfl | decide)
  refine lv_aload_n hx hb dX9_undo_5 rfl (lv_at hl 0 rfl) ?_
  refine x_geti (jz := 20) hx hb hf9 hw (by first | exact Int.le_refl 0 | omega) (by first | exact zlt hc40 | omega) sl_40_20 rfl lk165 dX9_undo_6 ?_
  have e2 : X1 40 0 20 = X 40 0 20 := by rw [hX1, u3_j _ _ _ _ (by decide)]
  rw [e2]
  have f3 : 0 ≤ X 40 0 20 ∧ X 40 0 20 ≤ 4 := hR 40 0 20
  refine x_if_ne (tgt := 15) hx hb (by omega) dX9_undo_9 (by decide) (fun c4 => ?_) (fun c4 => ?_)
  · refine lv_aload_n hx hb dX9_undo_15 rfl (lv_at hl 0 rfl) ?_
    refine lv_dup hx hb dX9_undo_16 rfl ?_
    refine x_geti (jz := 20) hx hb hf9 hw (by first | exact Int.le_refl 0 | omega) (by first | exact zlt hc40 | omega) sl_40_20 rfl lk165 dX9_undo_17 ?_
    have e5 : X1 40 0 20 = X 40 0 20 := by rw [hX1, u3_j _ _ _ _ (by decide)]
    rw [e5]
    have f6 : 0 ≤ X 40 0 20 ∧ X 40 0 20 ≤ 4 := hR 40 0 20
    refine lv_iconst (v := jI 1) hx hb dX9_undo_20 rfl ?_
    refine x_isub hx hb dX9_undo_21 ?_
    refine x_puti (jz := 20) hx hb hf9 ⟨tyX9_ok, nmX9⟩ hw hS (by first | exact Int.le_refl 0 | omega) (by first | exact zlt hc40 | omega) sl_40_20 rfl lk165 rfl (tyX9_ok 20 (by decide)) rfl rfl dX9_undo_22 (fun H locs hw hS => ?_)
    obtain ⟨X7, hX7⟩ : ∃ Xq, Xq = u3 X1 40 0 20 ((X 40 0 20) - 1) := ⟨_, rfl⟩
    rw [← hX7] at hw
    have hRX7 : Rng X7 := by rw [hX7]; exact rng_set hRX1 (show 0 ≤ ((X 40 0 20) - 1) ∧ ((X 40 0 20) - 1) ≤ 4 by omega)
    have hVX7 : X7 40 0 20 = ((X 40 0 20) - 1) := by rw [hX7]; exact u3_s _ _ _ _ _
    have hFX7 : Frm [4001, 4021, 4023, 5600, 5900] X X7 := by rw [hX7]; exact Frm.set hFX1 (show 4021 ∈ [4001, 4021, 4023, 5600, 5900] by first | exact nlm_in rfl | decide)
    refine lv_aload_n hx hb dX9_undo_25 rfl (lv_at hl 0 rfl) ?_
    refine x_geti (jz := 22) hx hb hf9 hw (by first | exact Int.le_refl 0 | omega) (by first | exact zlt hc40 | omega) sl_40_22 rfl lk173 dX9_undo_26 ?_
    have e8 : X7 40 0 22 = X 40 0 22 := by rw [hX7, u3_j _ _ _ _ (by decide), hX1, u3_j _ _ _ _ (by decide)]
    rw [e8]
    have f9 : 0 ≤ X 40 0 22 ∧ X 40 0 22 ≤ 80 := hR 40 0 22
    refine lv_aload_n hx hb dX9_undo_29 rfl (lv_at hl 0 rfl) ?_
    refine x_geto hx hb hf9 hw (by first | exact Int.le_refl 0 | omega) (by first | exact zlt hc40 | omega) sl_40_21 lk63 dX9_undo_30 ?_
    refine lv_aload_n hx hb dX9_undo_33 rfl (lv_at hl 0 rfl) ?_
    refine x_geti (jz := 20) hx hb hf9 hw (by first | exact Int.le_refl 0 | omega) (by first | exact zlt hc40 | omega) sl_40_20 rfl lk165 dX9_undo_34 ?_
    rw [hVX7]
    refine x_iald hx hb hK.1 hw (by first | exact Int.le_refl 0 | omega) (by first | exact zlt hc62 | omega) ar_62 (len_E ar_62 (by first | exact Nat.ne_of_beq_eq_false rfl | decide)) (by omega) (by omega) (by omega) dX9_undo_37 ?_
    have e10 : ∀ p9 q9 : Int, X7 62 p9 q9 = X 62 p9 q9 := fun p9 q9 => by rw [hX7, u3_k _ _ _ _ (by first | exact Nat.ne_of_beq_eq_false rfl | decide), hX1, u3_k _ _ _ _ (by first | exact Nat.ne_of_beq_eq_false rfl | decide)]
    rw [e10 0 ((X 40 0 20) - 1)]
    have f11 : 0 ≤ X 62 0 ((X 40 0 20) - 1) ∧ X 62 0 ((X 40 0 20) - 1) ≤ 80 := hR 62 0 ((X 40 0 20) - 1)
    refine x_isub hx hb dX9_undo_38 ?_
    refine lv_istore_n (lv' := [(1, .int (jI ((X 40 0 22) - (X 62 0 ((X 40 0 20) - 1))))), (0, .ref (ad 40 0))]) hx hb dX9_undo_39 rfl hl (by decide) rfl (fun ls hl => ?_)
    have lp40 : ∀ (nn : Nat)  (Xa : Nat → Int → Int → Int) (H : Heap) (locs : List Loc) (ls : Array Slot), (Xa 40 0 22) < (nn : Int) → (Rng Xa) → (Frm [4023, 5600, 5900] X7 Xa) → (MInv5 Xa) → (uTrM (X 40 0 22) ((X 40 0 22 - Xa 40 0 22).toNat) X7 Xa) → (Xa 40 0 22 ≤ X 40 0 22 ∧ (Xa 40 0 22 = X 40 0 22 ∨ X 62 0 (X 40 0 20 - 1) ≤ Xa 40 0 22)) → wd D tc base (ad, cnt, Xa, Y, ln) H → va_S (frA base) s.heap H locs → lv_has ls 2 [(0, .ref (ad 40 0)), (1, .int (jI ((X 40 0 22) - (X 62 0 ((X 40 0 20) - 1)))))] → W p l e ({ frames := 0, cells := 0, slots := 0, locals := 0 } : Room) s m av9 below meth c H locs 0 0 Q9 (F0 m 40 ls []) := by
      intro nn
      induction nn with
      | zero => intro  Xa H locs ls hm hRXa hGXa hM5 hTr hle hw hS hl; have h9 : 0 ≤ Xa 40 0 22 ∧ Xa 40 0 22 ≤ 80 := hRXa 40 0 22; exfalso; omega
      | succ nn ih40 =>
        intro  Xa H locs ls hm hRXa hGXa hM5 hTr hle hw hS hl
        have hFXa : Frm [4001, 4021, 4023, 5600, 5900] X Xa := Frm.tr hFX7 (Frm.mono hGXa (by first | exact nls_of rfl | decide))
        have e12 : ∀ j : Int, Xa 67 0 j = X 67 0 j := fun j => by rw [hGXa 67 0 j (show 6700 ∉ [4023, 5600, 5900] by first | exact nlm_ni rfl | decide), hX7, u3_k _ _ _ _ (by first | exact Nat.ne_of_beq_eq_false rfl | decide), hX1, u3_k _ _ _ _ (by first | exact Nat.ne_of_beq_eq_false rfl | decide)]
        have e13 : ∀ j : Int, Xa 64 0 j = X 64 0 j := fun j => by rw [hGXa 64 0 j (show 6400 ∉ [4023, 5600, 5900] by first | exact nlm_ni rfl | decide), hX7, u3_k _ _ _ _ (by first | exact Nat.ne_of_beq_eq_false rfl | decide), hX1, u3_k _ _ _ _ (by first | exact Nat.ne_of_beq_eq_false rfl | decide)]
        have e14 : ∀ j : Int, Xa 65 0 j = X 65 0 j := fun j => by rw [hGXa 65 0 j (show 6500 ∉ [4023, 5600, 5900] by first | exact nlm_ni rfl | decide), hX7, u3_k _ _ _ _ (by first | exact Nat.ne_of_beq_eq_false rfl | decide), hX1, u3_k _ _ _ _ (by first | exact Nat.ne_of_beq_eq_false rfl | decide)]
        have e15 : ∀ j : Int, Xa 66 0 j = X 66 0 j := fun j => by rw [hGXa 66 0 j (show 6600 ∉ [4023, 5600, 5900] by first | exact nlm_ni rfl | decide), hX7, u3_k _ _ _ _ (by first | exact Nat.ne_of_beq_eq_false rfl | decide), hX1, u3_k _ _ _ _ (by first | exact Nat.ne_of_beq_eq_false rfl | decide)]
        have e16 : ∀ j : Int, Xa 68 0 j = X 68 0 j := fun j => by rw [hGXa 68 0 j (show 6800 ∉ [4023, 5600, 5900] by first | exact nlm_ni rfl | decide), hX7, u3_k _ _ _ _ (by first | exact Nat.ne_of_beq_eq_false rfl | decide), hX1, u3_k _ _ _ _ (by first | exact Nat.ne_of_beq_eq_false rfl | decide)]
        have e17 : ∀ j : Int, Xa 44 0 j = X 44 0 j := fun j => by rw [hGXa 44 0 j (show 4400 ∉ [4023, 5600, 5900] by first | exact nlm_ni rfl | decide), hX7, u3_k _ _ _ _ (by first | exact Nat.ne_of_beq_eq_false rfl | decide), hX1, u3_k _ _ _ _ (by first | exact Nat.ne_of_beq_eq_false rfl | decide)]
        have e18 : ∀ j : Int, Xa 55 0 j = X 55 0 j := fun j => by rw [hGXa 55 0 j (show 5500 ∉ [4023, 5600, 5900] by first | exact nlm_ni rfl | decide), hX7, u3_k _ _ _ _ (by first | exact Nat.ne_of_beq_eq_false rfl | decide), hX1, u3_k _ _ _ _ (by first | exact Nat.ne_of_beq_eq_false rfl | decide)]
        have e19 : ∀ j : Int, Xa 46 0 j = X 46 0 j := fun j => by rw [hGXa 46 0 j (show 4600 ∉ [4023, 5600, 5900] by first | exact nlm_ni rfl | decide), hX7, u3_k _ _ _ _ (by first | exact Nat.ne_of_beq_eq_false rfl | decide), hX1, u3_k _ _ _ _ (by first | exact Nat.ne_of_beq_eq_false rfl | decide)]
        have e20 : Xa 40 0 13 = X 40 0 13 := by rw [hGXa 40 0 13 (show 4014 ∉ [4023, 5600, 5900] by first | exact nlm_ni rfl | decide), hX7, u3_j _ _ _ _ (by decide), hX1, u3_j _ _ _ _ (by decide)]
        have hD5 := hM5.2.2.2.1
        unfold mD at hD5
        simp only [e12, e13, e14, e15, e16, e17, e18, e19, e20] at hD5
        have hN5 : 0 ≤ Xa 40 0 22 ∧ Xa 40 0 22 ≤ 80 := hRXa 40 0 22
        refine lv_aload_n hx hb dX9_undo_40 rfl (lv_at hl 0 rfl) ?_
        refine x_geti (jz := 22) hx hb hf9 hw (by first | exact Int.le_refl 0 | omega) (by first | exact zlt hc40 | omega) sl_40_22 rfl lk173 dX9_undo_41 ?_
        have f21 : 0 ≤ Xa 40 0 22 ∧ Xa 40 0 22 ≤ 80 := hRXa 40 0 22
        refine lv_aload_n hx hb dX9_undo_44 rfl (lv_at hl 0 rfl) ?_
        refine x_geto hx hb hf9 hw (by first | exact Int.le_refl 0 | omega) (by first | exact zlt hc40 | omega) sl_40_21 lk63 dX9_undo_45 ?_
        refine lv_aload_n hx hb dX9_undo_48 rfl (lv_at hl 0 rfl) ?_
        refine x_geti (jz := 20) hx hb hf9 hw (by first | exact Int.le_refl 0 | omega) (by first | exact zlt hc40 | omega) sl_40_20 rfl lk165 dX9_undo_49 ?_
        have e22 : Xa 40 0 20 = X7 40 0 20 := by rw [hGXa 40 0 20 (show 4021 ∉ [4023, 5600, 5900] by first | exact nlm_ni rfl | decide)]
        rw [e22]
        rw [hVX7]
        refine x_iald hx hb hK.1 hw (by first | exact Int.le_refl 0 | omega) (by first | exact zlt hc62 | omega) ar_62 (len_E ar_62 (by first | exact Nat.ne_of_beq_eq_false rfl | decide)) (by omega) (by omega) (by omega) dX9_undo_52 ?_
        have e23 : ∀ p9 q9 : Int, Xa 62 p9 q9 = X 62 p9 q9 := fun p9 q9 => by rw [hGXa 62 p9 q9 (show 6200 ∉ [4023, 5600, 5900] by first | exact nlm_ni rfl | decide), hX7, u3_k _ _ _ _ (by first | exact Nat.ne_of_beq_eq_false rfl | decide), hX1, u3_k _ _ _ _ (by first | exact Nat.ne_of_beq_eq_false rfl | decide)]
        rw [e23 0 ((X 40 0 20) - 1)]
        have f24 : 0 ≤ X 62 0 ((X 40 0 20) - 1) ∧ X 62 0 ((X 40 0 20) - 1) ≤ 80 := hR 62 0 ((X 40 0 20) - 1)
        refine x_icmp_le (tgt := 155) hx hb (by omega) (by omega) dX9_undo_53 (by decide) (fun c25 => ?_) (fun c25 => ?_)
        · refine lv_iload_n hx hb dX9_undo_155 rfl (lv_at hl 1 rfl) ?_
          rw [hQ9]
          refine ret_i (mc := 0) (ms := 0) hx hb hr hlocks hw hS (by first | exact Nat.le_of_ble_eq_true rfl | omega) (by first | exact Nat.le_of_ble_eq_true rfl | omega) dX9_undo_156 ?_
          have q26 : Frm [4001, 4021] X X1 := by rw [hX1]; exact Frm.set Frm.rf (show 4001 ∈ [4001, 4021] by first | exact nlm_in rfl | decide)
          have q27 : Frm [4001, 4021] X X7 := by rw [hX7]; exact Frm.set q26 (show 4021 ∈ [4001, 4021] by first | exact nlm_in rfl | decide)
          have e28 : Xa 40 0 20 = ((X 40 0 20) - 1) := (by rw [hGXa 40 0 20 (show 4021 ∉ [4023, 5600, 5900] by first | exact nlm_ni rfl | decide)]; exact hVX7)
          exact ⟨Xa, rfl, hRXa, hFXa, minv_undo_end (m := X 40 0 20 - 1) hMI hM5 (by rw [hGXa 40 0 20 (show 4021 ∉ [4023, 5600, 5900] by first | exact nlm_ni rfl | decide)]; exact hVX7) (by omega) (by omega) (fun j => (by rw [hGXa 62 0 j (show 6200 ∉ [4023, 5600, 5900] by first | exact nlm_ni rfl | decide), hX7, u3_k _ _ _ _ (by first | exact Nat.ne_of_beq_eq_false rfl | decide), hX1, u3_k _ _ _ _ (by first | exact Nat.ne_of_beq_eq_false rfl | decide)])) (by omega) (by omega), by omega, (by (try delta Hid at *); omega), fun q => (by exfalso; omega), fun _ => ⟨X7, q27, (by exact hVX7), by omega, by omega, by omega, hTr⟩⟩
        · refine lv_aload_n hx hb dX9_undo_56 rfl (lv_at hl 0 rfl) ?_
          refine lv_dup hx hb dX9_undo_57 rfl ?_
          refine x_geti (jz := 22) hx hb hf9 hw (by first | exact Int.le_refl 0 | omega) (by first | exact zlt hc40 | omega) sl_40_22 rfl lk173 dX9_undo_58 ?_
          have f29 : 0 ≤ Xa 40 0 22 ∧ Xa 40 0 22 ≤ 80 := hRXa 40 0 22
          refine lv_iconst (v := jI 1) hx hb dX9_undo_61 rfl ?_
          refine x_isub hx hb dX9_undo_62 ?_
          refine x_puti (jz := 22) hx hb hf9 ⟨tyX9_ok, nmX9⟩ hw hS (by first | exact Int.le_refl 0 | omega) (by first | exact zlt hc40 | omega) sl_40_22 rfl lk173 rfl (tyX9_ok 22 (by decide)) rfl rfl dX9_undo_63 (fun H locs hw hS => ?_)
          obtain ⟨X30, hX30⟩ : ∃ Xq, Xq = u3 Xa 40 0 22 ((Xa 40 0 22) - 1) := ⟨_, rfl⟩
          rw [← hX30] at hw
          have hRX30 : Rng X30 := by rw [hX30]; exact rng_set hRXa (show 0 ≤ ((Xa 40 0 22) - 1) ∧ ((Xa 40 0 22) - 1) ≤ 80 by omega)
          have hVX30 : X30 40 0 22 = ((Xa 40 0 22) - 1) := by rw [hX30]; exact u3_s _ _ _ _ _
          have hFX30 : Frm [4001, 4021, 4023, 5600, 5900] X X30 := by rw [hX30]; exact Frm.set hFXa (show 4023 ∈ [4001, 4021, 4023, 5600, 5900] by first | exact nlm_in rfl | decide)
          have hD6 := hD5 (Xa 40 0 22 - 1) (by omega) (by omega)
          refine lv_aload_n hx hb dX9_undo_66 rfl (lv_at hl 0 rfl) ?_
          refine x_geto hx hb hf9 hw (by first | exact Int.le_refl 0 | omega) (by first | exact zlt hc40 | omega) sl_40_26 lk75 dX9_undo_67 ?_
          refine lv_aload_n hx hb dX9_undo_70 rfl (lv_at hl 0 rfl) ?_
          refine x_geti (jz := 22) hx hb hf9 hw (by first | exact Int.le_refl 0 | omega) (by first | exact zlt hc40 | omega) sl_40_22 rfl lk173 dX9_undo_71 ?_
          rw [hVX30]
          refine x_iald hx hb hK.1 hw (by first | exact Int.le_refl 0 | omega) (by first | exact zlt hc67 | omega) ar_67 (len_E ar_67 (by first | exact Nat.ne_of_beq_eq_false rfl | decide)) (by omega) (by omega) (by omega) dX9_undo_74 ?_
          have e31 : ∀ p9 q9 : Int, X30 67 p9 q9 = X 67 p9 q9 := fun p9 q9 => by rw [hX30, u3_k _ _ _ _ (by first | exact Nat.ne_of_beq_eq_false rfl | decide), hGXa 67 p9 q9 (show 6700 ∉ [4023, 5600, 5900] by first | exact nlm_ni rfl | decide), hX7, u3_k _ _ _ _ (by first | exact Nat.ne_of_beq_eq_false rfl | decide), hX1, u3_k _ _ _ _ (by first | exact Nat.ne_of_beq_eq_false rfl | decide)]
          rw [e31 0 ((Xa 40 0 22) - 1)]
          have f32 : (-1) ≤ X 67 0 ((Xa 40 0 22) - 1) ∧ X 67 0 ((Xa 40 0 22) - 1) ≤ 11 := hR 67 0 ((Xa 40 0 22) - 1)
          refine x_if_ge (tgt := 116) hx hb (by omega) dX9_undo_75 (by decide) (fun c33 => ?_) (fun c33 => ?_)
          · refine lv_aload_n hx hb dX9_undo_116 rfl (lv_at hl 0 rfl) ?_
            refine x_geto hx hb hf9 hw (by first | exact Int.le_refl 0 | omega) (by first | exact zlt hc40 | omega) sl_40_18 lk57 dX9_undo_117 ?_
            refine lv_bipush (v := jI 12) hx hb dX9_undo_120 (by decide) ?_
            refine lv_aload_n hx hb dX9_undo_122 rfl (lv_at hl 0 rfl) ?_
            refine x_geto hx hb hf9 hw (by first | exact Int.le_refl 0 | omega) (by first | exact zlt hc40 | omega) sl_40_25 lk72 dX9_undo_123 ?_
            refine lv_aload_n hx hb dX9_undo_126 rfl (lv_at hl 0 rfl) ?_
            refine x_geti (jz := 22) hx hb hf9 hw (by first | exact Int.le_refl 0 | omega) (by first | exact zlt hc40 | omega) sl_40_22 rfl lk173 dX9_undo_127 ?_
            rw [hVX30]
            refine x_iald hx hb hK.1 hw (by first | exact Int.le_refl 0 | omega) (by first | exact zlt hc66 | omega) ar_66 (len_E ar_66 (by first | exact Nat.ne_of_beq_eq_false rfl | decide)) (by omega) (by omega) (by omega) dX9_undo_130 ?_
            have e34 : ∀ p9 q9 : Int, X30 66 p9 q9 = X 66 p9 q9 := fun p9 q9 => by rw [hX30, u3_k _ _ _ _ (by first | exact Nat.ne_of_beq_eq_false rfl | decide), hGXa 66 p9 q9 (show 6600 ∉ [4023, 5600, 5900] by first | exact nlm_ni rfl | decide), hX7, u3_k _ _ _ _ (by first | exact Nat.ne_of_beq_eq_false rfl | decide), hX1, u3_k _ _ _ _ (by first | exact Nat.ne_of_beq_eq_false rfl | decide)]
            rw [e34 0 ((Xa 40 0 22) - 1)]
            have f35 : (-1) ≤ X 66 0 ((Xa 40 0 22) - 1) ∧ X 66 0 ((Xa 40 0 22) - 1) ≤ 399 := hR 66 0 ((Xa 40 0 22) - 1)
            refine x_imul hx hb dX9_undo_131 ?_
            refine lv_aload_n hx hb dX9_undo_132 rfl (lv_at hl 0 rfl) ?_
            refine x_geto hx hb hf9 hw (by first | exact Int.le_refl 0 | omega) (by first | exact zlt hc40 | omega) sl_40_26 lk75 dX9_undo_133 ?_
            refine lv_aload_n hx hb dX9_undo_136 rfl (lv_at hl 0 rfl) ?_
            refine x_geti (jz := 22) hx hb hf9 hw (by first | exact Int.le_refl 0 | omega) (by first | exact zlt hc40 | omega) sl_40_22 rfl lk173 dX9_undo_137 ?_
            rw [hVX30]
            refine x_iald hx hb hK.1 hw (by first | exact Int.le_refl 0 | omega) (by first | exact zlt hc67 | omega) ar_67 (len_E ar_67 (by first | exact Nat.ne_of_beq_eq_false rfl | decide)) (by omega) (by omega) (by omega) dX9_undo_140 ?_
            have e36 : ∀ p9 q9 : Int, X30 67 p9 q9 = X 67 p9 q9 := fun p9 q9 => by rw [hX30, u3_k _ _ _ _ (by first | exact Nat.ne_of_beq_eq_false rfl | decide), hGXa 67 p9 q9 (show 6700 ∉ [4023, 5600, 5900] by first | exact nlm_ni rfl | decide), hX7, u3_k _ _ _ _ (by first | exact Nat.ne_of_beq_eq_false rfl | decide), hX1, u3_k _ _ _ _ (by first | exact Nat.ne_of_beq_eq_false rfl | decide)]
            rw [e36 0 ((Xa 40 0 22) - 1)]
            have f37 : (-1) ≤ X 67 0 ((Xa 40 0 22) - 1) ∧ X 67 0 ((Xa 40 0 22) - 1) ≤ 11 := hR 67 0 ((Xa 40 0 22) - 1)
            refine x_iadd hx hb dX9_undo_141 ?_
            refine lv_aload_n hx hb dX9_undo_142 rfl (lv_at hl 0 rfl) ?_
            refine x_geto hx hb hf9 hw (by first | exact Int.le_refl 0 | omega) (by first | exact zlt hc40 | omega) sl_40_27 lk78 dX9_undo_143 ?_
            refine lv_aload_n hx hb dX9_undo_146 rfl (lv_at hl 0 rfl) ?_
            refine x_geti (jz := 22) hx hb hf9 hw (by first | exact Int.le_refl 0 | omega) (by first | exact zlt hc40 | omega) sl_40_22 rfl lk173 dX9_undo_147 ?_
            rw [hVX30]
            refine x_lald hx hb hK.1 hw (by first | exact Int.le_refl 0 | omega) (by first | exact zlt hc68 | omega) ar_68 (len_E ar_68 (by first | exact Nat.ne_of_beq_eq_false rfl | decide)) (by omega) (by omega) (by omega) dX9_undo_150 ?_
            have e38 : ∀ p9 q9 : Int, X30 68 p9 q9 = X 68 p9 q9 := fun p9 q9 => by rw [hX30, u3_k _ _ _ _ (by first | exact Nat.ne_of_beq_eq_false rfl | decide), hGXa 68 p9 q9 (show 6800 ∉ [4023, 5600, 5900] by first | exact nlm_ni rfl | decide), hX7, u3_k _ _ _ _ (by first | exact Nat.ne_of_beq_eq_false rfl | decide), hX1, u3_k _ _ _ _ (by first | exact Nat.ne_of_beq_eq_false rfl | decide)]
            rw [e38 0 ((Xa 40 0 22) - 1)]
            have f39 : (-9223372036854775808) ≤ X 68 0 ((Xa 40 0 22) - 1) ∧ X 68 0 ((Xa 40 0 22) - 1) ≤ 9223372036854775807 := hR 68 0 ((Xa 40 0 22) - 1)
            refine x_last hx hb hK.1 hw hS (by first | exact Int.le_refl 0 | omega) (by first | exact zlt hc59 | omega) ar_59 (len_E ar_59 (by first | exact Nat.ne_of_beq_eq_false rfl | decide)) (by omega) (by omega) (by omega) dX9_undo_151 (fun H locs hw hS => ?_)
            obtain ⟨X40, hX40⟩ : ∃ Xq, Xq = u3 X30 59 0 ((12 * (X 66 0 ((Xa 40 0 22) - 1))) + (X 67 0 ((Xa 40 0 22) - 1))) (X 68 0 ((Xa 40 0 22) - 1)) := ⟨_, rfl⟩
            rw [← hX40] at hw
            have hRX40 : Rng X40 := by rw [hX40]; exact rng_set hRX30 (show (-9223372036854775808) ≤ (X 68 0 ((Xa 40 0 22) - 1)) ∧ (X 68 0 ((Xa 40 0 22) - 1)) ≤ 9223372036854775807 by omega)
            have hVX40 : X40 59 0 ((12 * (X 66 0 ((Xa 40 0 22) - 1))) + (X 67 0 ((Xa 40 0 22) - 1))) = (X 68 0 ((Xa 40 0 22) - 1)) := by rw [hX40]; exact u3_s _ _ _ _ _
            have hFX40 : Frm [4001, 4021, 4023, 5600, 5900] X X40 := by rw [hX40]; exact Frm.set hFX30 (show 5900 ∈ [4001, 4021, 4023, 5600, 5900] by first | exact nlm_in rfl | decide)
            refine lv_goto (tgt := 40) hx hb dX9_undo_152 (by decide) ?_
            have q41 : Frm [4023, 5600, 5900] X7 Xa := Frm.tr Frm.rf (Frm.mono hGXa (by first | exact nls_of rfl | decide))
            have q42 : Frm [4023, 5600, 5900] X7 X30 := by rw [hX30]; exact Frm.set q41 (show 4023 ∈ [4023, 5600, 5900] by first | exact nlm_in rfl | decide)
            have q43 : Frm [4023, 5600, 5900] X7 X40 := by rw [hX40]; exact Frm.set q42 (show 5900 ∈ [4023, 5600, 5900] by first | exact nlm_in rfl | decide)
            have e44 : X40 40 0 22 = X30 40 0 22 := by rw [hX40, u3_k _ _ _ _ (by first | exact Nat.ne_of_beq_eq_false rfl | decide)]
            have q45 : Frm [4001, 4021, 4023, 5600, 5900] X X1 := by rw [hX1]; exact Frm.set Frm.rf (show 4001 ∈ [4001, 4021, 4023, 5600, 5900] by first | exact nlm_in rfl | decide)
            have q46 : Frm [4001, 4021, 4023, 5600, 5900] X X7 := by rw [hX7]; exact Frm.set q45 (show 4021 ∈ [4001, 4021, 4023, 5600, 5900] by first | exact nlm_in rfl | decide)
            have q47 : Frm [4001, 4021, 4023, 5600, 5900] X Xa := Frm.tr q46 (Frm.mono hGXa (by first | exact nls_of rfl | decide))
            have f48 : Xa 64 = X 64 := Frm.arr q47 64 (by decide +kernel) (by decide)
            have f49 : Xa 65 = X 65 := Frm.arr q47 65 (by decide +kernel) (by decide)
            have f50 : Xa 66 = X 66 := Frm.arr q47 66 (by decide +kernel) (by decide)
            have f51 : Xa 67 = X 67 := Frm.arr q47 67 (by decide +kernel) (by decide)
            have f52 : Xa 68 = X 68 := Frm.arr q47 68 (by decide +kernel) (by decide)
            exact ih40  X40 _ _ _ (by omega) hRX40 q43 (minv5_undo_r hM5 (by omega) hX30 hX40) (uTrM.push hTr (by omega) ⟨by omega, Or.inr ⟨(by rw [f51]; omega), (by rw [f50, f51, f52, hX40, hX30])⟩⟩ (by rw [hX40, u3_k _ _ _ _ (by first | exact Nat.ne_of_beq_eq_false rfl | decide), hX30, u3_s])) (by first | omega | (simp only [e44]; omega)) hw hS (lv_sub hl [0, 1] rfl)
          · refine lv_aload_n hx hb dX9_undo_78 rfl (lv_at hl 0 rfl) ?_
            refine x_geto hx hb hf9 hw (by first | exact Int.le_refl 0 | omega) (by first | exact zlt hc40 | omega) sl_40_15 lk48 dX9_undo_79 ?_
            refine lv_iconst (v := jI 5) hx hb dX9_undo_82 rfl ?_
            refine lv_aload_n hx hb dX9_undo_83 rfl (lv_at hl 0 rfl) ?_
            refine x_geto hx hb hf9 hw (by first | exact Int.le_refl 0 | omega) (by first | exact zlt hc40 | omega) sl_40_23 lk66 dX9_undo_84 ?_
            refine lv_aload_n hx hb dX9_undo_87 rfl (lv_at hl 0 rfl) ?_
            refine x_geti (jz := 22) hx hb hf9 hw (by first | exact Int.le_refl 0 | omega) (by first | exact zlt hc40 | omega) sl_40_22 rfl lk173 dX9_undo_88 ?_
            rw [hVX30]
            refine x_iald hx hb hK.1 hw (by first | exact Int.le_refl 0 | omega) (by first | exact zlt hc64 | omega) ar_64 (len_E ar_64 (by first | exact Nat.ne_of_beq_eq_false rfl | decide)) (by omega) (by omega) (by omega) dX9_undo_91 ?_
            have e53 : ∀ p9 q9 : Int, X30 64 p9 q9 = X 64 p9 q9 := fun p9 q9 => by rw [hX30, u3_k _ _ _ _ (by first | exact Nat.ne_of_beq_eq_false rfl | decide), hGXa 64 p9 q9 (show 6400 ∉ [4023, 5600, 5900] by first | exact nlm_ni rfl | decide), hX7, u3_k _ _ _ _ (by first | exact Nat.ne_of_beq_eq_false rfl | decide), hX1, u3_k _ _ _ _ (by first | exact Nat.ne_of_beq_eq_false rfl | decide)]
            rw [e53 0 ((Xa 40 0 22) - 1)]
            have f54 : 0 ≤ X 64 0 ((Xa 40 0 22) - 1) ∧ X 64 0 ((Xa 40 0 22) - 1) ≤ 29 := hR 64 0 ((Xa 40 0 22) - 1)
            refine x_imul hx hb dX9_undo_92 ?_
            refine lv_aload_n hx hb dX9_undo_93 rfl (lv_at hl 0 rfl) ?_
            refine x_geto hx hb hf9 hw (by first | exact Int.le_refl 0 | omega) (by first | exact zlt hc40 | omega) sl_40_24 lk69 dX9_undo_94 ?_
            refine lv_aload_n hx hb dX9_undo_97 rfl (lv_at hl 0 rfl) ?_
            refine x_geti (jz := 22) hx hb hf9 hw (by first | exact Int.le_refl 0 | omega) (by first | exact zlt hc40 | omega) sl_40_22 rfl lk173 dX9_undo_98 ?_
            rw [hVX30]
            refine x_iald hx hb hK.1 hw (by first | exact Int.le_refl 0 | omega) (by first | exact zlt hc65 | omega) ar_65 (len_E ar_65 (by first | exact Nat.ne_of_beq_eq_false rfl | decide)) (by omega) (by omega) (by omega) dX9_undo_101 ?_
            have e55 : ∀ p9 q9 : Int, X30 65 p9 q9 = X 65 p9 q9 := fun p9 q9 => by rw [hX30, u3_k _ _ _ _ (by first | exact Nat.ne_of_beq_eq_false rfl | decide), hGXa 65 p9 q9 (show 6500 ∉ [4023, 5600, 5900] by first | exact nlm_ni rfl | decide), hX7, u3_k _ _ _ _ (by first | exact Nat.ne_of_beq_eq_false rfl | decide), hX1, u3_k _ _ _ _ (by first | exact Nat.ne_of_beq_eq_false rfl | decide)]
            rw [e55 0 ((Xa 40 0 22) - 1)]
            have f56 : 0 ≤ X 65 0 ((Xa 40 0 22) - 1) ∧ X 65 0 ((Xa 40 0 22) - 1) ≤ 4 := hR 65 0 ((Xa 40 0 22) - 1)
            refine x_iadd hx hb dX9_undo_102 ?_
            refine lv_aload_n hx hb dX9_undo_103 rfl (lv_at hl 0 rfl) ?_
            refine x_geto hx hb hf9 hw (by first | exact Int.le_refl 0 | omega) (by first | exact zlt hc40 | omega) sl_40_27 lk78 dX9_undo_104 ?_
            refine lv_aload_n hx hb dX9_undo_107 rfl (lv_at hl 0 rfl) ?_
            refine x_geti (jz := 22) hx hb hf9 hw (by first | exact Int.le_refl 0 | omega) (by first | exact zlt hc40 | omega) sl_40_22 rfl lk173 dX9_undo_108 ?_
            rw [hVX30]
            refine x_lald hx hb hK.1 hw (by first | exact Int.le_refl 0 | omega) (by first | exact zlt hc68 | omega) ar_68 (len_E ar_68 (by first | exact Nat.ne_of_beq_eq_false rfl | decide)) (by omega) (by omega) (by omega) dX9_undo_111 ?_
            have e57 : ∀ p9 q9 : Int, X30 68 p9 q9 = X 68 p9 q9 := fun p9 q9 => by rw [hX30, u3_k _ _ _ _ (by first | exact Nat.ne_of_beq_eq_false rfl | decide), hGXa 68 p9 q9 (show 6800 ∉ [4023, 5600, 5900] by first | exact nlm_ni rfl | decide), hX7, u3_k _ _ _ _ (by first | exact Nat.ne_of_beq_eq_false rfl | decide), hX1, u3_k _ _ _ _ (by first | exact Nat.ne_of_beq_eq_false rfl | decide)]
            rw [e57 0 ((Xa 40 0 22) - 1)]
            have f58 : (-9223372036854775808) ≤ X 68 0 ((Xa 40 0 22) - 1) ∧ X 68 0 ((Xa 40 0 22) - 1) ≤ 9223372036854775807 := hR 68 0 ((Xa 40 0 22) - 1)
            refine x_last hx hb hK.1 hw hS (by first | exact Int.le_refl 0 | omega) (by first | exact zlt hc56 | omega) ar_56 (len_E ar_56 (by first | exact Nat.ne_of_beq_eq_false rfl | decide)) (by omega) (by omega) (by omega) dX9_undo_112 (fun H locs hw hS => ?_)
            obtain ⟨X59, hX59⟩ : ∃ Xq, Xq = u3 X30 56 0 ((5 * (X 64 0 ((Xa 40 0 22) - 1))) + (X 65 0 ((Xa 40 0 22) - 1))) (X 68 0 ((Xa 40 0 22) - 1)) := ⟨_, rfl⟩
            rw [← hX59] at hw
            have hRX59 : Rng X59 := by rw [hX59]; exact rng_set hRX30 (show (-9223372036854775808) ≤ (X 68 0 ((Xa 40 0 22) - 1)) ∧ (X 68 0 ((Xa 40 0 22) - 1)) ≤ 9223372036854775807 by omega)
            have hVX59 : X59 56 0 ((5 * (X 64 0 ((Xa 40 0 22) - 1))) + (X 65 0 ((Xa 40 0 22) - 1))) = (X 68 0 ((Xa 40 0 22) - 1)) := by rw [hX59]; exact u3_s _ _ _ _ _
            have hFX59 : Frm [4001, 4021, 4023, 5600, 5900] X X59 := by rw [hX59]; exact Frm.set hFX30 (show 5600 ∈ [4001, 4021, 4023, 5600, 5900] by first | exact nlm_in rfl | decide)
            refine lv_goto (tgt := 40) hx hb dX9_undo_113 (by decide) ?_
            have q60 : Frm [4023, 5600, 5900] X7 Xa := Frm.tr Frm.rf (Frm.mono hGXa (by first | exact nls_of rfl | decide))
            have q61 : Frm [4023, 5600, 5900] X7 X30 := by rw [hX30]; exact Frm.set q60 (show 4023 ∈ [4023, 5600, 5900] by first | exact nlm_in rfl | decide)
            have q62 : Frm [4023, 5600, 5900] X7 X59 := by rw [hX59]; exact Frm.set q61 (show 5600 ∈ [4023, 5600, 5900] by first | exact nlm_in rfl | decide)
            have e63 : X59 40 0 22 = X30 40 0 22 := by rw [hX59, u3_k _ _ _ _ (by first | exact Nat.ne_of_beq_eq_false rfl | decide)]
            have q64 : Frm [4001, 4021, 4023, 5600, 5900] X X1 := by rw [hX1]; exact Frm.set Frm.rf (show 4001 ∈ [4001, 4021, 4023, 5600, 5900] by first | exact nlm_in rfl | decide)
            have q65 : Frm [4001, 4021, 4023, 5600, 5900] X X7 := by rw [hX7]; exact Frm.set q64 (show 4021 ∈ [4001, 4021, 4023, 5600, 5900] by first | exact nlm_in rfl | decide)
            have q66 : Frm [4001, 4021, 4023, 5600, 5900] X Xa := Frm.tr q65 (Frm.mono hGXa (by first | exact nls_of rfl | decide))
            have f67 : Xa 64 = X 64 := Frm.arr q66 64 (by decide +kernel) (by decide)
            have f68 : Xa 65 = X 65 := Frm.arr q66 65 (by decide +kernel) (by decide)
            have f69 : Xa 66 = X 66 := Frm.arr q66 66 (by decide +kernel) (by decide)
            have f70 : Xa 67 = X 67 := Frm.arr q66 67 (by decide +kernel) (by decide)
            have f71 : Xa 68 = X 68 := Frm.arr q66 68 (by decide +kernel) (by decide)
            exact ih40  X59 _ _ _ (by omega) hRX59 q62 (minv5_undo_x hM5 hRX30 (by omega) (by omega) (by rw [hGXa 67 0 (Xa 40 0 22 - 1) (show 6700 ∉ [4023, 5600, 5900] by first | exact nlm_ni rfl | decide), hX7, u3_k _ _ _ _ (by first | exact Nat.ne_of_beq_eq_false rfl | decide), hX1, u3_k _ _ _ _ (by first | exact Nat.ne_of_beq_eq_false rfl | decide)]; omega) hX30 (by rw [hGXa 64 0 (Xa 40 0 22 - 1) (show 6400 ∉ [4023, 5600, 5900] by first | exact nlm_ni rfl | decide), hX7, u3_k _ _ _ _ (by first | exact Nat.ne_of_beq_eq_false rfl | decide), hX1, u3_k _ _ _ _ (by first | exact Nat.ne_of_beq_eq_false rfl | decide)]) (by rw [hGXa 65 0 (Xa 40 0 22 - 1) (show 6500 ∉ [4023, 5600, 5900] by first | exact nlm_ni rfl | decide), hX7, u3_k _ _ _ _ (by first | exact Nat.ne_of_beq_eq_false rfl | decide), hX1, u3_k _ _ _ _ (by first | exact Nat.ne_of_beq_eq_false rfl | decide)]) (by rw [hGXa 68 0 (Xa 40 0 22 - 1) (show 6800 ∉ [4023, 5600, 5900] by first | exact nlm_ni rfl | decide), hX7, u3_k _ _ _ _ (by first | exact Nat.ne_of_beq_eq_false rfl | decide), hX1, u3_k _ _ _ _ (by first | exact Nat.ne_of_beq_eq_false rfl | decide)]) (hR 64 0 _).1 (hR 65 0 _).1 hX59) (uTrM.push hTr (by omega) ⟨by omega, Or.inl ⟨(by rw [f70]; omega), (by rw [f67, f68, f71, hX59, hX30])⟩⟩ (by rw [hX59, u3_k _ _ _ _ (by first | exact Nat.ne_of_beq_eq_false rfl | decide), hX30, u3_s])) (by first | omega | (simp only [e63]; omega)) hw hS (lv_sub hl [0, 1] rfl)
    have e72 : X7 40 0 22 = X 40 0 22 := by rw [hX7, u3_j _ _ _ _ (by decide), hX1, u3_j _ _ _ _ (by decide)]
    have q73 : Frm [4001, 4021] X X1 := by rw [hX1]; exact Frm.set Frm.rf (show 4001 ∈ [4001, 4021] by first | exact nlm_in rfl | decide)
    have q74 : Frm [4001, 4021] X X7 := by rw [hX7]; exact Frm.set q73 (show 4021 ∈ [4001, 4021] by first | exact nlm_in rfl | decide)
    exact lp40 (X7 40 0 22 : Int).toNat.succ  X7 _ _ _ (by omega) hRX7 Frm.rf (minv5_frm ⟨hMI.1, hMI.2.1, hMI.2.2.1, hMI.2.2.2.1, hMI.2.2.2.2.2⟩ q74 (by decide)) ((by rw [show (X 40 0 22 - X7 40 0 22).toNat = 0 by (rw [show X7 40 0 22 = X 40 0 22 from (by rw [hX7, u3_j _ _ _ _ (by decide), hX1, u3_j _ _ _ _ (by decide)])]; omega)]; rfl)) (by first | omega | (simp only [e72]; omega)) hw hS (lv_sub hl [1, 0] rfl)
  · refine lv_bipush (v := jI (-3)) hx hb dX9_undo_12 (by decide) ?_
    rw [hQ9]
    refine ret_i (mc := 0) (ms := 0) hx hb hr hlocks hw hS (by first | exact Nat.le_of_ble_eq_true rfl | omega) (by first | exact Nat.le_of_ble_eq_true rfl | omega) dX9_undo_14 ?_
    have q76 : Frm [4001] X X1 := by rw [hX1]; exact Frm.set Frm.rf (show 4001 ∈ [4001] by first | exact nlm_in rfl | decide)
    have hMq75 : MInv X1 := minv_frm hMI q76 (by decide)
    have e78 : X1 40 0 20 = X 40 0 20 := (by rw [hX1, u3_j _ _ _ _ (by decide)])
    exact ⟨X1, rfl, hRX1, hFX1, hMq75, by omega, (by (try delta Hid at *); omega), fun _ => ⟨q76, by omega⟩, fun q => (by exfalso; omega)⟩
end
section
set_option maxHeartbeats 4000000 in
set_option maxRecDepth 100000 in
theorem c_X9_save (l : Launch) (D : va_G) (tc : Nat → ClassId) (base : Nat) (ad : Nat → Int → Nat) (cnt : Nat → Int) (X : Nat → Int → Int → Int) (Y : Nat → Int → Int → Option Int) (ln : Int → Int) (hR : Rng X) (hFx : Fx cnt) (hMI : MInv X) (sv x : Int) (hsv : -2147483648 ≤ sv ∧ sv ≤ 2147483647) (hx : -2147483648 ≤ x ∧ x ≤ 2147483647) : KI l D tc base yX9_save wsX9_save ({ frames := 2, cells := 0, slots := 0, locals := 53 } : Room) [.ref (ad 40 0), .int (jI sv), .int (jI x)] (ad, cnt, X, Y, ln) 0 0 (fun z u => ∃ X1 : Nat → Int → Int → Int, u = (ad, cnt, X1, Y, ln) ∧ Rng X1 ∧ Frm [4001, 7100, 7200, 7300, 7400, 7500, 8000, 7000, 8100, 7700, 7800, 7900, 7600, 4042, 4043, 4044] X X1 ∧ MInv X1 ∧ (-2147483648 ≤ z ∧ z ≤ 2147483647) ∧ ((¬ ((0 ≤ sv ∧ sv < 4) ∧ (0 ≤ x ∧ x < X 40 0 13)) ∧ z = -1 ∧ Frm [4001] X X1) ∨ (((0 ≤ sv ∧ sv < 4) ∧ (0 ≤ x ∧ x < X 40 0 13)) ∧ z = -20 ∧ (∃ r k, 0 ≤ r ∧ r < recR (fcM X) (lnM X) (mRid X) (mRid X) x 30 0 0 ∧ 0 ≤ k ∧ k < fcM X (recR (fcM X) (lnM X) (mRid X) (mRid X) x 30 1 r) ∧ X 48 0 (5 * X 55 0 (recR (fcM X) (lnM X) (mRid X) (mRid X) x 30 1 r) + k) ≠ 0) ∧ S4 X X1 ∧ S5 X X1) ∨ (((0 ≤ sv ∧ sv < 4) ∧ (0 ≤ x ∧ x < X 40 0 13)) ∧ z = recR (fcM X) (lnM X) (mRid X) (mRid X) x 30 0 0 ∧ 0 ≤ z ∧ (∀ r k, 0 ≤ r → r < recR (fcM X) (lnM X) (mRid X) (mRid X) x 30 0 0 → 0 ≤ k → k < fcM X (recR (fcM X) (lnM X) (mRid X) (mRid X) x 30 1 r) → X 48 0 (5 * X 55 0 (recR (fcM X) (lnM X) (mRid X) (mRid X) x 30 1 r) + k) = 0) ∧ ∃ E : Nat → Int → Int → Int, rmT E (recR (fcM X) (lnM X) (mRid X) (mRid X) x 30) ∧ rmR E (recR (fcM X) (lnM X) (mRid X) (mRid X) x 30) ∧ rmV E (recR (fcM X) (lnM X) (mRid X) (mRid X) x 30) (recR (fcM X) (lnM X) (mRid X) (mRid X) x 30 0 0) 0 ∧ S4 X E ∧ S5 X E ∧ mSt X E ∧ E 57 = X 57 ∧ E 58 = X 58 ∧ E 59 = X 59 ∧ E 56 = X 56 ∧ svC E X1 sv))) := by
  refine K_of (cc := cX9_save) (maxL := 6) (ret := (some .int)) (by decide) rfl (Nat.le_of_ble_eq_true rfl) ?_
  intro p e s m below meth c ls hx hb hr hml hown hts hlocks hl hK hw hS
  have hown : s.vm.findClass RX9 = some m.cls := hown
  obtain ⟨av9, hav9⟩ : ∃ a9 : Array Value, a9 = ([.ref (ad 40 0), .int (jI sv), .int (jI x)] : List Value).toArray := ⟨_, rfl⟩
  rw [← hav9] at hts ⊢
  obtain ⟨Q9, hQ9⟩ : ∃ q9Q : State → Prop, q9Q = MQ below (QI D tc base (fun z u => ∃ X1 : Nat → Int → Int → Int, u = (ad, cnt, X1, Y, ln) ∧ Rng X1 ∧ Frm [4001, 7100, 7200, 7300, 7400, 7500, 8000, 7000, 8100, 7700, 7800, 7900, 7600, 4042, 4043, 4044] X X1 ∧ MInv X1 ∧ (-2147483648 ≤ z ∧ z ≤ 2147483647) ∧ ((¬ ((0 ≤ sv ∧ sv < 4) ∧ (0 ≤ x ∧ x < X 40 0 13)) ∧ z = -1 ∧ Frm [4001] X X1) ∨ (((0 ≤ sv ∧ sv < 4) ∧ (0 ≤ x ∧ x < X 40 0 13)) ∧ z = -20 ∧ (∃ r k, 0 ≤ r ∧ r < recR (fcM X) (lnM X) (mRid X) (mRid X) x 30 0 0 ∧ 0 ≤ k ∧ k < fcM X (recR (fcM X) (lnM X) (mRid X) (mRid X) x 30 1 r) ∧ X 48 0 (5 * X 55 0 (recR (fcM X) (lnM X) (mRid X) (mRid X) x 30 1 r) + k) ≠ 0) ∧ S4 X X1 ∧ S5 X X1) ∨ (((0 ≤ sv ∧ sv < 4) ∧ (0 ≤ x ∧ x < X 40 0 13)) ∧ z = recR (fcM X) (lnM X) (mRid X) (mRid X) x 30 0 0 ∧ 0 ≤ z ∧ (∀ r k, 0 ≤ r → r < recR (fcM X) (lnM X) (mRid X) (mRid X) x 30 0 0 → 0 ≤ k → k < fcM X (recR (fcM X) (lnM X) (mRid X) (mRid X) x 30 1 r) → X 48 0 (5 * X 55 0 (recR (fcM X) (lnM X) (mRid X) (mRid X) x 30 1 r) + k) = 0) ∧ ∃ E : Nat → Int → Int → Int, rmT E (recR (fcM X) (lnM X) (mRid X) (mRid X) x 30) ∧ rmR E (recR (fcM X) (lnM X) (mRid X) (mRid X) x 30) ∧ rmV E (recR (fcM X) (lnM X) (mRid X) (mRid X) x 30) (recR (fcM X) (lnM X) (mRid X) (mRid X) x 30 0 0) 0 ∧ S4 X E ∧ S5 X E ∧ mSt X E ∧ E 57 = X 57 ∧ E 58 = X 58 ∧ E 59 = X 59 ∧ E 56 = X 56 ∧ svC E X1 sv)))) av9 s 0 0 (frA base) := ⟨_, rfl⟩
  rw [← hQ9]
  have hi9 : ∀ w ∈ wsX90, w ∈ wsX9_save := fun w h => List.mem_cons_of_mem _ (List.mem_append_right _ h)
  have hf9 : fctx s m _ RX9 wsX9_save D tc RX9 TX9 51 9 := ⟨hts, hi9, hown, hK.1, rfl⟩
  have lk81 := hts (.fieldLink RX9 81 (TX9 29).1 (TX9 29).2.1 (TX9 29).2.2.1) (gj_X9_save_0 _ (gp_1 gp_h))
  have lk84 := hts (.fieldLink RX9 84 (TX9 30).1 (TX9 30).2.1 (TX9 30).2.2.1) (gj_X9_save_0 _ (gp_1 (gp_1 (gp_1 gp_h))))
  have lk87 := hts (.fieldLink RX9 87 (TX9 31).1 (TX9 31).2.1 (TX9 31).2.2.1) (gj_X9_save_0 _ (gp_4 gp_h))
  have lk90 := hts (.fieldLink RX9 90 (TX9 32).1 (TX9 32).2.1 (TX9 32).2.2.1) (gj_X9_save_0 _ (gp_4 (gp_1 gp_h)))
  have lk93 := hts (.fieldLink RX9 93 (TX9 33).1 (TX9 33).2.1 (TX9 33).2.2.1) (gj_X9_save_0 _ (gp_4 (gp_1 (gp_1 gp_h))))
  have lk96 := hts (.fieldLink RX9 96 (TX9 34).1 (TX9 34).2.1 (TX9 34).2.2.1) (gj_X9_save_0 _ (gp_4 (gp_1 (gp_1 (gp_1 gp_h)))))
  have lk99 := hts (.fieldLink RX9 99 (TX9 35).1 (TX9 35).2.1 (TX9 35).2.2.1) (gj_X9_save_0 _ (gp_1 (gp_1 gp_h)))
  have lk102 := hts (.fieldLink RX9 102 (TX9 36).1 (TX9 36).2.1 (TX9 36).2.2.1) (gj_X9_save_0 _ (gp_4 (gp_4 gp_h)))
  have lk105 := hts (.fieldLink RX9 105 (TX9 37).1 (TX9 37).2.1 (TX9 37).2.2.1) (gj_X9_save_0 _ (gp_4 (gp_4 (gp_1 gp_h))))
  have lk108 := hts (.fieldLink RX9 108 (TX9 38).1 (TX9 38).2.1 (TX9 38).2.2.1) (gj_X9_save_0 _ (gp_4 (gp_4 (gp_1 (gp_1 gp_h)))))
  have lk145 := hts (.fieldLink RX9 145 (TX9 0).1 (TX9 0).2.1 (TX9 0).2.2.1) (gj_X9_save_0 _ (gp_h))
  have hc40 : cnt 40 = 1 := hFx.at 40 1 (by decide)
  have hc70 : cnt 70 = 1 := hFx.at 70 1 (by decide)
  have hc71 : cnt 71 = 1 := hFx.at 71 1 (by decide)
  have hc72 : cnt 72 = 1 := hFx.at 72 1 (by decide)
  have hc73 : cnt 73 = 1 := hFx.at 73 1 (by decide)
  have hc74 : cnt 74 = 1 := hFx.at 74 1 (by decide)
  have hc75 : cnt 75 = 1 := hFx.at 75 1 (by decide)
  have hc76 : cnt 76 = 1 := hFx.at 76 1 (by decide)
  have hc77 : cnt 77 = 1 := hFx.at 77 1 (by decide)
  have hc78 : cnt 78 = 1 := hFx.at 78 1 (by decide)
  have hc79 : cnt 79 = 1 := hFx.at 79 1 (by decide)
  have hl : lv_has ls 6 [(0, .ref (ad 40 0)), (1, .int (jI sv)), (2, .int (jI x))] := hl
  have fstypes : 0 ≤ X 40 0 2 ∧ X 40 0 2 ≤ 8 := hR 40 0 2
  have fsthings : 0 ≤ X 40 0 13 ∧ X 40 0 13 ≤ 30 := hR 40 0 13
  have fsmarks : 0 ≤ X 40 0 20 ∧ X 40 0 20 ≤ 4 := hR 40 0 20
  have fsnotes : 0 ≤ X 40 0 22 ∧ X 40 0 22 ≤ 80 := hR 40 0 22
  refine lv_aload_n hx hb dX9_save_0 rfl (lv_at hl 0 rfl) ?_
  refine lv_iconst (v := jI 0) hx hb dX9_save_1 rfl ?_
  refine x_puti (jz := 0) hx hb hf9 ⟨tyX9_ok, nmX9⟩ hw hS (by first | exact Int.le_refl 0 | omega) (by first | exact zlt hc40 | omega) sl_40_0 rfl lk145 rfl (tyX9_ok 0 (by decide)) rfl rfl dX9_save_2 (fun H locs hw hS => ?_)
  obtain ⟨X1, hX1⟩ : ∃ Xq, Xq = u3 X 40 0 0 0 := ⟨_, rfl⟩
  rw [← hX1] at hw
  have hRX1 : Rng X1 := by rw [hX1]; exact rng_set hR (show (-2147483648) ≤ 0 ∧ 0 ≤ 2147483647 by omega)
  have hVX1 : X1 40 0 0 = 0 := by rw [hX1]; exact u3_s _ _ _ _ _
  have hFX1 : Frm [4001, 7100, 7200, 7300, 7400, 7500, 8000, 7000, 8100, 7700, 7800, 7900, 7600, 4042, 4043, 4044] X X1 := by rw [hX1]; exact Frm.set Frm.rf (show 4001 ∈ [4001, 7100, 7200, 7300, 7400, 7500, 8000, 7000, 8100, 7700, 7800, 7900, 7600, 4042, 4043, 4044] by first | exact nlm_in rfl | decide)
  refine lv_aload_n hx hb dX9_save_5 rfl (lv_at hl 0 rfl) ?_
  refine lv_iload_n hx hb dX9_save_6 rfl (lv_at hl 1 rfl) ?_
  refine gos_i (run_V (As := [.int (jI sv)]) (rest := []) hx hb hml hown hts (c_X9_isSave l D tc base ad cnt X1 Y ln hRX1 hFx sv (by omega)) (cwV 1 hts gX9_save_X9_isSave rfl rfl rfl (by first | exact hd_X9_isSave | decide +kernel) ⟨Nat.le_of_ble_eq_true rfl, Nat.le_of_ble_eq_true rfl⟩) hK hw (by first | exact Int.le_refl 0 | omega) (by first | exact zlt hc40 | omega) sl_40_0 rfl rfl hl.1 rfl (Nat.le_of_ble_eq_true rfl) dX9_save_7 ⟨Nat.le_of_ble_eq_true rfl, Nat.le_of_ble_eq_true rfl⟩) hS (fun z2 u3 H locs p4 hw hS => ?_)
  obtain ⟨eu3, p4⟩ := p4
  subst eu3
  rcases p4 with ⟨ez2, p4⟩ | ⟨ez2, p4⟩
  · subst ez2
    refine x_if_eqF (tgt := 21) hx hb (by omega) (by decide) dX9_save_10 (by decide) ?_
    refine lv_aload_n hx hb dX9_save_13 rfl (lv_at hl 0 rfl) ?_
    refine lv_iload_n hx hb dX9_save_14 rfl (lv_at hl 2 rfl) ?_
    refine gos_i (run_V (As := [.int (jI x)]) (rest := []) hx hb hml hown hts (c_X9_isThing l D tc base ad cnt X1 Y ln hRX1 hFx x (by omega)) (cwV 1 hts gX9_save_X9_isThing rfl rfl rfl (by first | exact hd_X9_isThing | decide +kernel) ⟨Nat.le_of_ble_eq_true rfl, Nat.le_of_ble_eq_true rfl⟩) hK hw (by first | exact Int.le_refl 0 | omega) (by first | exact zlt hc40 | omega) sl_40_0 rfl rfl hl.1 rfl (Nat.le_of_ble_eq_true rfl) dX9_save_15 ⟨Nat.le_of_ble_eq_true rfl, Nat.le_of_ble_eq_true rfl⟩) hS (fun z5 u6 H locs p7 hw hS => ?_)
    obtain ⟨eu6, p7⟩ := p7
    subst eu6
    have e8 : X1 40 0 13 = X 40 0 13 := by rw [hX1, u3_j _ _ _ _ (by decide)]
    simp only [e8] at p7
    rcases p7 with ⟨ez5, p7⟩ | ⟨ez5, p7⟩
    · subst ez5
      refine x_if_neT (tgt := 23) hx hb (by omega) (by decide) dX9_save_18 (by decide) ?_
      refine lv_aload_n hx hb dX9_save_23 rfl (lv_at hl 0 rfl) ?_
      refine lv_iload_n hx hb dX9_save_24 rfl (lv_at hl 2 rfl) ?_
      refine lv_iconst (v := jI 1) hx hb dX9_save_25 rfl ?_
      have q10 : Frm [4001] X X1 := by rw [hX1]; exact Frm.set Frm.rf (show 4001 ∈ [4001] by first | exact nlm_in rfl | decide)
      have hMq9 : MInv X1 := minv_frm hMI q10 (by decide)
      have e11 : X1 40 0 13 = X 40 0 13 := by rw [hX1, u3_j _ _ _ _ (by decide)]
      refine gos_i (run_V (As := [.int (jI x), .int (jI 1)]) (rest := []) hx hb hml hown hts (c_X9_saves l D tc base ad cnt X1 Y ln hRX1 hFx hMq9 x 1 (by omega) (by simp only [e11]; omega) (by omega)) (cwV 2 hts gX9_save_X9_saves rfl rfl rfl (by first | exact hd_X9_saves | decide +kernel) ⟨Nat.le_of_ble_eq_true rfl, Nat.le_of_ble_eq_true rfl⟩) hK hw (by first | exact Int.le_refl 0 | omega) (by first | exact zlt hc40 | omega) sl_40_0 rfl rfl hl.1 rfl (Nat.le_of_ble_eq_true rfl) dX9_save_26 ⟨Nat.le_of_ble_eq_true rfl, Nat.le_of_ble_eq_true rfl⟩) hS (fun z12 u13 H locs p14 hw hS => ?_)
      obtain ⟨X15, eu13, hRX15, hG16, hMIX15, p14, h4X15, hcX15, hsvX15, h5X15, hm20X15⟩ := p14
      subst eu13
      have hFX15 : Frm [4001, 7100, 7200, 7300, 7400, 7500, 8000, 7000, 8100, 7700, 7800, 7900, 7600, 4042, 4043, 4044] X X15 := Frm.tr hFX1 (Frm.mono hG16 (by first | exact nls_of rfl | decide))
      refine lv_istore_n (lv' := [(3, .int (jI z12)), (0, .ref (ad 40 0)), (1, .int (jI sv)), (2, .int (jI x))]) hx hb dX9_save_29 rfl hl (by decide) rfl (fun ls hl => ?_)
      refine lv_iload_n hx hb dX9_save_30 rfl (lv_at hl 0 rfl) ?_
      refine x_if_ge (tgt := 36) hx hb (by omega) dX9_save_31 (by decide) (fun c17 => ?_) (fun c17 => ?_)
      · refine lv_aload_n hx hb dX9_save_36 rfl (lv_at hl 1 rfl) ?_
        refine x_geto hx hb hf9 hw (by first | exact Int.le_refl 0 | omega) (by first | exact zlt hc40 | omega) sl_40_29 lk81 dX9_save_37 ?_
        refine lv_iload_n hx hb dX9_save_40 rfl (lv_at hl 2 rfl) ?_
        refine lv_iload_n hx hb dX9_save_41 rfl (lv_at hl 0 rfl) ?_
        refine x_iast hx hb hK.1 hw hS (by first | exact Int.le_refl 0 | omega) (by first | exact zlt hc70 | omega) ar_70 (len_E ar_70 (by first | exact Nat.ne_of_beq_eq_false rfl | decide)) (by omega) (by omega) (by omega) dX9_save_42 (fun H locs hw hS => ?_)
        obtain ⟨X18, hX18⟩ : ∃ Xq, Xq = u3 X15 70 0 sv z12 := ⟨_, rfl⟩
        rw [← hX18] at hw
        have hRX18 : Rng X18 := by rw [hX18]; exact rng_set hRX15 (show 0 ≤ z12 ∧ z12 ≤ 30 by omega)
        have hVX18 : X18 70 0 sv = z12 := by rw [hX18]; exact u3_s _ _ _ _ _
        have hFX18 : Frm [4001, 7100, 7200, 7300, 7400, 7500, 8000, 7000, 8100, 7700, 7800, 7900, 7600, 4042, 4043, 4044] X X18 := by rw [hX18]; exact Frm.set hFX15 (show 7000 ∈ [4001, 7100, 7200, 7300, 7400, 7500, 8000, 7000, 8100, 7700, 7800, 7900, 7600, 4042, 4043, 4044] by first | exact nlm_in rfl | decide)
        refine lv_aload_n hx hb dX9_save_43 rfl (lv_at hl 1 rfl) ?_
        refine x_geto hx hb hf9 hw (by first | exact Int.le_refl 0 | omega) (by first | exact zlt hc40 | omega) sl_40_35 lk99 dX9_save_44 ?_
        refine lv_iload_n hx hb dX9_save_47 rfl (lv_at hl 2 rfl) ?_
        refine lv_aload_n hx hb dX9_save_48 rfl (lv_at hl 1 rfl) ?_
        refine x_geto hx hb hf9 hw (by first | exact Int.le_refl 0 | omega) (by first | exact zlt hc40 | omega) sl_40_35 lk99 dX9_save_49 ?_
        refine lv_iconst (v := jI 4) hx hb dX9_save_52 rfl ?_
        refine x_iald hx hb hK.1 hw (by first | exact Int.le_refl 0 | omega) (by first | exact zlt hc76 | omega) ar_76 (len_E ar_76 (by first | exact Nat.ne_of_beq_eq_false rfl | decide)) (by omega) (by omega) (by omega) dX9_save_53 ?_
        have e19 : ∀ p9 q9 : Int, X18 76 p9 q9 = X15 76 p9 q9 := fun p9 q9 => by rw [hX18, u3_k _ _ _ _ (by first | exact Nat.ne_of_beq_eq_false rfl | decide)]
        rw [e19 0 4]
        have f20 : 0 ≤ X15 76 0 4 ∧ X15 76 0 4 ≤ 150 := hRX15 76 0 4
        refine x_iast hx hb hK.1 hw hS (by first | exact Int.le_refl 0 | omega) (by first | exact zlt hc76 | omega) ar_76 (len_E ar_76 (by first | exact Nat.ne_of_beq_eq_false rfl | decide)) (by omega) (by omega) (by omega) dX9_save_54 (fun H locs hw hS => ?_)
        obtain ⟨X21, hX21⟩ : ∃ Xq, Xq = u3 X18 76 0 sv (X15 76 0 4) := ⟨_, rfl⟩
        rw [← hX21] at hw
        have hRX21 : Rng X21 := by rw [hX21]; exact rng_set hRX18 (show 0 ≤ (X15 76 0 4) ∧ (X15 76 0 4) ≤ 150 by omega)
        have hVX21 : X21 76 0 sv = (X15 76 0 4) := by rw [hX21]; exact u3_s _ _ _ _ _
        have hFX21 : Frm [4001, 7100, 7200, 7300, 7400, 7500, 8000, 7000, 8100, 7700, 7800, 7900, 7600, 4042, 4043, 4044] X X21 := by rw [hX21]; exact Frm.set hFX18 (show 7600 ∈ [4001, 7100, 7200, 7300, 7400, 7500, 8000, 7000, 8100, 7700, 7800, 7900, 7600, 4042, 4043, 4044] by first | exact nlm_in rfl | decide)
        refine lv_iconst (v := jI 0) hx hb dX9_save_55 rfl ?_
        refine lv_istore (lv' := [(4, .int (jI 0)), (3, .int (jI z12)), (0, .ref (ad 40 0)), (1, .int (jI sv)), (2, .int (jI x))]) hx hb dX9_save_56 hl (by decide) rfl (fun ls hl => ?_)
        have lp58 : ∀ (nn : Nat) (r : Int) (Xa : Nat → Int → Int → Int) (H : Heap) (locs : List Loc) (ls : Array Slot), (30 - r) < (nn : Int) → (Rng Xa) → (Frm [7100, 7200, 7300, 7400, 7500] X21 Xa) → (0 ≤ r ∧ r ≤ 30) → (Cpy X15 Xa sv r r 0) → (CpK 71 X15 Xa (30 * sv) 120 r) → (CpK 72 X15 Xa (30 * sv) 120 r) → (CpK 73 X15 Xa (150 * sv) 600 (5 * r)) → (CpK 74 X15 Xa (150 * sv) 600 (5 * r)) → (CpK 75 X15 Xa (150 * sv) 600 (5 * r)) → (r ≤ z12) → wd D tc base (ad, cnt, Xa, Y, ln) H → va_S (frA base) s.heap H locs → lv_has ls 6 [(0, .ref (ad 40 0)), (1, .int (jI sv)), (2, .int (jI x)), (3, .int (jI z12)), (4, .int (jI r))] → W p l e ({ frames := 2, cells := 0, slots := 0, locals := 53 } : Room) s m av9 below meth c H locs 0 0 Q9 (F0 m 58 ls []) := by
          intro nn
          induction nn with
          | zero => intro r Xa H locs ls hm hRXa hGXa hr0 hCa c71 c72 c73 c74 c75 hrn hw hS hl; exfalso; omega
          | succ nn ih58 =>
            intro r Xa H locs ls hm hRXa hGXa hr0 hCa c71 c72 c73 c74 c75 hrn hw hS hl
            have hFXa : Frm [4001, 7100, 7200, 7300, 7400, 7500, 8000, 7000, 8100, 7700, 7800, 7900, 7600, 4042, 4043, 4044] X Xa := Frm.tr hFX21 (Frm.mono hGXa (by first | exact nls_of rfl | decide))
            refine lv_iload hx hb dX9_save_58 (lv_at hl 4 rfl) ?_
            refine lv_iload_n hx hb dX9_save_60 rfl (lv_at hl 3 rfl) ?_
            refine x_icmp_ge (tgt := 225) hx hb (by omega) (by omega) dX9_save_61 (by decide) (fun c22 => ?_) (fun c22 => ?_)
            · refine lv_iconst (v := jI 0) hx hb dX9_save_225 rfl ?_
              refine lv_istore (lv' := [(4, .int (jI 0)), (0, .ref (ad 40 0)), (1, .int (jI sv)), (2, .int (jI x)), (3, .int (jI z12))]) hx hb dX9_save_226 hl (by decide) rfl (fun ls hl => ?_)
              have lp228 : ∀ (nn : Nat) (r : Int) (Xc : Nat → Int → Int → Int) (H : Heap) (locs : List Loc) (ls : Array Slot), (150 - r) < (nn : Int) → (Rng Xc) → (Frm [7700, 7800, 7900] Xa Xc) → (0 ≤ r ∧ r ≤ 150) → (CpK 77 X15 Xc (150 * sv) 600 r) → (CpK 78 X15 Xc (150 * sv) 600 r) → (CpK 79 X15 Xc (1800 * sv) 7200 (12 * r)) → (r ≤ X15 76 0 4) → wd D tc base (ad, cnt, Xc, Y, ln) H → va_S (frA base) s.heap H locs → lv_has ls 6 [(0, .ref (ad 40 0)), (1, .int (jI sv)), (2, .int (jI x)), (3, .int (jI z12)), (4, .int (jI r))] → W p l e ({ frames := 2, cells := 0, slots := 0, locals := 53 } : Room) s m av9 below meth c H locs 0 0 Q9 (F0 m 228 ls []) := by
                intro nn
                induction nn with
                | zero => intro r Xc H locs ls hm hRXc hGXc hr0 c77 c78 c79 hrw9 hw hS hl; exfalso; omega
                | succ nn ih228 =>
                  intro r Xc H locs ls hm hRXc hGXc hr0 c77 c78 c79 hrw9 hw hS hl
                  have hFXc : Frm [4001, 7100, 7200, 7300, 7400, 7500, 8000, 7000, 8100, 7700, 7800, 7900, 7600, 4042, 4043, 4044] X Xc := Frm.tr hFXa (Frm.mono hGXc (by first | exact nls_of rfl | decide))
                  have e76s : X21 76 0 4 = X15 76 0 4 := by rw [hX21, u3_j _ _ _ _ (by omega), hX18, u3_k _ _ _ _ (by first | exact Nat.ne_of_beq_eq_false rfl | decide)]
                  refine lv_iload hx hb dX9_save_228 (lv_at hl 4 rfl) ?_
                  refine lv_aload_n hx hb dX9_save_230 rfl (lv_at hl 0 rfl) ?_
                  refine x_geto hx hb hf9 hw (by first | exact Int.le_refl 0 | omega) (by first | exact zlt hc40 | omega) sl_40_35 lk99 dX9_save_231 ?_
                  refine lv_iconst (v := jI 4) hx hb dX9_save_234 rfl ?_
                  refine x_iald hx hb hK.1 hw (by first | exact Int.le_refl 0 | omega) (by first | exact zlt hc76 | omega) ar_76 (len_E ar_76 (by first | exact Nat.ne_of_beq_eq_false rfl | decide)) (by omega) (by omega) (by omega) dX9_save_235 ?_
                  have e23 : ∀ p9 q9 : Int, Xc 76 p9 q9 = X21 76 p9 q9 := fun p9 q9 => by rw [hGXc 76 p9 q9 (show 7600 ∉ [7700, 7800, 7900] by first | exact nlm_ni rfl | decide), hGXa 76 p9 q9 (show 7600 ∉ [7100, 7200, 7300, 7400, 7500] by first | exact nlm_ni rfl | decide)]
                  rw [e23 0 4]
                  have f24 : 0 ≤ X21 76 0 4 ∧ X21 76 0 4 ≤ 150 := hRX21 76 0 4
                  refine x_icmp_ge (tgt := 345) hx hb (by omega) (by omega) dX9_save_236 (by decide) (fun c25 => ?_) (fun c25 => ?_)
                  · refine lv_iload_n hx hb dX9_save_345 rfl (lv_at hl 3 rfl) ?_
                    rw [hQ9]
                    refine ret_i (mc := 0) (ms := 0) hx hb hr hlocks hw hS (by first | exact Nat.le_of_ble_eq_true rfl | omega) (by first | exact Nat.le_of_ble_eq_true rfl | omega) dX9_save_346 ?_
                    have q26 : Frm [7000, 7100, 7200, 7300, 7400, 7500, 7600, 7700, 7800, 7900] X15 X18 := by rw [hX18]; exact Frm.set Frm.rf (show 7000 ∈ [7000, 7100, 7200, 7300, 7400, 7500, 7600, 7700, 7800, 7900] by first | exact nlm_in rfl | decide)
                    have q27 : Frm [7000, 7100, 7200, 7300, 7400, 7500, 7600, 7700, 7800, 7900] X15 X21 := by rw [hX21]; exact Frm.set q26 (show 7600 ∈ [7000, 7100, 7200, 7300, 7400, 7500, 7600, 7700, 7800, 7900] by first | exact nlm_in rfl | decide)
                    have q28 : Frm [7000, 7100, 7200, 7300, 7400, 7500, 7600, 7700, 7800, 7900] X15 Xa := Frm.tr q27 (Frm.mono hGXa (by first | exact nls_of rfl | decide))
                    have q29 : Frm [4001] X X1 := by rw [hX1]; exact Frm.set Frm.rf (show 4001 ∈ [4001] by first | exact nlm_in rfl | decide)
                    have hrd30 := rdr_eq (L := [4001]) q29 (by decide)
                    have hsx31 := hsvX15
                    rw [hrd30.1, hrd30.2.1, hrd30.2.2, Frm.arr q29 48 (by decide +kernel) (by decide), Frm.arr q29 55 (by decide +kernel) (by decide)] at hsx31
                    have q32 : Frm [4001, 4042, 4043, 4044, 7000, 7100, 7200, 7300, 7400, 7500, 7600, 7700, 7800, 7900, 8000, 8100] X X1 := by rw [hX1]; exact Frm.set Frm.rf (show 4001 ∈ [4001, 4042, 4043, 4044, 7000, 7100, 7200, 7300, 7400, 7500, 7600, 7700, 7800, 7900, 8000, 8100] by first | exact nlm_in rfl | decide)
                    have q33 : Frm [4001, 4042, 4043, 4044, 7000, 7100, 7200, 7300, 7400, 7500, 7600, 7700, 7800, 7900, 8000, 8100] X X15 := Frm.tr q32 (Frm.mono hG16 (by first | exact nls_of rfl | decide))
                    have hn34 : X15 70 0 4 = z12 := ((hcX15 (by omega)).1).symm
                    have q35 : Frm [7700, 7800, 7900] Xa Xc := Frm.tr Frm.rf (Frm.mono hGXc (by first | exact nls_of rfl | decide))
                    exact ⟨Xc, rfl, hRXc, hFXc, minv_frm (minv_save (n := z12) hMIX15 hRX15 (hcX15 (by omega)).2 ((hcX15 (by omega)).1).symm (by omega) q28 (fun j hj => (by rw [hGXa 70 0 j (show 7000 ∉ [7100, 7200, 7300, 7400, 7500] by first | exact nlm_ni rfl | decide), hX21, u3_k _ _ _ _ (by first | exact Nat.ne_of_beq_eq_false rfl | decide), hX18, u3_j _ _ _ _ hj])) (by rw [hGXa 70 0 sv (show 7000 ∉ [7100, 7200, 7300, 7400, 7500] by first | exact nlm_ni rfl | decide), hX21, u3_k _ _ _ _ (by first | exact Nat.ne_of_beq_eq_false rfl | decide)]; exact hVX18) (hCa.le (by omega)) (by omega)) hGXc (by decide), by omega, (by rcases hsx31 with ⟨q, -, -⟩ | ⟨q1, q2, q3, q4, q5⟩; exfalso; omega; exact Or.inr (Or.inr ⟨(by (try delta Hid at *); omega), q1, by omega, q2 rfl, X15, q3, q4, q5, S4.tr (S4.frm q29 (by decide)) h4X15, S5.tr (S5.frm q29 (by decide)) h5X15, mSt.of q33 (by decide), Frm.arr q33 57 (by decide +kernel) (by decide), Frm.arr q33 58 (by decide +kernel) (by decide), Frm.arr q33 59 (by decide +kernel) (by decide), Frm.arr q33 56 (by decide +kernel) (by decide), (by rw [hGXc 70 0 sv (show 7000 ∉ [7700, 7800, 7900] by first | exact nlm_ni rfl | decide), hGXa 70 0 sv (show 7000 ∉ [7100, 7200, 7300, 7400, 7500] by first | exact nlm_ni rfl | decide), hX21, u3_k _ _ _ _ (by first | exact Nat.ne_of_beq_eq_false rfl | decide)]; rw [hVX18]; omega), (by rw [hGXc 76 0 sv (show 7600 ∉ [7700, 7800, 7900] by first | exact nlm_ni rfl | decide), hGXa 76 0 sv (show 7600 ∉ [7100, 7200, 7300, 7400, 7500] by first | exact nlm_ni rfl | decide)]; exact hVX21), fun j hj => ⟨(by rw [hGXc 70 0 j (show 7000 ∉ [7700, 7800, 7900] by first | exact nlm_ni rfl | decide), hGXa 70 0 j (show 7000 ∉ [7100, 7200, 7300, 7400, 7500] by first | exact nlm_ni rfl | decide), hX21, u3_k _ _ _ _ (by first | exact Nat.ne_of_beq_eq_false rfl | decide), hX18, u3_j _ _ _ _ hj]), (by rw [hGXc 76 0 j (show 7600 ∉ [7700, 7800, 7900] by first | exact nlm_ni rfl | decide), hGXa 76 0 j (show 7600 ∉ [7100, 7200, 7300, 7400, 7500] by first | exact nlm_ni rfl | decide), hX21, u3_j _ _ _ _ hj, hX18, u3_k _ _ _ _ (by first | exact Nat.ne_of_beq_eq_false rfl | decide)])⟩, (CpK.len (CpK.of c71 (Frm.arr q35 71 (by decide +kernel) (by decide))) (by omega)), (CpK.len (CpK.of c72 (Frm.arr q35 72 (by decide +kernel) (by decide))) (by omega)), (CpK.len (CpK.of c73 (Frm.arr q35 73 (by decide +kernel) (by decide))) (by omega)), (CpK.len (CpK.of c74 (Frm.arr q35 74 (by decide +kernel) (by decide))) (by omega)), (CpK.len (CpK.of c75 (Frm.arr q35 75 (by decide +kernel) (by decide))) (by omega)), (CpK.len (CpK.of c77 rfl) (by omega)), (CpK.len (CpK.of c78 rfl) (by omega)), (CpK.len (CpK.of c79 rfl) (by omega))⟩))⟩
                  · refine lv_aload_n hx hb dX9_save_239 rfl (lv_at hl 0 rfl) ?_
                    refine x_geto hx hb hf9 hw (by first | exact Int.le_refl 0 | omega) (by first | exact zlt hc40 | omega) sl_40_36 lk102 dX9_save_240 ?_
                    refine lv_sipush (v := jI 150) hx hb dX9_save_243 (by decide) ?_
                    refine lv_iload_n hx hb dX9_save_246 rfl (lv_at hl 1 rfl) ?_
                    refine x_imul hx hb dX9_save_247 ?_
                    refine lv_iload hx hb dX9_save_248 (lv_at hl 4 rfl) ?_
                    refine x_iadd hx hb dX9_save_250 ?_
                    refine lv_aload_n hx hb dX9_save_251 rfl (lv_at hl 0 rfl) ?_
                    refine x_geto hx hb hf9 hw (by first | exact Int.le_refl 0 | omega) (by first | exact zlt hc40 | omega) sl_40_36 lk102 dX9_save_252 ?_
                    refine lv_sipush (v := jI 600) hx hb dX9_save_255 (by decide) ?_
                    refine lv_iload hx hb dX9_save_258 (lv_at hl 4 rfl) ?_
                    refine x_iadd hx hb dX9_save_260 ?_
                    refine x_iald hx hb hK.1 hw (by first | exact Int.le_refl 0 | omega) (by first | exact zlt hc77 | omega) ar_77 (len_E ar_77 (by first | exact Nat.ne_of_beq_eq_false rfl | decide)) (by omega) (by omega) (by omega) dX9_save_261 ?_
                    have f40 : 0 ≤ Xc 77 0 (600 + r) ∧ Xc 77 0 (600 + r) ≤ 5 := hRXc 77 0 (600 + r)
                    refine x_iast hx hb hK.1 hw hS (by first | exact Int.le_refl 0 | omega) (by first | exact zlt hc77 | omega) ar_77 (len_E ar_77 (by first | exact Nat.ne_of_beq_eq_false rfl | decide)) (by omega) (by omega) (by omega) dX9_save_262 (fun H locs hw hS => ?_)
                    obtain ⟨X41, hX41⟩ : ∃ Xq, Xq = u3 Xc 77 0 ((150 * sv) + r) (Xc 77 0 (600 + r)) := ⟨_, rfl⟩
                    rw [← hX41] at hw
                    have hRX41 : Rng X41 := by rw [hX41]; exact rng_set hRXc (show 0 ≤ (Xc 77 0 (600 + r)) ∧ (Xc 77 0 (600 + r)) ≤ 5 by omega)
                    have hVX41 : X41 77 0 ((150 * sv) + r) = (Xc 77 0 (600 + r)) := by rw [hX41]; exact u3_s _ _ _ _ _
                    have hFX41 : Frm [4001, 7100, 7200, 7300, 7400, 7500, 8000, 7000, 8100, 7700, 7800, 7900, 7600, 4042, 4043, 4044] X X41 := by rw [hX41]; exact Frm.set hFXc (show 7700 ∈ [4001, 7100, 7200, 7300, 7400, 7500, 8000, 7000, 8100, 7700, 7800, 7900, 7600, 4042, 4043, 4044] by first | exact nlm_in rfl | decide)
                    refine lv_aload_n hx hb dX9_save_263 rfl (lv_at hl 0 rfl) ?_
                    refine x_geto hx hb hf9 hw (by first | exact Int.le_refl 0 | omega) (by first | exact zlt hc40 | omega) sl_40_37 lk105 dX9_save_264 ?_
                    refine lv_sipush (v := jI 150) hx hb dX9_save_267 (by decide) ?_
                    refine lv_iload_n hx hb dX9_save_270 rfl (lv_at hl 1 rfl) ?_
                    refine x_imul hx hb dX9_save_271 ?_
                    refine lv_iload hx hb dX9_save_272 (lv_at hl 4 rfl) ?_
                    refine x_iadd hx hb dX9_save_274 ?_
                    refine lv_aload_n hx hb dX9_save_275 rfl (lv_at hl 0 rfl) ?_
                    refine x_geto hx hb hf9 hw (by first | exact Int.le_refl 0 | omega) (by first | exact zlt hc40 | omega) sl_40_37 lk105 dX9_save_276 ?_
                    refine lv_sipush (v := jI 600) hx hb dX9_save_279 (by decide) ?_
                    refine lv_iload hx hb dX9_save_282 (lv_at hl 4 rfl) ?_
                    refine x_iadd hx hb dX9_save_284 ?_
                    refine x_iald hx hb hK.1 hw (by first | exact Int.le_refl 0 | omega) (by first | exact zlt hc78 | omega) ar_78 (len_E ar_78 (by first | exact Nat.ne_of_beq_eq_false rfl | decide)) (by omega) (by omega) (by omega) dX9_save_285 ?_
                    have e42 : ∀ p9 q9 : Int, X41 78 p9 q9 = Xc 78 p9 q9 := fun p9 q9 => by rw [hX41, u3_k _ _ _ _ (by first | exact Nat.ne_of_beq_eq_false rfl | decide)]
                    rw [e42 0 (600 + r)]
                    have f43 : 0 ≤ Xc 78 0 (600 + r) ∧ Xc 78 0 (600 + r) ≤ 12 := hRXc 78 0 (600 + r)
                    refine x_iast hx hb hK.1 hw hS (by first | exact Int.le_refl 0 | omega) (by first | exact zlt hc78 | omega) ar_78 (len_E ar_78 (by first | exact Nat.ne_of_beq_eq_false rfl | decide)) (by omega) (by omega) (by omega) dX9_save_286 (fun H locs hw hS => ?_)
                    obtain ⟨X44, hX44⟩ : ∃ Xq, Xq = u3 X41 78 0 ((150 * sv) + r) (Xc 78 0 (600 + r)) := ⟨_, rfl⟩
                    rw [← hX44] at hw
                    have hRX44 : Rng X44 := by rw [hX44]; exact rng_set hRX41 (show 0 ≤ (Xc 78 0 (600 + r)) ∧ (Xc 78 0 (600 + r)) ≤ 12 by omega)
                    have hVX44 : X44 78 0 ((150 * sv) + r) = (Xc 78 0 (600 + r)) := by rw [hX44]; exact u3_s _ _ _ _ _
                    have hFX44 : Frm [4001, 7100, 7200, 7300, 7400, 7500, 8000, 7000, 8100, 7700, 7800, 7900, 7600, 4042, 4043, 4044] X X44 := by rw [hX44]; exact Frm.set hFX41 (show 7800 ∈ [4001, 7100, 7200, 7300, 7400, 7500, 8000, 7000, 8100, 7700, 7800, 7900, 7600, 4042, 4043, 4044] by first | exact nlm_in rfl | decide)
                    refine lv_iconst (v := jI 0) hx hb dX9_save_287 rfl ?_
                    refine lv_istore (lv' := [(5, .int (jI 0)), (0, .ref (ad 40 0)), (1, .int (jI sv)), (2, .int (jI x)), (3, .int (jI z12)), (4, .int (jI r))]) hx hb dX9_save_288 hl (by decide) rfl (fun ls hl => ?_)
                    have lp290 : ∀ (nn : Nat) (k : Int) (Xd : Nat → Int → Int → Int) (H : Heap) (locs : List Loc) (ls : Array Slot), (12 - k) < (nn : Int) → (Rng Xd) → (Frm [7900] X44 Xd) → (0 ≤ k ∧ k ≤ 12) → (CpK 77 X15 Xd (150 * sv) 600 (r + 1)) → (CpK 78 X15 Xd (150 * sv) 600 (r + 1)) → (CpK 79 X15 Xd (1800 * sv) 7200 (12 * r + k)) → wd D tc base (ad, cnt, Xd, Y, ln) H → va_S (frA base) s.heap H locs → lv_has ls 6 [(0, .ref (ad 40 0)), (1, .int (jI sv)), (2, .int (jI x)), (3, .int (jI z12)), (4, .int (jI r)), (5, .int (jI k))] → W p l e ({ frames := 2, cells := 0, slots := 0, locals := 53 } : Room) s m av9 below meth c H locs 0 0 Q9 (F0 m 290 ls []) := by
                      intro nn
                      induction nn with
                      | zero => intro k Xd H locs ls hm hRXd hGXd hk d77 d78 d79 hw hS hl; exfalso; omega
                      | succ nn ih290 =>
                        intro k Xd H locs ls hm hRXd hGXd hk d77 d78 d79 hw hS hl
                        have hFXd : Frm [4001, 7100, 7200, 7300, 7400, 7500, 8000, 7000, 8100, 7700, 7800, 7900, 7600, 4042, 4043, 4044] X Xd := Frm.tr hFX44 (Frm.mono hGXd (by first | exact nls_of rfl | decide))
                        refine lv_iload hx hb dX9_save_290 (lv_at hl 5 rfl) ?_
                        refine lv_bipush (v := jI 12) hx hb dX9_save_292 (by decide) ?_
                        refine x_icmp_ge (tgt := 339) hx hb (by omega) (by omega) dX9_save_294 (by decide) (fun c45 => ?_) (fun c45 => ?_)
                        · refine lv_iinc (v := jI (r + 1)) (lv' := [(4, .int (jI (r + 1))), (0, .ref (ad 40 0)), (1, .int (jI sv)), (2, .int (jI x)), (3, .int (jI z12)), (5, .int (jI k))]) hx hb dX9_save_339 hl (k := 4) rfl (jI_add _ _) (by decide) rfl (fun ls hl => ?_)
                          refine lv_goto (tgt := 228) hx hb dX9_save_342 (by decide) ?_
                          have q46 : Frm [7700, 7800, 7900] Xa Xc := Frm.tr Frm.rf (Frm.mono hGXc (by first | exact nls_of rfl | decide))
                          have q47 : Frm [7700, 7800, 7900] Xa X41 := by rw [hX41]; exact Frm.set q46 (show 7700 ∈ [7700, 7800, 7900] by first | exact nlm_in rfl | decide)
                          have q48 : Frm [7700, 7800, 7900] Xa X44 := by rw [hX44]; exact Frm.set q47 (show 7800 ∈ [7700, 7800, 7900] by first | exact nlm_in rfl | decide)
                          have q49 : Frm [7700, 7800, 7900] Xa Xd := Frm.tr q48 (Frm.mono hGXd (by first | exact nls_of rfl | decide))
                          have e50 : Xd 76 0 4 = X21 76 0 4 := by rw [hGXd 76 0 4 (show 7600 ∉ [7900] by first | exact nlm_ni rfl | decide), hX44, u3_k _ _ _ _ (by first | exact Nat.ne_of_beq_eq_false rfl | decide), hX41, u3_k _ _ _ _ (by first | exact Nat.ne_of_beq_eq_false rfl | decide), hGXc 76 0 4 (show 7600 ∉ [7700, 7800, 7900] by first | exact nlm_ni rfl | decide), hGXa 76 0 4 (show 7600 ∉ [7100, 7200, 7300, 7400, 7500] by first | exact nlm_ni rfl | decide)]
                          exact ih228 (r + 1) Xd _ _ _ (by omega) hRXd q49 (by first | omega | (simp only [e50]; omega)) (d77) (d78) (CpK.len d79 (by omega)) (by first | omega | (simp only [e50]; omega)) hw hS (lv_sub hl [1, 2, 3, 4, 0] rfl)
                        · refine lv_aload_n hx hb dX9_save_297 rfl (lv_at hl 0 rfl) ?_
                          refine x_geto hx hb hf9 hw (by first | exact Int.le_refl 0 | omega) (by first | exact zlt hc40 | omega) sl_40_38 lk108 dX9_save_298 ?_
                          refine lv_bipush (v := jI 12) hx hb dX9_save_301 (by decide) ?_
                          refine lv_sipush (v := jI 150) hx hb dX9_save_303 (by decide) ?_
                          refine lv_iload_n hx hb dX9_save_306 rfl (lv_at hl 1 rfl) ?_
                          refine x_imul hx hb dX9_save_307 ?_
                          refine lv_iload hx hb dX9_save_308 (lv_at hl 4 rfl) ?_
                          refine x_iadd hx hb dX9_save_310 ?_
                          refine x_imul hx hb dX9_save_311 ?_
                          refine lv_iload hx hb dX9_save_312 (lv_at hl 5 rfl) ?_
                          refine x_iadd hx hb dX9_save_314 ?_
                          refine lv_aload_n hx hb dX9_save_315 rfl (lv_at hl 0 rfl) ?_
                          refine x_geto hx hb hf9 hw (by first | exact Int.le_refl 0 | omega) (by first | exact zlt hc40 | omega) sl_40_38 lk108 dX9_save_316 ?_
                          refine lv_bipush (v := jI 12) hx hb dX9_save_319 (by decide) ?_
                          refine lv_sipush (v := jI 600) hx hb dX9_save_321 (by decide) ?_
                          refine lv_iload hx hb dX9_save_324 (lv_at hl 4 rfl) ?_
                          refine x_iadd hx hb dX9_save_326 ?_
                          refine x_imul hx hb dX9_save_327 ?_
                          refine lv_iload hx hb dX9_save_328 (lv_at hl 5 rfl) ?_
                          refine x_iadd hx hb dX9_save_330 ?_
                          refine x_lald hx hb hK.1 hw (by first | exact Int.le_refl 0 | omega) (by first | exact zlt hc79 | omega) ar_79 (len_E ar_79 (by first | exact Nat.ne_of_beq_eq_false rfl | decide)) (by omega) (by omega) (by omega) dX9_save_331 ?_
                          have f51 : (-9223372036854775808) ≤ Xd 79 0 ((12 * (600 + r)) + k) ∧ Xd 79 0 ((12 * (600 + r)) + k) ≤ 9223372036854775807 := hRXd 79 0 ((12 * (600 + r)) + k)
                          refine x_last hx hb hK.1 hw hS (by first | exact Int.le_refl 0 | omega) (by first | exact zlt hc79 | omega) ar_79 (len_E ar_79 (by first | exact Nat.ne_of_beq_eq_false rfl | decide)) (by omega) (by omega) (by omega) dX9_save_332 (fun H locs hw hS => ?_)
                          obtain ⟨X52, hX52⟩ : ∃ Xq, Xq = u3 Xd 79 0 ((12 * ((150 * sv) + r)) + k) (Xd 79 0 ((12 * (600 + r)) + k)) := ⟨_, rfl⟩
                          rw [← hX52] at hw
                          have hRX52 : Rng X52 := by rw [hX52]; exact rng_set hRXd (show (-9223372036854775808) ≤ (Xd 79 0 ((12 * (600 + r)) + k)) ∧ (Xd 79 0 ((12 * (600 + r)) + k)) ≤ 9223372036854775807 by omega)
                          have hVX52 : X52 79 0 ((12 * ((150 * sv) + r)) + k) = (Xd 79 0 ((12 * (600 + r)) + k)) := by rw [hX52]; exact u3_s _ _ _ _ _
                          have hFX52 : Frm [4001, 7100, 7200, 7300, 7400, 7500, 8000, 7000, 8100, 7700, 7800, 7900, 7600, 4042, 4043, 4044] X X52 := by rw [hX52]; exact Frm.set hFXd (show 7900 ∈ [4001, 7100, 7200, 7300, 7400, 7500, 8000, 7000, 8100, 7700, 7800, 7900, 7600, 4042, 4043, 4044] by first | exact nlm_in rfl | decide)
                          refine lv_iinc (v := jI (k + 1)) (lv' := [(5, .int (jI (k + 1))), (0, .ref (ad 40 0)), (1, .int (jI sv)), (2, .int (jI x)), (3, .int (jI z12)), (4, .int (jI r))]) hx hb dX9_save_333 hl (k := 5) rfl (jI_add _ _) (by decide) rfl (fun ls hl => ?_)
                          refine lv_goto (tgt := 290) hx hb dX9_save_336 (by decide) ?_
                          have q53 : Frm [7900] X44 Xd := Frm.tr Frm.rf (Frm.mono hGXd (by first | exact nls_of rfl | decide))
                          have q54 : Frm [7900] X44 X52 := by rw [hX52]; exact Frm.set q53 (show 7900 ∈ [7900] by first | exact nlm_in rfl | decide)
                          have q55 : Frm [7900] Xd X52 := by rw [hX52]; exact Frm.set Frm.rf (show 7900 ∈ [7900] by first | exact nlm_in rfl | decide)
                          exact ih290 (k + 1) X52 _ _ _ (by omega) hRX52 q54 (by omega) (CpK.of d77 (Frm.arr q55 77 (by decide +kernel) (by decide))) (CpK.of d78 (Frm.arr q55 78 (by decide +kernel) (by decide))) (CpK.len (CpK.step (Xc := Xd) (a := 12 * (150 * sv + r) + k) (b := 12 * (600 + r) + k) d79 (by omega) (by omega) rfl (by rw [hX52]) (by omega) rfl (by omega)) (by omega)) hw hS (lv_sub hl [1, 2, 3, 4, 5, 0] rfl)
                    have q57 : Frm [7700, 7800] Xc X41 := by rw [hX41]; exact Frm.set Frm.rf (show 7700 ∈ [7700, 7800] by first | exact nlm_in rfl | decide)
                    have q58 : Frm [7700, 7800] Xc X44 := by rw [hX44]; exact Frm.set q57 (show 7800 ∈ [7700, 7800] by first | exact nlm_in rfl | decide)
                    exact lp290 (12 - 0 : Int).toNat.succ 0 X44 _ _ _ (by omega) hRX44 Frm.rf (by omega) (CpK.step (Xc := Xc) (a := 150 * sv + r) (b := 600 + r) c77 (by omega) (by omega) rfl (by rw [hX44, u3_k _ _ _ _ (by first | exact Nat.ne_of_beq_eq_false rfl | decide), hX41]) (by omega) rfl (by omega)) (CpK.step (Xc := X41) (a := 150 * sv + r) (b := 600 + r) c78 (by omega) (by omega) (by rw [hX41, u3_k _ _ _ _ (by first | exact Nat.ne_of_beq_eq_false rfl | decide)]) (by rw [hX44]) (by omega) rfl (by omega)) (CpK.len (CpK.of c79 (Frm.arr q58 79 (by decide +kernel) (by decide))) (by omega)) hw hS (lv_sub hl [1, 2, 3, 4, 5, 0] rfl)
              have e59 : Xa 76 0 4 = X21 76 0 4 := by rw [hGXa 76 0 4 (show 7600 ∉ [7100, 7200, 7300, 7400, 7500] by first | exact nlm_ni rfl | decide)]
              have q60 : Frm [7000, 7100, 7200, 7300, 7400, 7500, 7600] X15 X18 := by rw [hX18]; exact Frm.set Frm.rf (show 7000 ∈ [7000, 7100, 7200, 7300, 7400, 7500, 7600] by first | exact nlm_in rfl | decide)
              have q61 : Frm [7000, 7100, 7200, 7300, 7400, 7500, 7600] X15 X21 := by rw [hX21]; exact Frm.set q60 (show 7600 ∈ [7000, 7100, 7200, 7300, 7400, 7500, 7600] by first | exact nlm_in rfl | decide)
              have q62 : Frm [7000, 7100, 7200, 7300, 7400, 7500, 7600] X15 Xa := Frm.tr q61 (Frm.mono hGXa (by first | exact nls_of rfl | decide))
              exact lp228 (150 - 0 : Int).toNat.succ 0 Xa _ _ _ (by omega) hRXa Frm.rf (by first | omega | (simp only [e59]; omega)) (CpK.len (CpK.in_ (Frm.arr q62 77 (by decide +kernel) (by decide))) (by omega)) (CpK.len (CpK.in_ (Frm.arr q62 78 (by decide +kernel) (by decide))) (by omega)) (CpK.len (CpK.in_ (Frm.arr q62 79 (by decide +kernel) (by decide))) (by omega)) (by first | omega | (simp only [e59]; omega)) hw hS (lv_sub hl [1, 2, 3, 4, 0] rfl)
            · refine lv_aload_n hx hb dX9_save_64 rfl (lv_at hl 0 rfl) ?_
              refine x_geto hx hb hf9 hw (by first | exact Int.le_refl 0 | omega) (by first | exact zlt hc40 | omega) sl_40_30 lk84 dX9_save_65 ?_
              refine lv_bipush (v := jI 30) hx hb dX9_save_68 (by decide) ?_
              refine lv_iload_n hx hb dX9_save_70 rfl (lv_at hl 1 rfl) ?_
              refine x_imul hx hb dX9_save_71 ?_
              refine lv_iload hx hb dX9_save_72 (lv_at hl 4 rfl) ?_
              refine x_iadd hx hb dX9_save_74 ?_
              refine lv_aload_n hx hb dX9_save_75 rfl (lv_at hl 0 rfl) ?_
              refine x_geto hx hb hf9 hw (by first | exact Int.le_refl 0 | omega) (by first | exact zlt hc40 | omega) sl_40_30 lk84 dX9_save_76 ?_
              refine lv_bipush (v := jI 120) hx hb dX9_save_79 (by decide) ?_
              refine lv_iload hx hb dX9_save_81 (lv_at hl 4 rfl) ?_
              refine x_iadd hx hb dX9_save_83 ?_
              refine x_iald hx hb hK.1 hw (by first | exact Int.le_refl 0 | omega) (by first | exact zlt hc71 | omega) ar_71 (len_E ar_71 (by first | exact Nat.ne_of_beq_eq_false rfl | decide)) (by omega) (by omega) (by omega) dX9_save_84 ?_
              have f69 : 0 ≤ Xa 71 0 (120 + r) ∧ Xa 71 0 (120 + r) ≤ 7 := hRXa 71 0 (120 + r)
              refine x_iast hx hb hK.1 hw hS (by first | exact Int.le_refl 0 | omega) (by first | exact zlt hc71 | omega) ar_71 (len_E ar_71 (by first | exact Nat.ne_of_beq_eq_false rfl | decide)) (by omega) (by omega) (by omega) dX9_save_85 (fun H locs hw hS => ?_)
              obtain ⟨X70, hX70⟩ : ∃ Xq, Xq = u3 Xa 71 0 ((30 * sv) + r) (Xa 71 0 (120 + r)) := ⟨_, rfl⟩
              rw [← hX70] at hw
              have hRX70 : Rng X70 := by rw [hX70]; exact rng_set hRXa (show 0 ≤ (Xa 71 0 (120 + r)) ∧ (Xa 71 0 (120 + r)) ≤ 7 by omega)
              have hVX70 : X70 71 0 ((30 * sv) + r) = (Xa 71 0 (120 + r)) := by rw [hX70]; exact u3_s _ _ _ _ _
              have hFX70 : Frm [4001, 7100, 7200, 7300, 7400, 7500, 8000, 7000, 8100, 7700, 7800, 7900, 7600, 4042, 4043, 4044] X X70 := by rw [hX70]; exact Frm.set hFXa (show 7100 ∈ [4001, 7100, 7200, 7300, 7400, 7500, 8000, 7000, 8100, 7700, 7800, 7900, 7600, 4042, 4043, 4044] by first | exact nlm_in rfl | decide)
              refine lv_aload_n hx hb dX9_save_86 rfl (lv_at hl 0 rfl) ?_
              refine x_geto hx hb hf9 hw (by first | exact Int.le_refl 0 | omega) (by first | exact zlt hc40 | omega) sl_40_31 lk87 dX9_save_87 ?_
              refine lv_bipush (v := jI 30) hx hb dX9_save_90 (by decide) ?_
              refine lv_iload_n hx hb dX9_save_92 rfl (lv_at hl 1 rfl) ?_
              refine x_imul hx hb dX9_save_93 ?_
              refine lv_iload hx hb dX9_save_94 (lv_at hl 4 rfl) ?_
              refine x_iadd hx hb dX9_save_96 ?_
              refine lv_aload_n hx hb dX9_save_97 rfl (lv_at hl 0 rfl) ?_
              refine x_geto hx hb hf9 hw (by first | exact Int.le_refl 0 | omega) (by first | exact zlt hc40 | omega) sl_40_31 lk87 dX9_save_98 ?_
              refine lv_bipush (v := jI 120) hx hb dX9_save_101 (by decide) ?_
              refine lv_iload hx hb dX9_save_103 (lv_at hl 4 rfl) ?_
              refine x_iadd hx hb dX9_save_105 ?_
              refine x_iald hx hb hK.1 hw (by first | exact Int.le_refl 0 | omega) (by first | exact zlt hc72 | omega) ar_72 (len_E ar_72 (by first | exact Nat.ne_of_beq_eq_false rfl | decide)) (by omega) (by omega) (by omega) dX9_save_106 ?_
              have e71 : ∀ p9 q9 : Int, X70 72 p9 q9 = Xa 72 p9 q9 := fun p9 q9 => by rw [hX70, u3_k _ _ _ _ (by first | exact Nat.ne_of_beq_eq_false rfl | decide)]
              rw [e71 0 (120 + r)]
              have f72 : 0 ≤ Xa 72 0 (120 + r) ∧ Xa 72 0 (120 + r) ≤ 5 := hRXa 72 0 (120 + r)
              refine x_iast hx hb hK.1 hw hS (by first | exact Int.le_refl 0 | omega) (by first | exact zlt hc72 | omega) ar_72 (len_E ar_72 (by first | exact Nat.ne_of_beq_eq_false rfl | decide)) (by omega) (by omega) (by omega) dX9_save_107 (fun H locs hw hS => ?_)
              obtain ⟨X73, hX73⟩ : ∃ Xq, Xq = u3 X70 72 0 ((30 * sv) + r) (Xa 72 0 (120 + r)) := ⟨_, rfl⟩
              rw [← hX73] at hw
              have hRX73 : Rng X73 := by rw [hX73]; exact rng_set hRX70 (show 0 ≤ (Xa 72 0 (120 + r)) ∧ (Xa 72 0 (120 + r)) ≤ 5 by omega)
              have hVX73 : X73 72 0 ((30 * sv) + r) = (Xa 72 0 (120 + r)) := by rw [hX73]; exact u3_s _ _ _ _ _
              have hFX73 : Frm [4001, 7100, 7200, 7300, 7400, 7500, 8000, 7000, 8100, 7700, 7800, 7900, 7600, 4042, 4043, 4044] X X73 := by rw [hX73]; exact Frm.set hFX70 (show 7200 ∈ [4001, 7100, 7200, 7300, 7400, 7500, 8000, 7000, 8100, 7700, 7800, 7900, 7600, 4042, 4043, 4044] by first | exact nlm_in rfl | decide)
              refine lv_iconst (v := jI 0) hx hb dX9_save_108 rfl ?_
              refine lv_istore (lv' := [(5, .int (jI 0)), (0, .ref (ad 40 0)), (1, .int (jI sv)), (2, .int (jI x)), (3, .int (jI z12)), (4, .int (jI r))]) hx hb dX9_save_109 hl (by decide) rfl (fun ls hl => ?_)
              have lp111 : ∀ (nn : Nat) (k : Int) (Xb : Nat → Int → Int → Int) (H : Heap) (locs : List Loc) (ls : Array Slot), (5 - k) < (nn : Int) → (Rng Xb) → (Frm [7300, 7400, 7500] X73 Xb) → (0 ≤ k ∧ k ≤ 5) → (Cpy X15 Xb sv (r + 1) r k) → (CpK 71 X15 Xb (30 * sv) 120 (r + 1)) → (CpK 72 X15 Xb (30 * sv) 120 (r + 1)) → (CpK 73 X15 Xb (150 * sv) 600 (5 * r + k)) → (CpK 74 X15 Xb (150 * sv) 600 (5 * r + k)) → (CpK 75 X15 Xb (150 * sv) 600 (5 * r + k)) → wd D tc base (ad, cnt, Xb, Y, ln) H → va_S (frA base) s.heap H locs → lv_has ls 6 [(0, .ref (ad 40 0)), (1, .int (jI sv)), (2, .int (jI x)), (3, .int (jI z12)), (4, .int (jI r)), (5, .int (jI k))] → W p l e ({ frames := 2, cells := 0, slots := 0, locals := 53 } : Room) s m av9 below meth c H locs 0 0 Q9 (F0 m 111 ls []) := by
                intro nn
                induction nn with
                | zero => intro k Xb H locs ls hm hRXb hGXb hk hCb d71 d72 d73 d74 d75 hw hS hl; exfalso; omega
                | succ nn ih111 =>
                  intro k Xb H locs ls hm hRXb hGXb hk hCb d71 d72 d73 d74 d75 hw hS hl
                  have hFXb : Frm [4001, 7100, 7200, 7300, 7400, 7500, 8000, 7000, 8100, 7700, 7800, 7900, 7600, 4042, 4043, 4044] X Xb := Frm.tr hFX73 (Frm.mono hGXb (by first | exact nls_of rfl | decide))
                  refine lv_iload hx hb dX9_save_111 (lv_at hl 5 rfl) ?_
                  refine lv_iconst (v := jI 5) hx hb dX9_save_113 rfl ?_
                  refine x_icmp_ge (tgt := 219) hx hb (by omega) (by omega) dX9_save_114 (by decide) (fun c74 => ?_) (fun c74 => ?_)
                  · refine lv_iinc (v := jI (r + 1)) (lv' := [(4, .int (jI (r + 1))), (0, .ref (ad 40 0)), (1, .int (jI sv)), (2, .int (jI x)), (3, .int (jI z12)), (5, .int (jI k))]) hx hb dX9_save_219 hl (k := 4) rfl (jI_add _ _) (by decide) rfl (fun ls hl => ?_)
                    refine lv_goto (tgt := 58) hx hb dX9_save_222 (by decide) ?_
                    have q75 : Frm [7100, 7200, 7300, 7400, 7500] X21 Xa := Frm.tr Frm.rf (Frm.mono hGXa (by first | exact nls_of rfl | decide))
                    have q76 : Frm [7100, 7200, 7300, 7400, 7500] X21 X70 := by rw [hX70]; exact Frm.set q75 (show 7100 ∈ [7100, 7200, 7300, 7400, 7500] by first | exact nlm_in rfl | decide)
                    have q77 : Frm [7100, 7200, 7300, 7400, 7500] X21 X73 := by rw [hX73]; exact Frm.set q76 (show 7200 ∈ [7100, 7200, 7300, 7400, 7500] by first | exact nlm_in rfl | decide)
                    have q78 : Frm [7100, 7200, 7300, 7400, 7500] X21 Xb := Frm.tr q77 (Frm.mono hGXb (by first | exact nls_of rfl | decide))
                    exact ih58 (r + 1) Xb _ _ _ (by omega) hRXb q78 (by omega) (hCb.next (by omega)) (d71) (d72) (CpK.len d73 (by omega)) (CpK.len d74 (by omega)) (CpK.len d75 (by omega)) (by omega) hw hS (lv_sub hl [1, 2, 3, 4, 0] rfl)
                  · refine lv_aload_n hx hb dX9_save_117 rfl (lv_at hl 0 rfl) ?_
                    refine x_geto hx hb hf9 hw (by first | exact Int.le_refl 0 | omega) (by first | exact zlt hc40 | omega) sl_40_32 lk90 dX9_save_118 ?_
                    refine lv_iconst (v := jI 5) hx hb dX9_save_121 rfl ?_
                    refine lv_bipush (v := jI 30) hx hb dX9_save_122 (by decide) ?_
                    refine lv_iload_n hx hb dX9_save_124 rfl (lv_at hl 1 rfl) ?_
                    refine x_imul hx hb dX9_save_125 ?_
                    refine lv_iload hx hb dX9_save_126 (lv_at hl 4 rfl) ?_
                    refine x_iadd hx hb dX9_save_128 ?_
                    refine x_imul hx hb dX9_save_129 ?_
                    refine lv_iload hx hb dX9_save_130 (lv_at hl 5 rfl) ?_
                    refine x_iadd hx hb dX9_save_132 ?_
                    refine lv_aload_n hx hb dX9_save_133 rfl (lv_at hl 0 rfl) ?_
                    refine x_geto hx hb hf9 hw (by first | exact Int.le_refl 0 | omega) (by first | exact zlt hc40 | omega) sl_40_32 lk90 dX9_save_134 ?_
                    refine lv_iconst (v := jI 5) hx hb dX9_save_137 rfl ?_
                    refine lv_bipush (v := jI 120) hx hb dX9_save_138 (by decide) ?_
                    refine lv_iload hx hb dX9_save_140 (lv_at hl 4 rfl) ?_
                    refine x_iadd hx hb dX9_save_142 ?_
                    refine x_imul hx hb dX9_save_143 ?_
                    refine lv_iload hx hb dX9_save_144 (lv_at hl 5 rfl) ?_
                    refine x_iadd hx hb dX9_save_146 ?_
                    refine x_iald hx hb hK.1 hw (by first | exact Int.le_refl 0 | omega) (by first | exact zlt hc73 | omega) ar_73 (len_E ar_73 (by first | exact Nat.ne_of_beq_eq_false rfl | decide)) (by omega) (by omega) (by omega) dX9_save_147 ?_
                    have f79 : 0 ≤ Xb 73 0 ((5 * (120 + r)) + k) ∧ Xb 73 0 ((5 * (120 + r)) + k) ≤ 19 := hRXb 73 0 ((5 * (120 + r)) + k)
                    refine x_iast hx hb hK.1 hw hS (by first | exact Int.le_refl 0 | omega) (by first | exact zlt hc73 | omega) ar_73 (len_E ar_73 (by first | exact Nat.ne_of_beq_eq_false rfl | decide)) (by omega) (by omega) (by omega) dX9_save_148 (fun H locs hw hS => ?_)
                    obtain ⟨X80, hX80⟩ : ∃ Xq, Xq = u3 Xb 73 0 ((5 * ((30 * sv) + r)) + k) (Xb 73 0 ((5 * (120 + r)) + k)) := ⟨_, rfl⟩
                    rw [← hX80] at hw
                    have hRX80 : Rng X80 := by rw [hX80]; exact rng_set hRXb (show 0 ≤ (Xb 73 0 ((5 * (120 + r)) + k)) ∧ (Xb 73 0 ((5 * (120 + r)) + k)) ≤ 19 by omega)
                    have hVX80 : X80 73 0 ((5 * ((30 * sv) + r)) + k) = (Xb 73 0 ((5 * (120 + r)) + k)) := by rw [hX80]; exact u3_s _ _ _ _ _
                    have hFX80 : Frm [4001, 7100, 7200, 7300, 7400, 7500, 8000, 7000, 8100, 7700, 7800, 7900, 7600, 4042, 4043, 4044] X X80 := by rw [hX80]; exact Frm.set hFXb (show 7300 ∈ [4001, 7100, 7200, 7300, 7400, 7500, 8000, 7000, 8100, 7700, 7800, 7900, 7600, 4042, 4043, 4044] by first | exact nlm_in rfl | decide)
                    refine lv_aload_n hx hb dX9_save_149 rfl (lv_at hl 0 rfl) ?_
                    refine x_geto hx hb hf9 hw (by first | exact Int.le_refl 0 | omega) (by first | exact zlt hc40 | omega) sl_40_33 lk93 dX9_save_150 ?_
                    refine lv_iconst (v := jI 5) hx hb dX9_save_153 rfl ?_
                    refine lv_bipush (v := jI 30) hx hb dX9_save_154 (by decide) ?_
                    refine lv_iload_n hx hb dX9_save_156 rfl (lv_at hl 1 rfl) ?_
                    refine x_imul hx hb dX9_save_157 ?_
                    refine lv_iload hx hb dX9_save_158 (lv_at hl 4 rfl) ?_
                    refine x_iadd hx hb dX9_save_160 ?_
                    refine x_imul hx hb dX9_save_161 ?_
                    refine lv_iload hx hb dX9_save_162 (lv_at hl 5 rfl) ?_
                    refine x_iadd hx hb dX9_save_164 ?_
                    refine lv_aload_n hx hb dX9_save_165 rfl (lv_at hl 0 rfl) ?_
                    refine x_geto hx hb hf9 hw (by first | exact Int.le_refl 0 | omega) (by first | exact zlt hc40 | omega) sl_40_33 lk93 dX9_save_166 ?_
                    refine lv_iconst (v := jI 5) hx hb dX9_save_169 rfl ?_
                    refine lv_bipush (v := jI 120) hx hb dX9_save_170 (by decide) ?_
                    refine lv_iload hx hb dX9_save_172 (lv_at hl 4 rfl) ?_
                    refine x_iadd hx hb dX9_save_174 ?_
                    refine x_imul hx hb dX9_save_175 ?_
                    refine lv_iload hx hb dX9_save_176 (lv_at hl 5 rfl) ?_
                    refine x_iadd hx hb dX9_save_178 ?_
                    refine x_iald hx hb hK.1 hw (by first | exact Int.le_refl 0 | omega) (by first | exact zlt hc74 | omega) ar_74 (len_E ar_74 (by first | exact Nat.ne_of_beq_eq_false rfl | decide)) (by omega) (by omega) (by omega) dX9_save_179 ?_
                    have e81 : ∀ p9 q9 : Int, X80 74 p9 q9 = Xb 74 p9 q9 := fun p9 q9 => by rw [hX80, u3_k _ _ _ _ (by first | exact Nat.ne_of_beq_eq_false rfl | decide)]
                    rw [e81 0 ((5 * (120 + r)) + k)]
                    have f82 : 0 ≤ Xb 74 0 ((5 * (120 + r)) + k) ∧ Xb 74 0 ((5 * (120 + r)) + k) ≤ 5 := hRXb 74 0 ((5 * (120 + r)) + k)
                    refine x_iast hx hb hK.1 hw hS (by first | exact Int.le_refl 0 | omega) (by first | exact zlt hc74 | omega) ar_74 (len_E ar_74 (by first | exact Nat.ne_of_beq_eq_false rfl | decide)) (by omega) (by omega) (by omega) dX9_save_180 (fun H locs hw hS => ?_)
                    obtain ⟨X83, hX83⟩ : ∃ Xq, Xq = u3 X80 74 0 ((5 * ((30 * sv) + r)) + k) (Xb 74 0 ((5 * (120 + r)) + k)) := ⟨_, rfl⟩
                    rw [← hX83] at hw
                    have hRX83 : Rng X83 := by rw [hX83]; exact rng_set hRX80 (show 0 ≤ (Xb 74 0 ((5 * (120 + r)) + k)) ∧ (Xb 74 0 ((5 * (120 + r)) + k)) ≤ 5 by omega)
                    have hVX83 : X83 74 0 ((5 * ((30 * sv) + r)) + k) = (Xb 74 0 ((5 * (120 + r)) + k)) := by rw [hX83]; exact u3_s _ _ _ _ _
                    have hFX83 : Frm [4001, 7100, 7200, 7300, 7400, 7500, 8000, 7000, 8100, 7700, 7800, 7900, 7600, 4042, 4043, 4044] X X83 := by rw [hX83]; exact Frm.set hFX80 (show 7400 ∈ [4001, 7100, 7200, 7300, 7400, 7500, 8000, 7000, 8100, 7700, 7800, 7900, 7600, 4042, 4043, 4044] by first | exact nlm_in rfl | decide)
                    refine lv_aload_n hx hb dX9_save_181 rfl (lv_at hl 0 rfl) ?_
                    refine x_geto hx hb hf9 hw (by first | exact Int.le_refl 0 | omega) (by first | exact zlt hc40 | omega) sl_40_34 lk96 dX9_save_182 ?_
                    refine lv_iconst (v := jI 5) hx hb dX9_save_185 rfl ?_
                    refine lv_bipush (v := jI 30) hx hb dX9_save_186 (by decide) ?_
                    refine lv_iload_n hx hb dX9_save_188 rfl (lv_at hl 1 rfl) ?_
                    refine x_imul hx hb dX9_save_189 ?_
                    refine lv_iload hx hb dX9_save_190 (lv_at hl 4 rfl) ?_
                    refine x_iadd hx hb dX9_save_192 ?_
                    refine x_imul hx hb dX9_save_193 ?_
                    refine lv_iload hx hb dX9_save_194 (lv_at hl 5 rfl) ?_
                    refine x_iadd hx hb dX9_save_196 ?_
                    refine lv_aload_n hx hb dX9_save_197 rfl (lv_at hl 0 rfl) ?_
                    refine x_geto hx hb hf9 hw (by first | exact Int.le_refl 0 | omega) (by first | exact zlt hc40 | omega) sl_40_34 lk96 dX9_save_198 ?_
                    refine lv_iconst (v := jI 5) hx hb dX9_save_201 rfl ?_
                    refine lv_bipush (v := jI 120) hx hb dX9_save_202 (by decide) ?_
                    refine lv_iload hx hb dX9_save_204 (lv_at hl 4 rfl) ?_
                    refine x_iadd hx hb dX9_save_206 ?_
                    refine x_imul hx hb dX9_save_207 ?_
                    refine lv_iload hx hb dX9_save_208 (lv_at hl 5 rfl) ?_
                    refine x_iadd hx hb dX9_save_210 ?_
                    refine x_lald hx hb hK.1 hw (by first | exact Int.le_refl 0 | omega) (by first | exact zlt hc75 | omega) ar_75 (len_E ar_75 (by first | exact Nat.ne_of_beq_eq_false rfl | decide)) (by omega) (by omega) (by omega) dX9_save_211 ?_
                    have e84 : ∀ p9 q9 : Int, X83 75 p9 q9 = Xb 75 p9 q9 := fun p9 q9 => by rw [hX83, u3_k _ _ _ _ (by first | exact Nat.ne_of_beq_eq_false rfl | decide), hX80, u3_k _ _ _ _ (by first | exact Nat.ne_of_beq_eq_false rfl | decide)]
                    rw [e84 0 ((5 * (120 + r)) + k)]
                    have f85 : (-9223372036854775808) ≤ Xb 75 0 ((5 * (120 + r)) + k) ∧ Xb 75 0 ((5 * (120 + r)) + k) ≤ 9223372036854775807 := hRXb 75 0 ((5 * (120 + r)) + k)
                    refine x_last hx hb hK.1 hw hS (by first | exact Int.le_refl 0 | omega) (by first | exact zlt hc75 | omega) ar_75 (len_E ar_75 (by first | exact Nat.ne_of_beq_eq_false rfl | decide)) (by omega) (by omega) (by omega) dX9_save_212 (fun H locs hw hS => ?_)
                    obtain ⟨X86, hX86⟩ : ∃ Xq, Xq = u3 X83 75 0 ((5 * ((30 * sv) + r)) + k) (Xb 75 0 ((5 * (120 + r)) + k)) := ⟨_, rfl⟩
                    rw [← hX86] at hw
                    have hRX86 : Rng X86 := by rw [hX86]; exact rng_set hRX83 (show (-9223372036854775808) ≤ (Xb 75 0 ((5 * (120 + r)) + k)) ∧ (Xb 75 0 ((5 * (120 + r)) + k)) ≤ 9223372036854775807 by omega)
                    have hVX86 : X86 75 0 ((5 * ((30 * sv) + r)) + k) = (Xb 75 0 ((5 * (120 + r)) + k)) := by rw [hX86]; exact u3_s _ _ _ _ _
                    have hFX86 : Frm [4001, 7100, 7200, 7300, 7400, 7500, 8000, 7000, 8100, 7700, 7800, 7900, 7600, 4042, 4043, 4044] X X86 := by rw [hX86]; exact Frm.set hFX83 (show 7500 ∈ [4001, 7100, 7200, 7300, 7400, 7500, 8000, 7000, 8100, 7700, 7800, 7900, 7600, 4042, 4043, 4044] by first | exact nlm_in rfl | decide)
                    refine lv_iinc (v := jI (k + 1)) (lv' := [(5, .int (jI (k + 1))), (0, .ref (ad 40 0)), (1, .int (jI sv)), (2, .int (jI x)), (3, .int (jI z12)), (4, .int (jI r))]) hx hb dX9_save_213 hl (k := 5) rfl (jI_add _ _) (by decide) rfl (fun ls hl => ?_)
                    refine lv_goto (tgt := 111) hx hb dX9_save_216 (by decide) ?_
                    have q87 : Frm [7300, 7400, 7500] X73 Xb := Frm.tr Frm.rf (Frm.mono hGXb (by first | exact nls_of rfl | decide))
                    have q88 : Frm [7300, 7400, 7500] X73 X80 := by rw [hX80]; exact Frm.set q87 (show 7300 ∈ [7300, 7400, 7500] by first | exact nlm_in rfl | decide)
                    have q89 : Frm [7300, 7400, 7500] X73 X83 := by rw [hX83]; exact Frm.set q88 (show 7400 ∈ [7300, 7400, 7500] by first | exact nlm_in rfl | decide)
                    have q90 : Frm [7300, 7400, 7500] X73 X86 := by rw [hX86]; exact Frm.set q89 (show 7500 ∈ [7300, 7400, 7500] by first | exact nlm_in rfl | decide)
                    have q91 : Frm [7300, 7400, 7500] Xb X80 := by rw [hX80]; exact Frm.set Frm.rf (show 7300 ∈ [7300, 7400, 7500] by first | exact nlm_in rfl | decide)
                    have q92 : Frm [7300, 7400, 7500] Xb X83 := by rw [hX83]; exact Frm.set q91 (show 7400 ∈ [7300, 7400, 7500] by first | exact nlm_in rfl | decide)
                    have q93 : Frm [7300, 7400, 7500] Xb X86 := by rw [hX86]; exact Frm.set q92 (show 7500 ∈ [7300, 7400, 7500] by first | exact nlm_in rfl | decide)
                    exact ih111 (k + 1) X86 _ _ _ (by omega) hRX86 q90 (by omega) (hCb.s5 (by omega) (by omega) (by omega) hX80 hX83 hX86) (CpK.of d71 (Frm.arr q93 71 (by decide +kernel) (by decide))) (CpK.of d72 (Frm.arr q93 72 (by decide +kernel) (by decide))) (CpK.len (CpK.step (Xc := Xb) (a := 5 * (30 * sv + r) + k) (b := 5 * (120 + r) + k) d73 (by omega) (by omega) rfl (by rw [hX86, u3_k _ _ _ _ (by first | exact Nat.ne_of_beq_eq_false rfl | decide), hX83, u3_k _ _ _ _ (by first | exact Nat.ne_of_beq_eq_false rfl | decide), hX80]) (by omega) rfl (by omega)) (by omega)) (CpK.len (CpK.step (Xc := X80) (a := 5 * (30 * sv + r) + k) (b := 5 * (120 + r) + k) d74 (by omega) (by omega) (by rw [hX80, u3_k _ _ _ _ (by first | exact Nat.ne_of_beq_eq_false rfl | decide)]) (by rw [hX86, u3_k _ _ _ _ (by first | exact Nat.ne_of_beq_eq_false rfl | decide), hX83]) (by omega) rfl (by omega)) (by omega)) (CpK.len (CpK.step (Xc := X83) (a := 5 * (30 * sv + r) + k) (b := 5 * (120 + r) + k) d75 (by omega) (by omega) (by rw [hX83, u3_k _ _ _ _ (by first | exact Nat.ne_of_beq_eq_false rfl | decide), hX80, u3_k _ _ _ _ (by first | exact Nat.ne_of_beq_eq_false rfl | decide)]) (by rw [hX86]) (by omega) rfl (by omega)) (by omega)) hw hS (lv_sub hl [1, 2, 3, 4, 5, 0] rfl)
              have q97 : Frm [7100, 7200] Xa X70 := by rw [hX70]; exact Frm.set Frm.rf (show 7100 ∈ [7100, 7200] by first | exact nlm_in rfl | decide)
              have q98 : Frm [7100, 7200] Xa X73 := by rw [hX73]; exact Frm.set q97 (show 7200 ∈ [7100, 7200] by first | exact nlm_in rfl | decide)
              exact lp111 (5 - 0 : Int).toNat.succ 0 X73 _ _ _ (by omega) hRX73 Frm.rf (by omega) (hCa.s7 (by omega) (by omega) hX70 hX73) (CpK.step (Xc := Xa) (a := 30 * sv + r) (b := 120 + r) c71 (by omega) (by omega) rfl (by rw [hX73, u3_k _ _ _ _ (by first | exact Nat.ne_of_beq_eq_false rfl | decide), hX70]) (by omega) rfl (by omega)) (CpK.step (Xc := X70) (a := 30 * sv + r) (b := 120 + r) c72 (by omega) (by omega) (by rw [hX70, u3_k _ _ _ _ (by first | exact Nat.ne_of_beq_eq_false rfl | decide)]) (by rw [hX73]) (by omega) rfl (by omega)) (CpK.len (CpK.of c73 (Frm.arr q98 73 (by decide +kernel) (by decide))) (by omega)) (CpK.len (CpK.of c74 (Frm.arr q98 74 (by decide +kernel) (by decide))) (by omega)) (CpK.len (CpK.of c75 (Frm.arr q98 75 (by decide +kernel) (by decide))) (by omega)) hw hS (lv_sub hl [1, 2, 3, 4, 5, 0] rfl)
        have q103 : Frm [7000, 7600] X15 X18 := by rw [hX18]; exact Frm.set Frm.rf (show 7000 ∈ [7000, 7600] by first | exact nlm_in rfl | decide)
        have q104 : Frm [7000, 7600] X15 X21 := by rw [hX21]; exact Frm.set q103 (show 7600 ∈ [7000, 7600] by first | exact nlm_in rfl | decide)
        exact lp58 (30 - 0 : Int).toNat.succ 0 X21 _ _ _ (by omega) hRX21 Frm.rf (by omega) (Cpy.in_ (fun j => ⟨(by rw [hX21, u3_k _ _ _ _ (by first | exact Nat.ne_of_beq_eq_false rfl | decide), hX18, u3_k _ _ _ _ (by first | exact Nat.ne_of_beq_eq_false rfl | decide)]), (by rw [hX21, u3_k _ _ _ _ (by first | exact Nat.ne_of_beq_eq_false rfl | decide), hX18, u3_k _ _ _ _ (by first | exact Nat.ne_of_beq_eq_false rfl | decide)]), (by rw [hX21, u3_k _ _ _ _ (by first | exact Nat.ne_of_beq_eq_false rfl | decide), hX18, u3_k _ _ _ _ (by first | exact Nat.ne_of_beq_eq_false rfl | decide)]), (by rw [hX21, u3_k _ _ _ _ (by first | exact Nat.ne_of_beq_eq_false rfl | decide), hX18, u3_k _ _ _ _ (by first | exact Nat.ne_of_beq_eq_false rfl | decide)])⟩)) (CpK.in_ (Frm.arr q104 71 (by decide +kernel) (by decide))) (CpK.in_ (Frm.arr q104 72 (by decide +kernel) (by decide))) (CpK.len (CpK.in_ (Frm.arr q104 73 (by decide +kernel) (by decide))) (by omega)) (CpK.len (CpK.in_ (Frm.arr q104 74 (by decide +kernel) (by decide))) (by omega)) (CpK.len (CpK.in_ (Frm.arr q104 75 (by decide +kernel) (by decide))) (by omega)) (by omega) hw hS (lv_sub hl [2, 3, 4, 1, 0] rfl)
      · refine lv_iload_n hx hb dX9_save_34 rfl (lv_at hl 0 rfl) ?_
        rw [hQ9]
        refine ret_i (mc := 0) (ms := 0) hx hb hr hlocks hw hS (by first | exact Nat.le_of_ble_eq_true rfl | omega) (by first | exact Nat.le_of_ble_eq_true rfl | omega) dX9_save_35 ?_
        have q113 : Frm [4001] X X1 := by rw [hX1]; exact Frm.set Frm.rf (show 4001 ∈ [4001] by first | exact nlm_in rfl | decide)
        have hrd114 := rdr_eq (L := [4001]) q113 (by decide)
        have hsx115 := hsvX15
        rw [hrd114.1, hrd114.2.1, hrd114.2.2, Frm.arr q113 48 (by decide +kernel) (by decide), Frm.arr q113 55 (by decide +kernel) (by decide)] at hsx115
        exact ⟨X15, rfl, hRX15, hFX15, hMIX15, by omega, Or.inr (Or.inl ⟨(by (try delta Hid at *); omega), hm20X15 (by omega), (by rcases hsx115 with ⟨-, -, q⟩ | ⟨q, -⟩; exact q; exfalso; have h9 := recR_pos (fc := fcM X) (la := lnM X) (vl := mRid X) (rid := mRid X) (x := x) 30; omega), S4.tr (S4.frm q113 (by decide)) h4X15, S5.tr (S5.frm q113 (by decide)) h5X15⟩)⟩
    · subst ez5
      refine x_if_neF (tgt := 23) hx hb (by omega) (by decide) dX9_save_18 (by decide) ?_
      refine lv_iconst (v := jI (-1)) hx hb dX9_save_21 rfl ?_
      rw [hQ9]
      refine ret_i (mc := 0) (ms := 0) hx hb hr hlocks hw hS (by first | exact Nat.le_of_ble_eq_true rfl | omega) (by first | exact Nat.le_of_ble_eq_true rfl | omega) dX9_save_22 ?_
      have q117 : Frm [4001] X X1 := by rw [hX1]; exact Frm.set Frm.rf (show 4001 ∈ [4001] by first | exact nlm_in rfl | decide)
      have hMq116 : MInv X1 := minv_frm hMI q117 (by decide)
      exact ⟨X1, rfl, hRX1, hFX1, hMq116, by omega, Or.inl ⟨(fun q => by (try delta Hid at *); omega), by omega, q117⟩⟩
  · subst ez2
    refine x_if_eqT (tgt := 21) hx hb (by omega) (by decide) dX9_save_10 (by decide) ?_
    refine lv_iconst (v := jI (-1)) hx hb dX9_save_21 rfl ?_
    rw [hQ9]
    refine ret_i (mc := 0) (ms := 0) hx hb hr hlocks hw hS (by first | exact Nat.le_of_ble_eq_true rfl | omega) (by first | exact Nat.le_of_ble_eq_true rfl | omega) dX9_save_22 ?_
    have q120 : Frm [4001] X X1 := by rw [hX1]; exact Frm.set Frm.rf (show 4001 ∈ [4001] by first | exact nlm_in rfl | decide)
    have hMq119 : MInv X1 := minv_frm hMI q120 (by decide)
    exact ⟨X1, rfl, hRX1, hFX1, hMq119, by omega, Or.inl ⟨(fun q => by (try delta Hid at *); omega), by omega, q120⟩⟩
end
