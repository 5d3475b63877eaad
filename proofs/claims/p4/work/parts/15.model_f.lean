section
set_option maxHeartbeats 4000000 in
set_option maxRecDepth 100000 in
theorem c_X9_meets (l : Launch) (D : va_G) (tc : Nat → ClassId) (base : Nat) (ad : Nat → Int → Nat) (cnt : Nat → Int) (X : Nat → Int → Int → Int) (Y : Nat → Int → Int → Option Int) (ln : Int → Int) (hR : Rng X) (hFx : Fx cnt) (hMI : MInv X) (x y : Int) (hx0 : 0 ≤ x ∧ x ≤ 29) (hy0 : 0 ≤ y ∧ y ≤ 29) (hxt : x < X 40 0 13) (hyt : y < X 40 0 13) (hQ : qOK X) : KI l D tc base yX9_meets wsX9_meets ({ frames := 0, cells := 0, slots := 0, locals := 0 } : Room) [.ref (ad 40 0), .int (jI x), .int (jI y)] (ad, cnt, X, Y, ln) 0 0 (fun z u => ∃ X1 : Nat → Int → Int → Int, u = (ad, cnt, X1, Y, ln) ∧ Rng X1 ∧ Frm [8600, 8700, 9000, 4051] X X1 ∧ MInv X1 ∧ qOK X1 ∧ (0 ≤ z ∧ z ≤ 1)) := by
  refine K_of (cc := cX9_meets) (maxL := 3) (ret := (some .boolean)) (by decide) rfl (Nat.le_of_ble_eq_true rfl) ?_
  intro p e s m below meth c ls hx hb hr hml hown hts hlocks hl hK hw hS
  have hown : s.vm.findClass RX9 = some m.cls := hown
  obtain ⟨av9, hav9⟩ : ∃ a9 : Array Value, a9 = ([.ref (ad 40 0), .int (jI x), .int (jI y)] : List Value).toArray := ⟨_, rfl⟩
  rw [← hav9] at hts ⊢
  obtain ⟨Q9, hQ9⟩ : ∃ q9Q : State → Prop, q9Q = MQ below (QI D tc base (fun z u => ∃ X1 : Nat → Int → Int → Int, u = (ad, cnt, X1, Y, ln) ∧ Rng X1 ∧ Frm [8600, 8700, 9000, 4051] X X1 ∧ MInv X1 ∧ qOK X1 ∧ (0 ≤ z ∧ z ≤ 1))) av9 s 0 0 (frA base) := ⟨_, rfl⟩
  rw [← hQ9]
  have hi9 : ∀ w ∈ wsX90, w ∈ wsX9_meets := fun w h => List.mem_cons_of_mem _ (List.mem_append_right _ h)
  have hf9 : fctx s m _ RX9 wsX9_meets D tc RX9 TX9 51 9 := ⟨hts, hi9, hown, hK.1, rfl⟩
  have lk130 := hts (.fieldLink RX9 130 (TX9 45).1 (TX9 45).2.1 (TX9 45).2.2.1) (gj_X9_meets_0 _ (gp_h))
  have lk133 := hts (.fieldLink RX9 133 (TX9 46).1 (TX9 46).2.1 (TX9 46).2.2.1) (gj_X9_meets_0 _ (gp_1 gp_h))
  have lk142 := hts (.fieldLink RX9 142 (TX9 49).1 (TX9 49).2.1 (TX9 49).2.2.1) (gj_X9_meets_0 _ (gp_1 (gp_1 gp_h)))
  have lk240 := hts (.fieldLink RX9 240 (TX9 50).1 (TX9 50).2.1 (TX9 50).2.2.1) (gj_X9_meets_0 _ (gp_1 (gp_1 (gp_1 gp_h))))
  have hc40 : cnt 40 = 1 := hFx.at 40 1 (by decide)
  have hc86 : cnt 86 = 1 := hFx.at 86 1 (by decide)
  have hc87 : cnt 87 = 1 := hFx.at 87 1 (by decide)
  have hc90 : cnt 90 = 1 := hFx.at 90 1 (by decide)
  have hl : lv_has ls 3 [(0, .ref (ad 40 0)), (1, .int (jI x)), (2, .int (jI y))] := hl
  have fstypes : 0 ≤ X 40 0 2 ∧ X 40 0 2 ≤ 8 := hR 40 0 2
  have fsthings : 0 ≤ X 40 0 13 ∧ X 40 0 13 ≤ 30 := hR 40 0 13
  have fsmarks : 0 ≤ X 40 0 20 ∧ X 40 0 20 ≤ 4 := hR 40 0 20
  have fsnotes : 0 ≤ X 40 0 22 ∧ X 40 0 22 ≤ 80 := hR 40 0 22
  refine lv_aload_n hx hb dX9_meets_0 rfl (lv_at hl 0 rfl) ?_
  refine x_geto hx hb hf9 hw (by first | exact Int.le_refl 0 | omega) (by first | exact zlt hc40 | omega) sl_40_45 lk130 dX9_meets_1 ?_
  refine lv_iload_n hx hb dX9_meets_4 rfl (lv_at hl 1 rfl) ?_
  refine x_iald hx hb hK.1 hw (by first | exact Int.le_refl 0 | omega) (by first | exact zlt hc86 | omega) ar_86 (len_E ar_86 (by first | exact Nat.ne_of_beq_eq_false rfl | decide)) (by omega) (by omega) (by omega) dX9_meets_5 ?_
  have f1 : (-1) ≤ X 86 0 x ∧ X 86 0 x ≤ 29 := hR 86 0 x
  refine x_if_ge (tgt := 18) hx hb (by omega) dX9_meets_6 (by decide) (fun c2 => ?_) (fun c2 => ?_)
  · refine lv_aload_n hx hb dX9_meets_18 rfl (lv_at hl 0 rfl) ?_
    refine x_geto hx hb hf9 hw (by first | exact Int.le_refl 0 | omega) (by first | exact zlt hc40 | omega) sl_40_45 lk130 dX9_meets_19 ?_
    refine lv_iload_n hx hb dX9_meets_22 rfl (lv_at hl 1 rfl) ?_
    refine x_iald hx hb hK.1 hw (by first | exact Int.le_refl 0 | omega) (by first | exact zlt hc86 | omega) ar_86 (len_E ar_86 (by first | exact Nat.ne_of_beq_eq_false rfl | decide)) (by omega) (by omega) (by omega) dX9_meets_23 ?_
    have f3 : (-1) ≤ X 86 0 x ∧ X 86 0 x ≤ 29 := hR 86 0 x
    refine lv_iload_n hx hb dX9_meets_24 rfl (lv_at hl 2 rfl) ?_
    refine x_icmp_ne (tgt := 42) hx hb (by omega) (by omega) dX9_meets_25 (by decide) (fun c4 => ?_) (fun c4 => ?_)
    · refine lv_iconst (v := jI 0) hx hb dX9_meets_42 rfl ?_
      rw [hQ9]
      refine ret_z (mc := 0) (ms := 0) hx hb hr hlocks hw hS (by first | exact Nat.le_of_ble_eq_true rfl | omega) (by first | exact Nat.le_of_ble_eq_true rfl | omega) dX9_meets_43 (by omega) ?_
      exact ⟨X, rfl, hR, Frm.rf, hMI, hQ, by omega⟩
    · refine lv_aload_n hx hb dX9_meets_28 rfl (lv_at hl 0 rfl) ?_
      refine x_geto hx hb hf9 hw (by first | exact Int.le_refl 0 | omega) (by first | exact zlt hc40 | omega) sl_40_46 lk133 dX9_meets_29 ?_
      refine lv_iload_n hx hb dX9_meets_32 rfl (lv_at hl 2 rfl) ?_
      refine x_iald hx hb hK.1 hw (by first | exact Int.le_refl 0 | omega) (by first | exact zlt hc87 | omega) ar_87 (len_E ar_87 (by first | exact Nat.ne_of_beq_eq_false rfl | decide)) (by omega) (by omega) (by omega) dX9_meets_33 ?_
      have f5 : (-1) ≤ X 87 0 y ∧ X 87 0 y ≤ 29 := hR 87 0 y
      refine lv_iload_n hx hb dX9_meets_34 rfl (lv_at hl 1 rfl) ?_
      refine x_icmp_ne (tgt := 42) hx hb (by omega) (by omega) dX9_meets_35 (by decide) (fun c6 => ?_) (fun c6 => ?_)
      · refine lv_iconst (v := jI 0) hx hb dX9_meets_42 rfl ?_
        rw [hQ9]
        refine ret_z (mc := 0) (ms := 0) hx hb hr hlocks hw hS (by first | exact Nat.le_of_ble_eq_true rfl | omega) (by first | exact Nat.le_of_ble_eq_true rfl | omega) dX9_meets_43 (by omega) ?_
        exact ⟨X, rfl, hR, Frm.rf, hMI, hQ, by omega⟩
      · refine lv_iconst (v := jI 1) hx hb dX9_meets_38 rfl ?_
        refine lv_goto (tgt := 43) hx hb dX9_meets_39 (by decide) ?_
        rw [hQ9]
        refine ret_z (mc := 0) (ms := 0) hx hb hr hlocks hw hS (by first | exact Nat.le_of_ble_eq_true rfl | omega) (by first | exact Nat.le_of_ble_eq_true rfl | omega) dX9_meets_43 (by omega) ?_
        exact ⟨X, rfl, hR, Frm.rf, hMI, hQ, by omega⟩
  · refine lv_aload_n hx hb dX9_meets_9 rfl (lv_at hl 0 rfl) ?_
    refine x_geto hx hb hf9 hw (by first | exact Int.le_refl 0 | omega) (by first | exact zlt hc40 | omega) sl_40_46 lk133 dX9_meets_10 ?_
    refine lv_iload_n hx hb dX9_meets_13 rfl (lv_at hl 2 rfl) ?_
    refine x_iald hx hb hK.1 hw (by first | exact Int.le_refl 0 | omega) (by first | exact zlt hc87 | omega) ar_87 (len_E ar_87 (by first | exact Nat.ne_of_beq_eq_false rfl | decide)) (by omega) (by omega) (by omega) dX9_meets_14 ?_
    have f7 : (-1) ≤ X 87 0 y ∧ X 87 0 y ≤ 29 := hR 87 0 y
    refine x_if_lt (tgt := 44) hx hb (by omega) dX9_meets_15 (by decide) (fun c8 => ?_) (fun c8 => ?_)
    · have hq29 := hQ.room (x := x) hR (by omega) (by omega)
      refine lv_aload_n hx hb dX9_meets_44 rfl (lv_at hl 0 rfl) ?_
      refine x_geto hx hb hf9 hw (by first | exact Int.le_refl 0 | omega) (by first | exact zlt hc40 | omega) sl_40_45 lk130 dX9_meets_45 ?_
      refine lv_iload_n hx hb dX9_meets_48 rfl (lv_at hl 1 rfl) ?_
      refine lv_iload_n hx hb dX9_meets_49 rfl (lv_at hl 2 rfl) ?_
      refine x_iast hx hb hK.1 hw hS (by first | exact Int.le_refl 0 | omega) (by first | exact zlt hc86 | omega) ar_86 (len_E ar_86 (by first | exact Nat.ne_of_beq_eq_false rfl | decide)) (by omega) (by omega) (by omega) dX9_meets_50 (fun H locs hw hS => ?_)
      obtain ⟨X9, hX9⟩ : ∃ Xq, Xq = u3 X 86 0 x y := ⟨_, rfl⟩
      rw [← hX9] at hw
      have hRX9 : Rng X9 := by rw [hX9]; exact rng_set hR (show (-1) ≤ y ∧ y ≤ 29 by omega)
      have hVX9 : X9 86 0 x = y := by rw [hX9]; exact u3_s _ _ _ _ _
      have hFX9 : Frm [8600, 8700, 9000, 4051] X X9 := by rw [hX9]; exact Frm.set Frm.rf (show 8600 ∈ [8600, 8700, 9000, 4051] by first | exact nlm_in rfl | decide)
      refine lv_aload_n hx hb dX9_meets_51 rfl (lv_at hl 0 rfl) ?_
      refine x_geto hx hb hf9 hw (by first | exact Int.le_refl 0 | omega) (by first | exact zlt hc40 | omega) sl_40_46 lk133 dX9_meets_52 ?_
      refine lv_iload_n hx hb dX9_meets_55 rfl (lv_at hl 2 rfl) ?_
      refine lv_iload_n hx hb dX9_meets_56 rfl (lv_at hl 1 rfl) ?_
      refine x_iast hx hb hK.1 hw hS (by first | exact Int.le_refl 0 | omega) (by first | exact zlt hc87 | omega) ar_87 (len_E ar_87 (by first | exact Nat.ne_of_beq_eq_false rfl | decide)) (by omega) (by omega) (by omega) dX9_meets_57 (fun H locs hw hS => ?_)
      obtain ⟨X10, hX10⟩ : ∃ Xq, Xq = u3 X9 87 0 y x := ⟨_, rfl⟩
      rw [← hX10] at hw
      have hRX10 : Rng X10 := by rw [hX10]; exact rng_set hRX9 (show (-1) ≤ x ∧ x ≤ 29 by omega)
      have hVX10 : X10 87 0 y = x := by rw [hX10]; exact u3_s _ _ _ _ _
      have hFX10 : Frm [8600, 8700, 9000, 4051] X X10 := by rw [hX10]; exact Frm.set hFX9 (show 8700 ∈ [8600, 8700, 9000, 4051] by first | exact nlm_in rfl | decide)
      refine lv_aload_n hx hb dX9_meets_58 rfl (lv_at hl 0 rfl) ?_
      refine x_geto hx hb hf9 hw (by first | exact Int.le_refl 0 | omega) (by first | exact zlt hc40 | omega) sl_40_49 lk142 dX9_meets_59 ?_
      refine lv_aload_n hx hb dX9_meets_62 rfl (lv_at hl 0 rfl) ?_
      refine x_geti (jz := 50) hx hb hf9 hw (by first | exact Int.le_refl 0 | omega) (by first | exact zlt hc40 | omega) sl_40_50 rfl lk240 dX9_meets_63 ?_
      have e11 : X10 40 0 50 = X 40 0 50 := by rw [hX10, u3_k _ _ _ _ (by first | exact Nat.ne_of_beq_eq_false rfl | decide), hX9, u3_k _ _ _ _ (by first | exact Nat.ne_of_beq_eq_false rfl | decide)]
      rw [e11]
      have f12 : 0 ≤ X 40 0 50 ∧ X 40 0 50 ≤ 30 := hR 40 0 50
      refine lv_iload_n hx hb dX9_meets_66 rfl (lv_at hl 1 rfl) ?_
      refine x_iast hx hb hK.1 hw hS (by first | exact Int.le_refl 0 | omega) (by first | exact zlt hc90 | omega) ar_90 (len_E ar_90 (by first | exact Nat.ne_of_beq_eq_false rfl | decide)) (by omega) (by omega) (by omega) dX9_meets_67 (fun H locs hw hS => ?_)
      obtain ⟨X13, hX13⟩ : ∃ Xq, Xq = u3 X10 90 0 (X 40 0 50) x := ⟨_, rfl⟩
      rw [← hX13] at hw
      have hRX13 : Rng X13 := by rw [hX13]; exact rng_set hRX10 (show 0 ≤ x ∧ x ≤ 29 by omega)
      have hVX13 : X13 90 0 (X 40 0 50) = x := by rw [hX13]; exact u3_s _ _ _ _ _
      have hFX13 : Frm [8600, 8700, 9000, 4051] X X13 := by rw [hX13]; exact Frm.set hFX10 (show 9000 ∈ [8600, 8700, 9000, 4051] by first | exact nlm_in rfl | decide)
      refine lv_aload_n hx hb dX9_meets_68 rfl (lv_at hl 0 rfl) ?_
      refine lv_dup hx hb dX9_meets_69 rfl ?_
      refine x_geti (jz := 50) hx hb hf9 hw (by first | exact Int.le_refl 0 | omega) (by first | exact zlt hc40 | omega) sl_40_50 rfl lk240 dX9_meets_70 ?_
      have e14 : X13 40 0 50 = X 40 0 50 := by rw [hX13, u3_k _ _ _ _ (by first | exact Nat.ne_of_beq_eq_false rfl | decide), hX10, u3_k _ _ _ _ (by first | exact Nat.ne_of_beq_eq_false rfl | decide), hX9, u3_k _ _ _ _ (by first | exact Nat.ne_of_beq_eq_false rfl | decide)]
      rw [e14]
      have f15 : 0 ≤ X 40 0 50 ∧ X 40 0 50 ≤ 30 := hR 40 0 50
      refine lv_iconst (v := jI 1) hx hb dX9_meets_73 rfl ?_
      refine x_iadd hx hb dX9_meets_74 ?_
      refine x_puti (jz := 50) hx hb hf9 ⟨tyX9_ok, nmX9⟩ hw hS (by first | exact Int.le_refl 0 | omega) (by first | exact zlt hc40 | omega) sl_40_50 rfl lk240 rfl (tyX9_ok 50 (by decide)) rfl rfl dX9_meets_75 (fun H locs hw hS => ?_)
      obtain ⟨X16, hX16⟩ : ∃ Xq, Xq = u3 X13 40 0 50 ((X 40 0 50) + 1) := ⟨_, rfl⟩
      rw [← hX16] at hw
      have hRX16 : Rng X16 := by rw [hX16]; exact rng_set hRX13 (show 0 ≤ ((X 40 0 50) + 1) ∧ ((X 40 0 50) + 1) ≤ 30 by omega)
      have hVX16 : X16 40 0 50 = ((X 40 0 50) + 1) := by rw [hX16]; exact u3_s _ _ _ _ _
      have hFX16 : Frm [8600, 8700, 9000, 4051] X X16 := by rw [hX16]; exact Frm.set hFX13 (show 4051 ∈ [8600, 8700, 9000, 4051] by first | exact nlm_in rfl | decide)
      refine lv_iconst (v := jI 1) hx hb dX9_meets_78 rfl ?_
      rw [hQ9]
      refine ret_z (mc := 0) (ms := 0) hx hb hr hlocks hw hS (by first | exact Nat.le_of_ble_eq_true rfl | omega) (by first | exact Nat.le_of_ble_eq_true rfl | omega) dX9_meets_79 (by omega) ?_
      have q18 : Frm [4051, 8600, 8700, 9000] X X9 := by rw [hX9]; exact Frm.set Frm.rf (show 8600 ∈ [4051, 8600, 8700, 9000] by first | exact nlm_in rfl | decide)
      have q19 : Frm [4051, 8600, 8700, 9000] X X10 := by rw [hX10]; exact Frm.set q18 (show 8700 ∈ [4051, 8600, 8700, 9000] by first | exact nlm_in rfl | decide)
      have q20 : Frm [4051, 8600, 8700, 9000] X X13 := by rw [hX13]; exact Frm.set q19 (show 9000 ∈ [4051, 8600, 8700, 9000] by first | exact nlm_in rfl | decide)
      have q21 : Frm [4051, 8600, 8700, 9000] X X16 := by rw [hX16]; exact Frm.set q20 (show 4051 ∈ [4051, 8600, 8700, 9000] by first | exact nlm_in rfl | decide)
      have hMq17 : MInv X16 := minv_frm hMI q21 (by decide)
      exact ⟨X16, rfl, hRX16, hFX16, hMq17, qOK.push hQ (by omega) (by omega) (by omega) hX9 hX10 hX13 hX16, by omega⟩
    · refine lv_aload_n hx hb dX9_meets_18 rfl (lv_at hl 0 rfl) ?_
      refine x_geto hx hb hf9 hw (by first | exact Int.le_refl 0 | omega) (by first | exact zlt hc40 | omega) sl_40_45 lk130 dX9_meets_19 ?_
      refine lv_iload_n hx hb dX9_meets_22 rfl (lv_at hl 1 rfl) ?_
      refine x_iald hx hb hK.1 hw (by first | exact Int.le_refl 0 | omega) (by first | exact zlt hc86 | omega) ar_86 (len_E ar_86 (by first | exact Nat.ne_of_beq_eq_false rfl | decide)) (by omega) (by omega) (by omega) dX9_meets_23 ?_
      have f22 : (-1) ≤ X 86 0 x ∧ X 86 0 x ≤ 29 := hR 86 0 x
      refine lv_iload_n hx hb dX9_meets_24 rfl (lv_at hl 2 rfl) ?_
      refine x_icmp_ne (tgt := 42) hx hb (by omega) (by omega) dX9_meets_25 (by decide) (fun c23 => ?_) (fun c23 => ?_)
      · refine lv_iconst (v := jI 0) hx hb dX9_meets_42 rfl ?_
        rw [hQ9]
        refine ret_z (mc := 0) (ms := 0) hx hb hr hlocks hw hS (by first | exact Nat.le_of_ble_eq_true rfl | omega) (by first | exact Nat.le_of_ble_eq_true rfl | omega) dX9_meets_43 (by omega) ?_
        exact ⟨X, rfl, hR, Frm.rf, hMI, hQ, by omega⟩
      · refine lv_aload_n hx hb dX9_meets_28 rfl (lv_at hl 0 rfl) ?_
        refine x_geto hx hb hf9 hw (by first | exact Int.le_refl 0 | omega) (by first | exact zlt hc40 | omega) sl_40_46 lk133 dX9_meets_29 ?_
        refine lv_iload_n hx hb dX9_meets_32 rfl (lv_at hl 2 rfl) ?_
        refine x_iald hx hb hK.1 hw (by first | exact Int.le_refl 0 | omega) (by first | exact zlt hc87 | omega) ar_87 (len_E ar_87 (by first | exact Nat.ne_of_beq_eq_false rfl | decide)) (by omega) (by omega) (by omega) dX9_meets_33 ?_
        have f24 : (-1) ≤ X 87 0 y ∧ X 87 0 y ≤ 29 := hR 87 0 y
        refine lv_iload_n hx hb dX9_meets_34 rfl (lv_at hl 1 rfl) ?_
        refine x_icmp_ne (tgt := 42) hx hb (by omega) (by omega) dX9_meets_35 (by decide) (fun c25 => ?_) (fun c25 => ?_)
        · refine lv_iconst (v := jI 0) hx hb dX9_meets_42 rfl ?_
          rw [hQ9]
          refine ret_z (mc := 0) (ms := 0) hx hb hr hlocks hw hS (by first | exact Nat.le_of_ble_eq_true rfl | omega) (by first | exact Nat.le_of_ble_eq_true rfl | omega) dX9_meets_43 (by omega) ?_
          exact ⟨X, rfl, hR, Frm.rf, hMI, hQ, by omega⟩
        · refine lv_iconst (v := jI 1) hx hb dX9_meets_38 rfl ?_
          refine lv_goto (tgt := 43) hx hb dX9_meets_39 (by decide) ?_
          rw [hQ9]
          refine ret_z (mc := 0) (ms := 0) hx hb hr hlocks hw hS (by first | exact Nat.le_of_ble_eq_true rfl | omega) (by first | exact Nat.le_of_ble_eq_true rfl | omega) dX9_meets_43 (by omega) ?_
          exact ⟨X, rfl, hR, Frm.rf, hMI, hQ, by omega⟩

set_option maxHeartbeats 4000000 in
set_option maxRecDepth 100000 in
theorem c_X9_rowsMeet (l : Launch) (D : va_G) (tc : Nat → ClassId) (base : Nat) (ad : Nat → Int → Nat) (cnt : Nat → Int) (X : Nat → Int → Int → Int) (Y : Nat → Int → Int → Option Int) (ln : Int → Int) (hR : Rng X) (hFx : Fx cnt) (hMI : MInv X) (a b : Int) (ha0 : 0 ≤ a ∧ a ≤ 399) (hb0 : 0 ≤ b ∧ b ≤ 399) : KI l D tc base yX9_rowsMeet wsX9_rowsMeet ({ frames := 0, cells := 0, slots := 0, locals := 0 } : Room) [.ref (ad 40 0), .int (jI a), .int (jI b)] (ad, cnt, X, Y, ln) 0 0 (fun z u => ∃ X1 : Nat → Int → Int → Int, u = (ad, cnt, X1, Y, ln) ∧ Rng X1 ∧ Frm [8800, 8900] X X1 ∧ MInv X1 ∧ (0 ≤ z ∧ z ≤ 1)) := by
  refine K_of (cc := cX9_rowsMeet) (maxL := 5) (ret := (some .boolean)) (by decide) rfl (Nat.le_of_ble_eq_true rfl) ?_
  intro p e s m below meth c ls hx hb hr hml hown hts hlocks hl hK hw hS
  have hown : s.vm.findClass RX9 = some m.cls := hown
  obtain ⟨av9, hav9⟩ : ∃ a9 : Array Value, a9 = ([.ref (ad 40 0), .int (jI a), .int (jI b)] : List Value).toArray := ⟨_, rfl⟩
  rw [← hav9] at hts ⊢
  obtain ⟨Q9, hQ9⟩ : ∃ q9Q : State → Prop, q9Q = MQ below (QI D tc base (fun z u => ∃ X1 : Nat → Int → Int → Int, u = (ad, cnt, X1, Y, ln) ∧ Rng X1 ∧ Frm [8800, 8900] X X1 ∧ MInv X1 ∧ (0 ≤ z ∧ z ≤ 1))) av9 s 0 0 (frA base) := ⟨_, rfl⟩
  rw [← hQ9]
  have hi9 : ∀ w ∈ wsX90, w ∈ wsX9_rowsMeet := fun w h => List.mem_cons_of_mem _ (List.mem_append_right _ h)
  have hf9 : fctx s m _ RX9 wsX9_rowsMeet D tc RX9 TX9 51 9 := ⟨hts, hi9, hown, hK.1, rfl⟩
  have lk54 := hts (.fieldLink RX9 54 (TX9 17).1 (TX9 17).2.1 (TX9 17).2.2.1) (gj_X9_rowsMeet_0 _ (gp_1 (gp_1 gp_h)))
  have lk57 := hts (.fieldLink RX9 57 (TX9 18).1 (TX9 18).2.1 (TX9 18).2.2.1) (gj_X9_rowsMeet_0 _ (gp_1 (gp_1 (gp_1 gp_h))))
  have lk136 := hts (.fieldLink RX9 136 (TX9 47).1 (TX9 47).2.1 (TX9 47).2.2.1) (gj_X9_rowsMeet_0 _ (gp_h))
  have lk139 := hts (.fieldLink RX9 139 (TX9 48).1 (TX9 48).2.1 (TX9 48).2.2.1) (gj_X9_rowsMeet_0 _ (gp_1 gp_h))
  have hc40 : cnt 40 = 1 := hFx.at 40 1 (by decide)
  have hc58 : cnt 58 = 1 := hFx.at 58 1 (by decide)
  have hc59 : cnt 59 = 1 := hFx.at 59 1 (by decide)
  have hc88 : cnt 88 = 1 := hFx.at 88 1 (by decide)
  have hc89 : cnt 89 = 1 := hFx.at 89 1 (by decide)
  have hl : lv_has ls 5 [(0, .ref (ad 40 0)), (1, .int (jI a)), (2, .int (jI b))] := hl
  have fstypes : 0 ≤ X 40 0 2 ∧ X 40 0 2 ≤ 8 := hR 40 0 2
  have fsthings : 0 ≤ X 40 0 13 ∧ X 40 0 13 ≤ 30 := hR 40 0 13
  have fsmarks : 0 ≤ X 40 0 20 ∧ X 40 0 20 ≤ 4 := hR 40 0 20
  have fsnotes : 0 ≤ X 40 0 22 ∧ X 40 0 22 ≤ 80 := hR 40 0 22
  refine lv_aload_n hx hb dX9_rowsMeet_0 rfl (lv_at hl 0 rfl) ?_
  refine x_geto hx hb hf9 hw (by first | exact Int.le_refl 0 | omega) (by first | exact zlt hc40 | omega) sl_40_47 lk136 dX9_rowsMeet_1 ?_
  refine lv_iload_n hx hb dX9_rowsMeet_4 rfl (lv_at hl 1 rfl) ?_
  refine x_iald hx hb hK.1 hw (by first | exact Int.le_refl 0 | omega) (by first | exact zlt hc88 | omega) ar_88 (len_E ar_88 (by first | exact Nat.ne_of_beq_eq_false rfl | decide)) (by omega) (by omega) (by omega) dX9_rowsMeet_5 ?_
  have f1 : (-1) ≤ X 88 0 a ∧ X 88 0 a ≤ 399 := hR 88 0 a
  refine x_if_ge (tgt := 18) hx hb (by omega) dX9_rowsMeet_6 (by decide) (fun c2 => ?_) (fun c2 => ?_)
  · refine lv_aload_n hx hb dX9_rowsMeet_18 rfl (lv_at hl 0 rfl) ?_
    refine x_geto hx hb hf9 hw (by first | exact Int.le_refl 0 | omega) (by first | exact zlt hc40 | omega) sl_40_47 lk136 dX9_rowsMeet_19 ?_
    refine lv_iload_n hx hb dX9_rowsMeet_22 rfl (lv_at hl 1 rfl) ?_
    refine x_iald hx hb hK.1 hw (by first | exact Int.le_refl 0 | omega) (by first | exact zlt hc88 | omega) ar_88 (len_E ar_88 (by first | exact Nat.ne_of_beq_eq_false rfl | decide)) (by omega) (by omega) (by omega) dX9_rowsMeet_23 ?_
    have f3 : (-1) ≤ X 88 0 a ∧ X 88 0 a ≤ 399 := hR 88 0 a
    refine lv_iload_n hx hb dX9_rowsMeet_24 rfl (lv_at hl 2 rfl) ?_
    refine x_icmp_ne (tgt := 42) hx hb (by omega) (by omega) dX9_rowsMeet_25 (by decide) (fun c4 => ?_) (fun c4 => ?_)
    · refine lv_iconst (v := jI 0) hx hb dX9_rowsMeet_42 rfl ?_
      rw [hQ9]
      refine ret_z (mc := 0) (ms := 0) hx hb hr hlocks hw hS (by first | exact Nat.le_of_ble_eq_true rfl | omega) (by first | exact Nat.le_of_ble_eq_true rfl | omega) dX9_rowsMeet_43 (by omega) ?_
      exact ⟨X, rfl, hR, Frm.rf, hMI, by omega⟩
    · refine lv_aload_n hx hb dX9_rowsMeet_28 rfl (lv_at hl 0 rfl) ?_
      refine x_geto hx hb hf9 hw (by first | exact Int.le_refl 0 | omega) (by first | exact zlt hc40 | omega) sl_40_48 lk139 dX9_rowsMeet_29 ?_
      refine lv_iload_n hx hb dX9_rowsMeet_32 rfl (lv_at hl 2 rfl) ?_
      refine x_iald hx hb hK.1 hw (by first | exact Int.le_refl 0 | omega) (by first | exact zlt hc89 | omega) ar_89 (len_E ar_89 (by first | exact Nat.ne_of_beq_eq_false rfl | decide)) (by omega) (by omega) (by omega) dX9_rowsMeet_33 ?_
      have f5 : (-1) ≤ X 89 0 b ∧ X 89 0 b ≤ 399 := hR 89 0 b
      refine lv_iload_n hx hb dX9_rowsMeet_34 rfl (lv_at hl 1 rfl) ?_
      refine x_icmp_ne (tgt := 42) hx hb (by omega) (by omega) dX9_rowsMeet_35 (by decide) (fun c6 => ?_) (fun c6 => ?_)
      · refine lv_iconst (v := jI 0) hx hb dX9_rowsMeet_42 rfl ?_
        rw [hQ9]
        refine ret_z (mc := 0) (ms := 0) hx hb hr hlocks hw hS (by first | exact Nat.le_of_ble_eq_true rfl | omega) (by first | exact Nat.le_of_ble_eq_true rfl | omega) dX9_rowsMeet_43 (by omega) ?_
        exact ⟨X, rfl, hR, Frm.rf, hMI, by omega⟩
      · refine lv_iconst (v := jI 1) hx hb dX9_rowsMeet_38 rfl ?_
        refine lv_goto (tgt := 43) hx hb dX9_rowsMeet_39 (by decide) ?_
        rw [hQ9]
        refine ret_z (mc := 0) (ms := 0) hx hb hr hlocks hw hS (by first | exact Nat.le_of_ble_eq_true rfl | omega) (by first | exact Nat.le_of_ble_eq_true rfl | omega) dX9_rowsMeet_43 (by omega) ?_
        exact ⟨X, rfl, hR, Frm.rf, hMI, by omega⟩
  · refine lv_aload_n hx hb dX9_rowsMeet_9 rfl (lv_at hl 0 rfl) ?_
    refine x_geto hx hb hf9 hw (by first | exact Int.le_refl 0 | omega) (by first | exact zlt hc40 | omega) sl_40_48 lk139 dX9_rowsMeet_10 ?_
    refine lv_iload_n hx hb dX9_rowsMeet_13 rfl (lv_at hl 2 rfl) ?_
    refine x_iald hx hb hK.1 hw (by first | exact Int.le_refl 0 | omega) (by first | exact zlt hc89 | omega) ar_89 (len_E ar_89 (by first | exact Nat.ne_of_beq_eq_false rfl | decide)) (by omega) (by omega) (by omega) dX9_rowsMeet_14 ?_
    have f7 : (-1) ≤ X 89 0 b ∧ X 89 0 b ≤ 399 := hR 89 0 b
    refine x_if_lt (tgt := 44) hx hb (by omega) dX9_rowsMeet_15 (by decide) (fun c8 => ?_) (fun c8 => ?_)
    · refine lv_aload_n hx hb dX9_rowsMeet_44 rfl (lv_at hl 0 rfl) ?_
      refine x_geto hx hb hf9 hw (by first | exact Int.le_refl 0 | omega) (by first | exact zlt hc40 | omega) sl_40_47 lk136 dX9_rowsMeet_45 ?_
      refine lv_iload_n hx hb dX9_rowsMeet_48 rfl (lv_at hl 1 rfl) ?_
      refine lv_iload_n hx hb dX9_rowsMeet_49 rfl (lv_at hl 2 rfl) ?_
      refine x_iast hx hb hK.1 hw hS (by first | exact Int.le_refl 0 | omega) (by first | exact zlt hc88 | omega) ar_88 (len_E ar_88 (by first | exact Nat.ne_of_beq_eq_false rfl | decide)) (by omega) (by omega) (by omega) dX9_rowsMeet_50 (fun H locs hw hS => ?_)
      obtain ⟨X9, hX9⟩ : ∃ Xq, Xq = u3 X 88 0 a b := ⟨_, rfl⟩
      rw [← hX9] at hw
      have hRX9 : Rng X9 := by rw [hX9]; exact rng_set hR (show (-1) ≤ b ∧ b ≤ 399 by omega)
      have hVX9 : X9 88 0 a = b := by rw [hX9]; exact u3_s _ _ _ _ _
      have hFX9 : Frm [8800, 8900] X X9 := by rw [hX9]; exact Frm.set Frm.rf (show 8800 ∈ [8800, 8900] by first | exact nlm_in rfl | decide)
      refine lv_aload_n hx hb dX9_rowsMeet_51 rfl (lv_at hl 0 rfl) ?_
      refine x_geto hx hb hf9 hw (by first | exact Int.le_refl 0 | omega) (by first | exact zlt hc40 | omega) sl_40_48 lk139 dX9_rowsMeet_52 ?_
      refine lv_iload_n hx hb dX9_rowsMeet_55 rfl (lv_at hl 2 rfl) ?_
      refine lv_iload_n hx hb dX9_rowsMeet_56 rfl (lv_at hl 1 rfl) ?_
      refine x_iast hx hb hK.1 hw hS (by first | exact Int.le_refl 0 | omega) (by first | exact zlt hc89 | omega) ar_89 (len_E ar_89 (by first | exact Nat.ne_of_beq_eq_false rfl | decide)) (by omega) (by omega) (by omega) dX9_rowsMeet_57 (fun H locs hw hS => ?_)
      obtain ⟨X10, hX10⟩ : ∃ Xq, Xq = u3 X9 89 0 b a := ⟨_, rfl⟩
      rw [← hX10] at hw
      have hRX10 : Rng X10 := by rw [hX10]; exact rng_set hRX9 (show (-1) ≤ a ∧ a ≤ 399 by omega)
      have hVX10 : X10 89 0 b = a := by rw [hX10]; exact u3_s _ _ _ _ _
      have hFX10 : Frm [8800, 8900] X X10 := by rw [hX10]; exact Frm.set hFX9 (show 8900 ∈ [8800, 8900] by first | exact nlm_in rfl | decide)
      refine lv_aload_n hx hb dX9_rowsMeet_58 rfl (lv_at hl 0 rfl) ?_
      refine x_geto hx hb hf9 hw (by first | exact Int.le_refl 0 | omega) (by first | exact zlt hc40 | omega) sl_40_17 lk54 dX9_rowsMeet_59 ?_
      refine lv_iload_n hx hb dX9_rowsMeet_62 rfl (lv_at hl 1 rfl) ?_
      refine x_iald hx hb hK.1 hw (by first | exact Int.le_refl 0 | omega) (by first | exact zlt hc58 | omega) ar_58 (len_E ar_58 (by first | exact Nat.ne_of_beq_eq_false rfl | decide)) (by omega) (by omega) (by omega) dX9_rowsMeet_63 ?_
      have e11 : ∀ p9 q9 : Int, X10 58 p9 q9 = X 58 p9 q9 := fun p9 q9 => by rw [hX10, u3_k _ _ _ _ (by first | exact Nat.ne_of_beq_eq_false rfl | decide), hX9, u3_k _ _ _ _ (by first | exact Nat.ne_of_beq_eq_false rfl | decide)]
      rw [e11 0 a]
      have f12 : 0 ≤ X 58 0 a ∧ X 58 0 a ≤ 12 := hR 58 0 a
      refine lv_aload_n hx hb dX9_rowsMeet_64 rfl (lv_at hl 0 rfl) ?_
      refine x_geto hx hb hf9 hw (by first | exact Int.le_refl 0 | omega) (by first | exact zlt hc40 | omega) sl_40_17 lk54 dX9_rowsMeet_65 ?_
      refine lv_iload_n hx hb dX9_rowsMeet_68 rfl (lv_at hl 2 rfl) ?_
      refine x_iald hx hb hK.1 hw (by first | exact Int.le_refl 0 | omega) (by first | exact zlt hc58 | omega) ar_58 (len_E ar_58 (by first | exact Nat.ne_of_beq_eq_false rfl | decide)) (by omega) (by omega) (by omega) dX9_rowsMeet_69 ?_
      have e13 : ∀ p9 q9 : Int, X10 58 p9 q9 = X 58 p9 q9 := fun p9 q9 => by rw [hX10, u3_k _ _ _ _ (by first | exact Nat.ne_of_beq_eq_false rfl | decide), hX9, u3_k _ _ _ _ (by first | exact Nat.ne_of_beq_eq_false rfl | decide)]
      rw [e13 0 b]
      have f14 : 0 ≤ X 58 0 b ∧ X 58 0 b ≤ 12 := hR 58 0 b
      have q900002 : Frm [8800, 8900] X X9 := by rw [hX9]; exact Frm.set Frm.rf (show 8800 ∈ [8800, 8900] by first | exact nlm_in rfl | decide)
      have q900003 : Frm [8800, 8900] X X10 := by rw [hX10]; exact Frm.set q900002 (show 8900 ∈ [8800, 8900] by first | exact nlm_in rfl | decide)
      refine x_icmp_ne (tgt := 77) hx hb (by omega) (by omega) dX9_rowsMeet_70 (by decide) (fun c15 => ?_) (fun c15 => ?_)
      · refine lv_iconst (v := jI 0) hx hb dX9_rowsMeet_77 rfl ?_
        refine lv_istore_n (lv' := [(3, .int (jI 0)), (0, .ref (ad 40 0)), (1, .int (jI a)), (2, .int (jI b))]) hx hb dX9_rowsMeet_78 rfl hl (by decide) rfl (fun ls hl => ?_)
        refine lv_iconst (v := jI 0) hx hb dX9_rowsMeet_79 rfl ?_
        refine lv_istore (lv' := [(4, .int (jI 0)), (3, .int (jI 0)), (0, .ref (ad 40 0)), (1, .int (jI a)), (2, .int (jI b))]) hx hb dX9_rowsMeet_80 hl (by decide) rfl (fun ls hl => ?_)
        have lp82 : ∀ (nn : Nat) (sm : Int) (k : Int) (H : Heap) (locs : List Loc) (ls : Array Slot), (12 - k) < (nn : Int) → (0 ≤ sm ∧ sm ≤ 1) → (0 ≤ k ∧ k ≤ 12) → wd D tc base (ad, cnt, X10, Y, ln) H → va_S (frA base) s.heap H locs → lv_has ls 5 [(0, .ref (ad 40 0)), (1, .int (jI a)), (2, .int (jI b)), (3, .int (jI sm)), (4, .int (jI k))] → W p l e ({ frames := 0, cells := 0, slots := 0, locals := 0 } : Room) s m av9 below meth c H locs 0 0 Q9 (F0 m 82 ls []) := by
          intro nn
          induction nn with
          | zero => intro sm k H locs ls hm hsm hk hw hS hl; exfalso; omega
          | succ nn ih82 =>
            intro sm k H locs ls hm hsm hk hw hS hl
            refine lv_iload_n hx hb dX9_rowsMeet_82 rfl (lv_at hl 3 rfl) ?_
            refine x_if_eq (tgt := 137) hx hb (by omega) dX9_rowsMeet_83 (by decide) (fun c16 => ?_) (fun c16 => ?_)
            · refine lv_iload_n hx hb dX9_rowsMeet_137 rfl (lv_at hl 3 rfl) ?_
              rw [hQ9]
              refine ret_z (mc := 0) (ms := 0) hx hb hr hlocks hw hS (by first | exact Nat.le_of_ble_eq_true rfl | omega) (by first | exact Nat.le_of_ble_eq_true rfl | omega) dX9_rowsMeet_138 (by omega) ?_
              have q18 : Frm [8800, 8900] X X9 := by rw [hX9]; exact Frm.set Frm.rf (show 8800 ∈ [8800, 8900] by first | exact nlm_in rfl | decide)
              have q19 : Frm [8800, 8900] X X10 := by rw [hX10]; exact Frm.set q18 (show 8900 ∈ [8800, 8900] by first | exact nlm_in rfl | decide)
              have hMq17 : MInv X10 := minv_frm hMI q19 (by decide)
              exact ⟨X10, rfl, hRX10, hFX10, hMq17, by omega⟩
            · refine lv_iload hx hb dX9_rowsMeet_86 (lv_at hl 4 rfl) ?_
              refine lv_aload_n hx hb dX9_rowsMeet_88 rfl (lv_at hl 0 rfl) ?_
              refine x_geto hx hb hf9 hw (by first | exact Int.le_refl 0 | omega) (by first | exact zlt hc40 | omega) sl_40_17 lk54 dX9_rowsMeet_89 ?_
              refine lv_iload_n hx hb dX9_rowsMeet_92 rfl (lv_at hl 1 rfl) ?_
              refine x_iald hx hb hK.1 hw (by first | exact Int.le_refl 0 | omega) (by first | exact zlt hc58 | omega) ar_58 (len_E ar_58 (by first | exact Nat.ne_of_beq_eq_false rfl | decide)) (by omega) (by omega) (by omega) dX9_rowsMeet_93 ?_
              have e20 : ∀ p9 q9 : Int, X10 58 p9 q9 = X 58 p9 q9 := fun p9 q9 => by rw [hX10, u3_k _ _ _ _ (by first | exact Nat.ne_of_beq_eq_false rfl | decide), hX9, u3_k _ _ _ _ (by first | exact Nat.ne_of_beq_eq_false rfl | decide)]
              rw [e20 0 a]
              have f21 : 0 ≤ X 58 0 a ∧ X 58 0 a ≤ 12 := hR 58 0 a
              refine x_icmp_ge (tgt := 137) hx hb (by omega) (by omega) dX9_rowsMeet_94 (by decide) (fun c22 => ?_) (fun c22 => ?_)
              · refine lv_iload_n hx hb dX9_rowsMeet_137 rfl (lv_at hl 3 rfl) ?_
                rw [hQ9]
                refine ret_z (mc := 0) (ms := 0) hx hb hr hlocks hw hS (by first | exact Nat.le_of_ble_eq_true rfl | omega) (by first | exact Nat.le_of_ble_eq_true rfl | omega) dX9_rowsMeet_138 (by omega) ?_
                have hMq23 : MInv X10 := minv_frm hMI q900003 (by decide)
                exact ⟨X10, rfl, hRX10, hFX10, hMq23, by omega⟩
              · refine lv_aload_n hx hb dX9_rowsMeet_97 rfl (lv_at hl 0 rfl) ?_
                refine x_geto hx hb hf9 hw (by first | exact Int.le_refl 0 | omega) (by first | exact zlt hc40 | omega) sl_40_18 lk57 dX9_rowsMeet_98 ?_
                refine lv_bipush (v := jI 12) hx hb dX9_rowsMeet_101 (by decide) ?_
                refine lv_iload_n hx hb dX9_rowsMeet_103 rfl (lv_at hl 1 rfl) ?_
                refine x_imul hx hb dX9_rowsMeet_104 ?_
                refine lv_iload hx hb dX9_rowsMeet_105 (lv_at hl 4 rfl) ?_
                refine x_iadd hx hb dX9_rowsMeet_107 ?_
                refine x_lald hx hb hK.1 hw (by first | exact Int.le_refl 0 | omega) (by first | exact zlt hc59 | omega) ar_59 (len_E ar_59 (by first | exact Nat.ne_of_beq_eq_false rfl | decide)) (by omega) (by omega) (by omega) dX9_rowsMeet_108 ?_
                have e26 : ∀ p9 q9 : Int, X10 59 p9 q9 = X 59 p9 q9 := fun p9 q9 => by rw [hX10, u3_k _ _ _ _ (by first | exact Nat.ne_of_beq_eq_false rfl | decide), hX9, u3_k _ _ _ _ (by first | exact Nat.ne_of_beq_eq_false rfl | decide)]
                rw [e26 0 ((12 * a) + k)]
                have f27 : (-9223372036854775808) ≤ X 59 0 ((12 * a) + k) ∧ X 59 0 ((12 * a) + k) ≤ 9223372036854775807 := hR 59 0 ((12 * a) + k)
                refine lv_aload_n hx hb dX9_rowsMeet_109 rfl (lv_at hl 0 rfl) ?_
                refine x_geto hx hb hf9 hw (by first | exact Int.le_refl 0 | omega) (by first | exact zlt hc40 | omega) sl_40_18 lk57 dX9_rowsMeet_110 ?_
                refine lv_bipush (v := jI 12) hx hb dX9_rowsMeet_113 (by decide) ?_
                refine lv_iload_n hx hb dX9_rowsMeet_115 rfl (lv_at hl 2 rfl) ?_
                refine x_imul hx hb dX9_rowsMeet_116 ?_
                refine lv_iload hx hb dX9_rowsMeet_117 (lv_at hl 4 rfl) ?_
                refine x_iadd hx hb dX9_rowsMeet_119 ?_
                refine x_lald hx hb hK.1 hw (by first | exact Int.le_refl 0 | omega) (by first | exact zlt hc59 | omega) ar_59 (len_E ar_59 (by first | exact Nat.ne_of_beq_eq_false rfl | decide)) (by omega) (by omega) (by omega) dX9_rowsMeet_120 ?_
                have e28 : ∀ p9 q9 : Int, X10 59 p9 q9 = X 59 p9 q9 := fun p9 q9 => by rw [hX10, u3_k _ _ _ _ (by first | exact Nat.ne_of_beq_eq_false rfl | decide), hX9, u3_k _ _ _ _ (by first | exact Nat.ne_of_beq_eq_false rfl | decide)]
                rw [e28 0 ((12 * b) + k)]
                have f29 : (-9223372036854775808) ≤ X 59 0 ((12 * b) + k) ∧ X 59 0 ((12 * b) + k) ≤ 9223372036854775807 := hR 59 0 ((12 * b) + k)
                refine x_lcmp hx hb (by omega) (by omega) dX9_rowsMeet_121 ?_
                obtain ⟨z30, ez30⟩ : ∃ y : Int, y = cmpZ (X 59 0 ((12 * a) + k)) (X 59 0 ((12 * b) + k)) := ⟨_, rfl⟩
                rw [← ez30]
                have gz30 : (z30 < 0 ↔ ((X 59 0 ((12 * a) + k)) : Int) < (X 59 0 ((12 * b) + k))) ∧ (z30 = 0 ↔ ((X 59 0 ((12 * a) + k)) : Int) = (X 59 0 ((12 * b) + k))) ∧ -1 ≤ z30 ∧ z30 ≤ 1 := by rw [ez30]; exact ⟨cmpZ_lt, cmpZ_eq, (cmpZ_r _ _).1, (cmpZ_r _ _).2⟩
                clear ez30
                refine x_if_ne (tgt := 129) hx hb (by omega) dX9_rowsMeet_122 (by decide) (fun c31 => ?_) (fun c31 => ?_)
                · replace c31 := cz_neT gz30 c31
                  clear gz30
                  refine lv_iconst (v := jI 0) hx hb dX9_rowsMeet_129 rfl ?_
                  refine lv_istore_n (lv' := [(3, .int (jI 0)), (0, .ref (ad 40 0)), (1, .int (jI a)), (2, .int (jI b)), (4, .int (jI k))]) hx hb dX9_rowsMeet_130 rfl hl (by decide) rfl (fun ls hl => ?_)
                  refine lv_iinc (v := jI (k + 1)) (lv' := [(4, .int (jI (k + 1))), (3, .int (jI 0)), (0, .ref (ad 40 0)), (1, .int (jI a)), (2, .int (jI b))]) hx hb dX9_rowsMeet_131 hl (k := 4) rfl (jI_add _ _) (by decide) rfl (fun ls hl => ?_)
                  refine lv_goto (tgt := 82) hx hb dX9_rowsMeet_134 (by decide) ?_
                  exact ih82 0 (k + 1) _ _ _ (by omega) (by omega) (by omega) hw hS (lv_sub hl [2, 3, 4, 1, 0] rfl)
                · replace c31 := cz_neF gz30 c31
                  clear gz30
                  refine lv_iconst (v := jI 1) hx hb dX9_rowsMeet_125 rfl ?_
                  refine lv_goto (tgt := 130) hx hb dX9_rowsMeet_126 (by decide) ?_
                  refine lv_istore_n (lv' := [(3, .int (jI 1)), (0, .ref (ad 40 0)), (1, .int (jI a)), (2, .int (jI b)), (4, .int (jI k))]) hx hb dX9_rowsMeet_130 rfl hl (by decide) rfl (fun ls hl => ?_)
                  refine lv_iinc (v := jI (k + 1)) (lv' := [(4, .int (jI (k + 1))), (3, .int (jI 1)), (0, .ref (ad 40 0)), (1, .int (jI a)), (2, .int (jI b))]) hx hb dX9_rowsMeet_131 hl (k := 4) rfl (jI_add _ _) (by decide) rfl (fun ls hl => ?_)
                  refine lv_goto (tgt := 82) hx hb dX9_rowsMeet_134 (by decide) ?_
                  exact ih82 1 (k + 1) _ _ _ (by omega) (by omega) (by omega) hw hS (lv_sub hl [2, 3, 4, 1, 0] rfl)
        exact lp82 (12 - 0 : Int).toNat.succ 0 0 _ _ _ (by omega) (by omega) (by omega) hw hS (lv_sub hl [2, 3, 4, 1, 0] rfl)
      · refine lv_iconst (v := jI 1) hx hb dX9_rowsMeet_73 rfl ?_
        refine lv_goto (tgt := 78) hx hb dX9_rowsMeet_74 (by decide) ?_
        refine lv_istore_n (lv' := [(3, .int (jI 1)), (0, .ref (ad 40 0)), (1, .int (jI a)), (2, .int (jI b))]) hx hb dX9_rowsMeet_78 rfl hl (by decide) rfl (fun ls hl => ?_)
        refine lv_iconst (v := jI 0) hx hb dX9_rowsMeet_79 rfl ?_
        refine lv_istore (lv' := [(4, .int (jI 0)), (3, .int (jI 1)), (0, .ref (ad 40 0)), (1, .int (jI a)), (2, .int (jI b))]) hx hb dX9_rowsMeet_80 hl (by decide) rfl (fun ls hl => ?_)
        have lp82 : ∀ (nn : Nat) (sm : Int) (k : Int) (H : Heap) (locs : List Loc) (ls : Array Slot), (12 - k) < (nn : Int) → (0 ≤ sm ∧ sm ≤ 1) → (0 ≤ k ∧ k ≤ 12) → wd D tc base (ad, cnt, X10, Y, ln) H → va_S (frA base) s.heap H locs → lv_has ls 5 [(0, .ref (ad 40 0)), (1, .int (jI a)), (2, .int (jI b)), (3, .int (jI sm)), (4, .int (jI k))] → W p l e ({ frames := 0, cells := 0, slots := 0, locals := 0 } : Room) s m av9 below meth c H locs 0 0 Q9 (F0 m 82 ls []) := by
          intro nn
          induction nn with
          | zero => intro sm k H locs ls hm hsm hk hw hS hl; exfalso; omega
          | succ nn ih82 =>
            intro sm k H locs ls hm hsm hk hw hS hl
            refine lv_iload_n hx hb dX9_rowsMeet_82 rfl (lv_at hl 3 rfl) ?_
            refine x_if_eq (tgt := 137) hx hb (by omega) dX9_rowsMeet_83 (by decide) (fun c32 => ?_) (fun c32 => ?_)
            · refine lv_iload_n hx hb dX9_rowsMeet_137 rfl (lv_at hl 3 rfl) ?_
              rw [hQ9]
              refine ret_z (mc := 0) (ms := 0) hx hb hr hlocks hw hS (by first | exact Nat.le_of_ble_eq_true rfl | omega) (by first | exact Nat.le_of_ble_eq_true rfl | omega) dX9_rowsMeet_138 (by omega) ?_
              have hMq33 : MInv X10 := minv_frm hMI q900003 (by decide)
              exact ⟨X10, rfl, hRX10, hFX10, hMq33, by omega⟩
            · refine lv_iload hx hb dX9_rowsMeet_86 (lv_at hl 4 rfl) ?_
              refine lv_aload_n hx hb dX9_rowsMeet_88 rfl (lv_at hl 0 rfl) ?_
              refine x_geto hx hb hf9 hw (by first | exact Int.le_refl 0 | omega) (by first | exact zlt hc40 | omega) sl_40_17 lk54 dX9_rowsMeet_89 ?_
              refine lv_iload_n hx hb dX9_rowsMeet_92 rfl (lv_at hl 1 rfl) ?_
              refine x_iald hx hb hK.1 hw (by first | exact Int.le_refl 0 | omega) (by first | exact zlt hc58 | omega) ar_58 (len_E ar_58 (by first | exact Nat.ne_of_beq_eq_false rfl | decide)) (by omega) (by omega) (by omega) dX9_rowsMeet_93 ?_
              have e36 : ∀ p9 q9 : Int, X10 58 p9 q9 = X 58 p9 q9 := fun p9 q9 => by rw [hX10, u3_k _ _ _ _ (by first | exact Nat.ne_of_beq_eq_false rfl | decide), hX9, u3_k _ _ _ _ (by first | exact Nat.ne_of_beq_eq_false rfl | decide)]
              rw [e36 0 a]
              have f37 : 0 ≤ X 58 0 a ∧ X 58 0 a ≤ 12 := hR 58 0 a
              refine x_icmp_ge (tgt := 137) hx hb (by omega) (by omega) dX9_rowsMeet_94 (by decide) (fun c38 => ?_) (fun c38 => ?_)
              · refine lv_iload_n hx hb dX9_rowsMeet_137 rfl (lv_at hl 3 rfl) ?_
                rw [hQ9]
                refine ret_z (mc := 0) (ms := 0) hx hb hr hlocks hw hS (by first | exact Nat.le_of_ble_eq_true rfl | omega) (by first | exact Nat.le_of_ble_eq_true rfl | omega) dX9_rowsMeet_138 (by omega) ?_
                have hMq39 : MInv X10 := minv_frm hMI q900003 (by decide)
                exact ⟨X10, rfl, hRX10, hFX10, hMq39, by omega⟩
              · refine lv_aload_n hx hb dX9_rowsMeet_97 rfl (lv_at hl 0 rfl) ?_
                refine x_geto hx hb hf9 hw (by first | exact Int.le_refl 0 | omega) (by first | exact zlt hc40 | omega) sl_40_18 lk57 dX9_rowsMeet_98 ?_
                refine lv_bipush (v := jI 12) hx hb dX9_rowsMeet_101 (by decide) ?_
                refine lv_iload_n hx hb dX9_rowsMeet_103 rfl (lv_at hl 1 rfl) ?_
                refine x_imul hx hb dX9_rowsMeet_104 ?_
                refine lv_iload hx hb dX9_rowsMeet_105 (lv_at hl 4 rfl) ?_
                refine x_iadd hx hb dX9_rowsMeet_107 ?_
                refine x_lald hx hb hK.1 hw (by first | exact Int.le_refl 0 | omega) (by first | exact zlt hc59 | omega) ar_59 (len_E ar_59 (by first | exact Nat.ne_of_beq_eq_false rfl | decide)) (by omega) (by omega) (by omega) dX9_rowsMeet_108 ?_
                have e42 : ∀ p9 q9 : Int, X10 59 p9 q9 = X 59 p9 q9 := fun p9 q9 => by rw [hX10, u3_k _ _ _ _ (by first | exact Nat.ne_of_beq_eq_false rfl | decide), hX9, u3_k _ _ _ _ (by first | exact Nat.ne_of_beq_eq_false rfl | decide)]
                rw [e42 0 ((12 * a) + k)]
                have f43 : (-9223372036854775808) ≤ X 59 0 ((12 * a) + k) ∧ X 59 0 ((12 * a) + k) ≤ 9223372036854775807 := hR 59 0 ((12 * a) + k)
                refine lv_aload_n hx hb dX9_rowsMeet_109 rfl (lv_at hl 0 rfl) ?_
                refine x_geto hx hb hf9 hw (by first | exact Int.le_refl 0 | omega) (by first | exact zlt hc40 | omega) sl_40_18 lk57 dX9_rowsMeet_110 ?_
                refine lv_bipush (v := jI 12) hx hb dX9_rowsMeet_113 (by decide) ?_
                refine lv_iload_n hx hb dX9_rowsMeet_115 rfl (lv_at hl 2 rfl) ?_
                refine x_imul hx hb dX9_rowsMeet_116 ?_
                refine lv_iload hx hb dX9_rowsMeet_117 (lv_at hl 4 rfl) ?_
                refine x_iadd hx hb dX9_rowsMeet_119 ?_
                refine x_lald hx hb hK.1 hw (by first | exact Int.le_refl 0 | omega) (by first | exact zlt hc59 | omega) ar_59 (len_E ar_59 (by first | exact Nat.ne_of_beq_eq_false rfl | decide)) (by omega) (by omega) (by omega) dX9_rowsMeet_120 ?_
                have e44 : ∀ p9 q9 : Int, X10 59 p9 q9 = X 59 p9 q9 := fun p9 q9 => by rw [hX10, u3_k _ _ _ _ (by first | exact Nat.ne_of_beq_eq_false rfl | decide), hX9, u3_k _ _ _ _ (by first | exact Nat.ne_of_beq_eq_false rfl | decide)]
                rw [e44 0 ((12 * b) + k)]
                have f45 : (-9223372036854775808) ≤ X 59 0 ((12 * b) + k) ∧ X 59 0 ((12 * b) + k) ≤ 9223372036854775807 := hR 59 0 ((12 * b) + k)
                refine x_lcmp hx hb (by omega) (by omega) dX9_rowsMeet_121 ?_
                obtain ⟨z46, ez46⟩ : ∃ y : Int, y = cmpZ (X 59 0 ((12 * a) + k)) (X 59 0 ((12 * b) + k)) := ⟨_, rfl⟩
                rw [← ez46]
                have gz46 : (z46 < 0 ↔ ((X 59 0 ((12 * a) + k)) : Int) < (X 59 0 ((12 * b) + k))) ∧ (z46 = 0 ↔ ((X 59 0 ((12 * a) + k)) : Int) = (X 59 0 ((12 * b) + k))) ∧ -1 ≤ z46 ∧ z46 ≤ 1 := by rw [ez46]; exact ⟨cmpZ_lt, cmpZ_eq, (cmpZ_r _ _).1, (cmpZ_r _ _).2⟩
                clear ez46
                refine x_if_ne (tgt := 129) hx hb (by omega) dX9_rowsMeet_122 (by decide) (fun c47 => ?_) (fun c47 => ?_)
                · replace c47 := cz_neT gz46 c47
                  clear gz46
                  refine lv_iconst (v := jI 0) hx hb dX9_rowsMeet_129 rfl ?_
                  refine lv_istore_n (lv' := [(3, .int (jI 0)), (0, .ref (ad 40 0)), (1, .int (jI a)), (2, .int (jI b)), (4, .int (jI k))]) hx hb dX9_rowsMeet_130 rfl hl (by decide) rfl (fun ls hl => ?_)
                  refine lv_iinc (v := jI (k + 1)) (lv' := [(4, .int (jI (k + 1))), (3, .int (jI 0)), (0, .ref (ad 40 0)), (1, .int (jI a)), (2, .int (jI b))]) hx hb dX9_rowsMeet_131 hl (k := 4) rfl (jI_add _ _) (by decide) rfl (fun ls hl => ?_)
                  refine lv_goto (tgt := 82) hx hb dX9_rowsMeet_134 (by decide) ?_
                  exact ih82 0 (k + 1) _ _ _ (by omega) (by omega) (by omega) hw hS (lv_sub hl [2, 3, 4, 1, 0] rfl)
                · replace c47 := cz_neF gz46 c47
                  clear gz46
                  refine lv_iconst (v := jI 1) hx hb dX9_rowsMeet_125 rfl ?_
                  refine lv_goto (tgt := 130) hx hb dX9_rowsMeet_126 (by decide) ?_
                  refine lv_istore_n (lv' := [(3, .int (jI 1)), (0, .ref (ad 40 0)), (1, .int (jI a)), (2, .int (jI b)), (4, .int (jI k))]) hx hb dX9_rowsMeet_130 rfl hl (by decide) rfl (fun ls hl => ?_)
                  refine lv_iinc (v := jI (k + 1)) (lv' := [(4, .int (jI (k + 1))), (3, .int (jI 1)), (0, .ref (ad 40 0)), (1, .int (jI a)), (2, .int (jI b))]) hx hb dX9_rowsMeet_131 hl (k := 4) rfl (jI_add _ _) (by decide) rfl (fun ls hl => ?_)
                  refine lv_goto (tgt := 82) hx hb dX9_rowsMeet_134 (by decide) ?_
                  exact ih82 1 (k + 1) _ _ _ (by omega) (by omega) (by omega) hw hS (lv_sub hl [2, 3, 4, 1, 0] rfl)
        exact lp82 (12 - 0 : Int).toNat.succ 1 0 _ _ _ (by omega) (by omega) (by omega) hw hS (lv_sub hl [2, 3, 4, 1, 0] rfl)
    · refine lv_aload_n hx hb dX9_rowsMeet_18 rfl (lv_at hl 0 rfl) ?_
      refine x_geto hx hb hf9 hw (by first | exact Int.le_refl 0 | omega) (by first | exact zlt hc40 | omega) sl_40_47 lk136 dX9_rowsMeet_19 ?_
      refine lv_iload_n hx hb dX9_rowsMeet_22 rfl (lv_at hl 1 rfl) ?_
      refine x_iald hx hb hK.1 hw (by first | exact Int.le_refl 0 | omega) (by first | exact zlt hc88 | omega) ar_88 (len_E ar_88 (by first | exact Nat.ne_of_beq_eq_false rfl | decide)) (by omega) (by omega) (by omega) dX9_rowsMeet_23 ?_
      have f48 : (-1) ≤ X 88 0 a ∧ X 88 0 a ≤ 399 := hR 88 0 a
      refine lv_iload_n hx hb dX9_rowsMeet_24 rfl (lv_at hl 2 rfl) ?_
      refine x_icmp_ne (tgt := 42) hx hb (by omega) (by omega) dX9_rowsMeet_25 (by decide) (fun c49 => ?_) (fun c49 => ?_)
      · refine lv_iconst (v := jI 0) hx hb dX9_rowsMeet_42 rfl ?_
        rw [hQ9]
        refine ret_z (mc := 0) (ms := 0) hx hb hr hlocks hw hS (by first | exact Nat.le_of_ble_eq_true rfl | omega) (by first | exact Nat.le_of_ble_eq_true rfl | omega) dX9_rowsMeet_43 (by omega) ?_
        exact ⟨X, rfl, hR, Frm.rf, hMI, by omega⟩
      · refine lv_aload_n hx hb dX9_rowsMeet_28 rfl (lv_at hl 0 rfl) ?_
        refine x_geto hx hb hf9 hw (by first | exact Int.le_refl 0 | omega) (by first | exact zlt hc40 | omega) sl_40_48 lk139 dX9_rowsMeet_29 ?_
        refine lv_iload_n hx hb dX9_rowsMeet_32 rfl (lv_at hl 2 rfl) ?_
        refine x_iald hx hb hK.1 hw (by first | exact Int.le_refl 0 | omega) (by first | exact zlt hc89 | omega) ar_89 (len_E ar_89 (by first | exact Nat.ne_of_beq_eq_false rfl | decide)) (by omega) (by omega) (by omega) dX9_rowsMeet_33 ?_
        have f50 : (-1) ≤ X 89 0 b ∧ X 89 0 b ≤ 399 := hR 89 0 b
        refine lv_iload_n hx hb dX9_rowsMeet_34 rfl (lv_at hl 1 rfl) ?_
        refine x_icmp_ne (tgt := 42) hx hb (by omega) (by omega) dX9_rowsMeet_35 (by decide) (fun c51 => ?_) (fun c51 => ?_)
        · refine lv_iconst (v := jI 0) hx hb dX9_rowsMeet_42 rfl ?_
          rw [hQ9]
          refine ret_z (mc := 0) (ms := 0) hx hb hr hlocks hw hS (by first | exact Nat.le_of_ble_eq_true rfl | omega) (by first | exact Nat.le_of_ble_eq_true rfl | omega) dX9_rowsMeet_43 (by omega) ?_
          exact ⟨X, rfl, hR, Frm.rf, hMI, by omega⟩
        · refine lv_iconst (v := jI 1) hx hb dX9_rowsMeet_38 rfl ?_
          refine lv_goto (tgt := 43) hx hb dX9_rowsMeet_39 (by decide) ?_
          rw [hQ9]
          refine ret_z (mc := 0) (ms := 0) hx hb hr hlocks hw hS (by first | exact Nat.le_of_ble_eq_true rfl | omega) (by first | exact Nat.le_of_ble_eq_true rfl | omega) dX9_rowsMeet_43 (by omega) ?_
          exact ⟨X, rfl, hR, Frm.rf, hMI, by omega⟩

set_option maxHeartbeats 4000000 in
set_option maxRecDepth 100000 in
theorem c_X9_saved (l : Launch) (D : va_G) (tc : Nat → ClassId) (base : Nat) (ad : Nat → Int → Nat) (cnt : Nat → Int) (X : Nat → Int → Int → Int) (Y : Nat → Int → Int → Option Int) (ln : Int → Int) (hR : Rng X) (hFx : Fx cnt) (hMI : MInv X) (sv what : Int) (hsv : -2147483648 ≤ sv ∧ sv ≤ 2147483647) (hwhat : -2147483648 ≤ what ∧ what ≤ 2147483647) : KI l D tc base yX9_saved wsX9_saved ({ frames := 1, cells := 0, slots := 0, locals := 21 } : Room) [.ref (ad 40 0), .int (jI sv), .int (jI what)] (ad, cnt, X, Y, ln) 0 0 (fun z u => ∃ X1 : Nat → Int → Int → Int, u = (ad, cnt, X1, Y, ln) ∧ Rng X1 ∧ Frm [4001] X X1 ∧ MInv X1 ∧ (-2147483648 ≤ z ∧ z ≤ 2147483647) ∧ ((¬ (0 ≤ sv ∧ sv < 4) ∧ z = -1) ∨ ((0 ≤ sv ∧ sv < 4) ∧ what = 0 ∧ z = X 70 0 sv) ∨ ((0 ≤ sv ∧ sv < 4) ∧ what = 1 ∧ X 70 0 sv = 0 ∧ z = 0) ∨ ((0 ≤ sv ∧ sv < 4) ∧ what = 1 ∧ X 70 0 sv ≠ 0 ∧ z = X 76 0 sv) ∨ ((0 ≤ sv ∧ sv < 4) ∧ what ≠ 0 ∧ what ≠ 1 ∧ z = -2))) := by
  refine K_of (cc := cX9_saved) (maxL := 3) (ret := (some .int)) (by decide) rfl (Nat.le_of_ble_eq_true rfl) ?_
  intro p e s m below meth c ls hx hb hr hml hown hts hlocks hl hK hw hS
  have hown : s.vm.findClass RX9 = some m.cls := hown
  obtain ⟨av9, hav9⟩ : ∃ a9 : Array Value, a9 = ([.ref (ad 40 0), .int (jI sv), .int (jI what)] : List Value).toArray := ⟨_, rfl⟩
  rw [← hav9] at hts ⊢
  obtain ⟨Q9, hQ9⟩ : ∃ q9Q : State → Prop, q9Q = MQ below (QI D tc base (fun z u => ∃ X1 : Nat → Int → Int → Int, u = (ad, cnt, X1, Y, ln) ∧ Rng X1 ∧ Frm [4001] X X1 ∧ MInv X1 ∧ (-2147483648 ≤ z ∧ z ≤ 2147483647) ∧ ((¬ (0 ≤ sv ∧ sv < 4) ∧ z = -1) ∨ ((0 ≤ sv ∧ sv < 4) ∧ what = 0 ∧ z = X 70 0 sv) ∨ ((0 ≤ sv ∧ sv < 4) ∧ what = 1 ∧ X 70 0 sv = 0 ∧ z = 0) ∨ ((0 ≤ sv ∧ sv < 4) ∧ what = 1 ∧ X 70 0 sv ≠ 0 ∧ z = X 76 0 sv) ∨ ((0 ≤ sv ∧ sv < 4) ∧ what ≠ 0 ∧ what ≠ 1 ∧ z = -2)))) av9 s 0 0 (frA base) := ⟨_, rfl⟩
  rw [← hQ9]
  have hi9 : ∀ w ∈ wsX90, w ∈ wsX9_saved := fun w h => List.mem_cons_of_mem _ (List.mem_append_right _ h)
  have hf9 : fctx s m _ RX9 wsX9_saved D tc RX9 TX9 51 9 := ⟨hts, hi9, hown, hK.1, rfl⟩
  have lk81 := hts (.fieldLink RX9 81 (TX9 29).1 (TX9 29).2.1 (TX9 29).2.2.1) (gj_X9_saved_0 _ (gp_1 gp_h))
  have lk99 := hts (.fieldLink RX9 99 (TX9 35).1 (TX9 35).2.1 (TX9 35).2.2.1) (gj_X9_saved_0 _ (gp_1 (gp_1 gp_h)))
  have lk145 := hts (.fieldLink RX9 145 (TX9 0).1 (TX9 0).2.1 (TX9 0).2.2.1) (gj_X9_saved_0 _ (gp_h))
  have hc40 : cnt 40 = 1 := hFx.at 40 1 (by decide)
  have hc70 : cnt 70 = 1 := hFx.at 70 1 (by decide)
  have hc76 : cnt 76 = 1 := hFx.at 76 1 (by decide)
  have hl : lv_has ls 3 [(0, .ref (ad 40 0)), (1, .int (jI sv)), (2, .int (jI what))] := hl
  have fstypes : 0 ≤ X 40 0 2 ∧ X 40 0 2 ≤ 8 := hR 40 0 2
  have fsthings : 0 ≤ X 40 0 13 ∧ X 40 0 13 ≤ 30 := hR 40 0 13
  have fsmarks : 0 ≤ X 40 0 20 ∧ X 40 0 20 ≤ 4 := hR 40 0 20
  have fsnotes : 0 ≤ X 40 0 22 ∧ X 40 0 22 ≤ 80 := hR 40 0 22
  refine lv_aload_n hx hb dX9_saved_0 rfl (lv_at hl 0 rfl) ?_
  refine lv_iconst (v := jI 0) hx hb dX9_saved_1 rfl ?_
  refine x_puti (jz := 0) hx hb hf9 ⟨tyX9_ok, nmX9⟩ hw hS (by first | exact Int.le_refl 0 | omega) (by first | exact zlt hc40 | omega) sl_40_0 rfl lk145 rfl (tyX9_ok 0 (by decide)) rfl rfl dX9_saved_2 (fun H locs hw hS => ?_)
  obtain ⟨X1, hX1⟩ : ∃ Xq, Xq = u3 X 40 0 0 0 := ⟨_, rfl⟩
  rw [← hX1] at hw
  have hRX1 : Rng X1 := by rw [hX1]; exact rng_set hR (show (-2147483648) ≤ 0 ∧ 0 ≤ 2147483647 by omega)
  have hVX1 : X1 40 0 0 = 0 := by rw [hX1]; exact u3_s _ _ _ _ _
  have hFX1 : Frm [4001] X X1 := by rw [hX1]; exact Frm.set Frm.rf (show 4001 ∈ [4001] by first | exact nlm_in rfl | decide)
  refine lv_aload_n hx hb dX9_saved_5 rfl (lv_at hl 0 rfl) ?_
  refine lv_iload_n hx hb dX9_saved_6 rfl (lv_at hl 1 rfl) ?_
  refine gos_i (run_V (As := [.int (jI sv)]) (rest := []) hx hb hml hown hts (c_X9_isSave l D tc base ad cnt X1 Y ln hRX1 hFx sv (by omega)) (cwV 1 hts gX9_saved_X9_isSave rfl rfl rfl (by first | exact hd_X9_isSave | decide +kernel) ⟨Nat.le_of_ble_eq_true rfl, Nat.le_of_ble_eq_true rfl⟩) hK hw (by first | exact Int.le_refl 0 | omega) (by first | exact zlt hc40 | omega) sl_40_0 rfl rfl hl.1 rfl (Nat.le_of_ble_eq_true rfl) dX9_saved_7 ⟨Nat.le_of_ble_eq_true rfl, Nat.le_of_ble_eq_true rfl⟩) hS (fun z2 u3 H locs p4 hw hS => ?_)
  obtain ⟨eu3, p4⟩ := p4
  subst eu3
  have q900007 : Frm [4001] X X1 := by rw [hX1]; exact Frm.set Frm.rf (show 4001 ∈ [4001] by first | exact nlm_in rfl | decide)
  rcases p4 with ⟨ez2, p4⟩ | ⟨ez2, p4⟩
  · subst ez2
    refine x_if_neT (tgt := 15) hx hb (by omega) (by decide) dX9_saved_10 (by decide) ?_
    refine lv_iload_n hx hb dX9_saved_15 rfl (lv_at hl 2 rfl) ?_
    refine x_if_ne (tgt := 28) hx hb (by omega) dX9_saved_16 (by decide) (fun c5 => ?_) (fun c5 => ?_)
    · refine lv_iload_n hx hb dX9_saved_28 rfl (lv_at hl 2 rfl) ?_
      refine lv_iconst (v := jI 1) hx hb dX9_saved_29 rfl ?_
      refine x_icmp_ne (tgt := 55) hx hb (by omega) (by omega) dX9_saved_30 (by decide) (fun c6 => ?_) (fun c6 => ?_)
      · refine lv_bipush (v := jI (-2)) hx hb dX9_saved_55 (by decide) ?_
        rw [hQ9]
        refine ret_i (mc := 0) (ms := 0) hx hb hr hlocks hw hS (by first | exact Nat.le_of_ble_eq_true rfl | omega) (by first | exact Nat.le_of_ble_eq_true rfl | omega) dX9_saved_57 ?_
        have q8 : Frm [4001] X X1 := by rw [hX1]; exact Frm.set Frm.rf (show 4001 ∈ [4001] by first | exact nlm_in rfl | decide)
        have hMq7 : MInv X1 := minv_frm hMI q8 (by decide)
        exact ⟨X1, rfl, hRX1, hFX1, hMq7, by omega, (by (try delta Hid at *); first | exact Or.inr (Or.inr (Or.inr (Or.inr (⟨(by omega), by omega, by omega, by omega⟩)))) | exact Or.inr (Or.inl ⟨(by omega), by omega, by omega⟩) | exact Or.inr (Or.inr (Or.inr (Or.inl ⟨(by omega), by omega, by omega, by omega⟩))))⟩
      · refine lv_aload_n hx hb dX9_saved_33 rfl (lv_at hl 0 rfl) ?_
        refine x_geto hx hb hf9 hw (by first | exact Int.le_refl 0 | omega) (by first | exact zlt hc40 | omega) sl_40_29 lk81 dX9_saved_34 ?_
        refine lv_iload_n hx hb dX9_saved_37 rfl (lv_at hl 1 rfl) ?_
        refine x_iald hx hb hK.1 hw (by first | exact Int.le_refl 0 | omega) (by first | exact zlt hc70 | omega) ar_70 (len_E ar_70 (by first | exact Nat.ne_of_beq_eq_false rfl | decide)) (by omega) (by omega) (by omega) dX9_saved_38 ?_
        have e9 : ∀ p9 q9 : Int, X1 70 p9 q9 = X 70 p9 q9 := fun p9 q9 => by rw [hX1, u3_k _ _ _ _ (by first | exact Nat.ne_of_beq_eq_false rfl | decide)]
        rw [e9 0 sv]
        have f10 : 0 ≤ X 70 0 sv ∧ X 70 0 sv ≤ 30 := hR 70 0 sv
        refine x_if_ne (tgt := 46) hx hb (by omega) dX9_saved_39 (by decide) (fun c11 => ?_) (fun c11 => ?_)
        · refine lv_aload_n hx hb dX9_saved_46 rfl (lv_at hl 0 rfl) ?_
          refine x_geto hx hb hf9 hw (by first | exact Int.le_refl 0 | omega) (by first | exact zlt hc40 | omega) sl_40_35 lk99 dX9_saved_47 ?_
          refine lv_iload_n hx hb dX9_saved_50 rfl (lv_at hl 1 rfl) ?_
          refine x_iald hx hb hK.1 hw (by first | exact Int.le_refl 0 | omega) (by first | exact zlt hc76 | omega) ar_76 (len_E ar_76 (by first | exact Nat.ne_of_beq_eq_false rfl | decide)) (by omega) (by omega) (by omega) dX9_saved_51 ?_
          have e12 : ∀ p9 q9 : Int, X1 76 p9 q9 = X 76 p9 q9 := fun p9 q9 => by rw [hX1, u3_k _ _ _ _ (by first | exact Nat.ne_of_beq_eq_false rfl | decide)]
          rw [e12 0 sv]
          have f13 : 0 ≤ X 76 0 sv ∧ X 76 0 sv ≤ 150 := hR 76 0 sv
          refine lv_goto (tgt := 57) hx hb dX9_saved_52 (by decide) ?_
          rw [hQ9]
          refine ret_i (mc := 0) (ms := 0) hx hb hr hlocks hw hS (by first | exact Nat.le_of_ble_eq_true rfl | omega) (by first | exact Nat.le_of_ble_eq_true rfl | omega) dX9_saved_57 ?_
          have q15 : Frm [4001] X X1 := by rw [hX1]; exact Frm.set Frm.rf (show 4001 ∈ [4001] by first | exact nlm_in rfl | decide)
          have hMq14 : MInv X1 := minv_frm hMI q15 (by decide)
          exact ⟨X1, rfl, hRX1, hFX1, hMq14, by omega, (by (try delta Hid at *); first | exact Or.inr (Or.inr (Or.inr (Or.inl ⟨(by omega), by omega, by omega, by omega⟩))) | exact Or.inr (Or.inl ⟨(by omega), by omega, by omega⟩) | exact Or.inl ⟨(fun q => by omega), by omega⟩ | exact Or.inr (Or.inr (Or.inl ⟨(by omega), by omega, by omega, by omega⟩)) | exact Or.inr (Or.inr (Or.inr (Or.inr (⟨(by omega), by omega, by omega, by omega⟩)))))⟩
        · refine lv_iconst (v := jI 0) hx hb dX9_saved_42 rfl ?_
          refine lv_goto (tgt := 57) hx hb dX9_saved_43 (by decide) ?_
          rw [hQ9]
          refine ret_i (mc := 0) (ms := 0) hx hb hr hlocks hw hS (by first | exact Nat.le_of_ble_eq_true rfl | omega) (by first | exact Nat.le_of_ble_eq_true rfl | omega) dX9_saved_57 ?_
          have q17 : Frm [4001] X X1 := by rw [hX1]; exact Frm.set Frm.rf (show 4001 ∈ [4001] by first | exact nlm_in rfl | decide)
          have hMq16 : MInv X1 := minv_frm hMI q17 (by decide)
          exact ⟨X1, rfl, hRX1, hFX1, hMq16, by omega, (by (try delta Hid at *); first | exact Or.inr (Or.inr (Or.inl ⟨(by omega), by omega, by omega, by omega⟩)) | exact Or.inr (Or.inl ⟨(by omega), by omega, by omega⟩) | exact Or.inr (Or.inr (Or.inr (Or.inl ⟨(by omega), by omega, by omega, by omega⟩))))⟩
    · refine lv_aload_n hx hb dX9_saved_19 rfl (lv_at hl 0 rfl) ?_
      refine x_geto hx hb hf9 hw (by first | exact Int.le_refl 0 | omega) (by first | exact zlt hc40 | omega) sl_40_29 lk81 dX9_saved_20 ?_
      refine lv_iload_n hx hb dX9_saved_23 rfl (lv_at hl 1 rfl) ?_
      refine x_iald hx hb hK.1 hw (by first | exact Int.le_refl 0 | omega) (by first | exact zlt hc70 | omega) ar_70 (len_E ar_70 (by first | exact Nat.ne_of_beq_eq_false rfl | decide)) (by omega) (by omega) (by omega) dX9_saved_24 ?_
      have e18 : ∀ p9 q9 : Int, X1 70 p9 q9 = X 70 p9 q9 := fun p9 q9 => by rw [hX1, u3_k _ _ _ _ (by first | exact Nat.ne_of_beq_eq_false rfl | decide)]
      rw [e18 0 sv]
      have f19 : 0 ≤ X 70 0 sv ∧ X 70 0 sv ≤ 30 := hR 70 0 sv
      refine lv_goto (tgt := 57) hx hb dX9_saved_25 (by decide) ?_
      rw [hQ9]
      refine ret_i (mc := 0) (ms := 0) hx hb hr hlocks hw hS (by first | exact Nat.le_of_ble_eq_true rfl | omega) (by first | exact Nat.le_of_ble_eq_true rfl | omega) dX9_saved_57 ?_
      have hMq20 : MInv X1 := minv_frm hMI q900007 (by decide)
      exact ⟨X1, rfl, hRX1, hFX1, hMq20, by omega, (by (try delta Hid at *); first | exact Or.inr (Or.inl ⟨(by omega), by omega, by omega⟩) | exact Or.inr (Or.inr (Or.inr (Or.inl ⟨(by omega), by omega, by omega, by omega⟩))) | exact Or.inl ⟨(fun q => by omega), by omega⟩ | exact Or.inr (Or.inr (Or.inl ⟨(by omega), by omega, by omega, by omega⟩)) | exact Or.inr (Or.inr (Or.inr (Or.inr (⟨(by omega), by omega, by omega, by omega⟩)))))⟩
  · subst ez2
    refine x_if_neF (tgt := 15) hx hb (by omega) (by decide) dX9_saved_10 (by decide) ?_
    refine lv_iconst (v := jI (-1)) hx hb dX9_saved_13 rfl ?_
    rw [hQ9]
    refine ret_i (mc := 0) (ms := 0) hx hb hr hlocks hw hS (by first | exact Nat.le_of_ble_eq_true rfl | omega) (by first | exact Nat.le_of_ble_eq_true rfl | omega) dX9_saved_14 ?_
    have hMq22 : MInv X1 := minv_frm hMI q900007 (by decide)
    exact ⟨X1, rfl, hRX1, hFX1, hMq22, by omega, (by (try delta Hid at *); first | exact Or.inl ⟨(fun q => by omega), by omega⟩ | exact Or.inr (Or.inl ⟨(by omega), by omega, by omega⟩) | exact Or.inr (Or.inr (Or.inr (Or.inl ⟨(by omega), by omega, by omega, by omega⟩))))⟩

set_option maxHeartbeats 4000000 in
set_option maxRecDepth 100000 in
theorem c_X9_rowsDiffer (l : Launch) (D : va_G) (tc : Nat → ClassId) (base : Nat) (ad : Nat → Int → Nat) (cnt : Nat → Int) (X : Nat → Int → Int → Int) (Y : Nat → Int → Int → Option Int) (ln : Int → Int) (hR : Rng X) (hFx : Fx cnt) (hMI : MInv X) (a b : Int) (ha0 : 0 ≤ a ∧ a ≤ 749) (hb0 : 0 ≤ b ∧ b ≤ 749) : KI l D tc base yX9_rowsDiffer wsX9_rowsDiffer ({ frames := 0, cells := 0, slots := 0, locals := 0 } : Room) [.ref (ad 40 0), .int (jI a), .int (jI b)] (ad, cnt, X, Y, ln) 0 0 (fun z u => u = (ad, cnt, X, Y, ln) ∧ (0 ≤ z ∧ z ≤ 1) ∧ ((z = 0 ∧ rdE X a b) ∨ (z = 1 ∧ ¬ rdE X a b))) := by
  refine K_of (cc := cX9_rowsDiffer) (maxL := 5) (ret := (some .boolean)) (by decide) rfl (Nat.le_of_ble_eq_true rfl) ?_
  intro p e s m below meth c ls hx hb hr hml hown hts hlocks hl hK hw hS
  have hown : s.vm.findClass RX9 = some m.cls := hown
  obtain ⟨av9, hav9⟩ : ∃ a9 : Array Value, a9 = ([.ref (ad 40 0), .int (jI a), .int (jI b)] : List Value).toArray := ⟨_, rfl⟩
  rw [← hav9] at hts ⊢
  obtain ⟨Q9, hQ9⟩ : ∃ q9Q : State → Prop, q9Q = MQ below (QI D tc base (fun z u => u = (ad, cnt, X, Y, ln) ∧ (0 ≤ z ∧ z ≤ 1) ∧ ((z = 0 ∧ rdE X a b) ∨ (z = 1 ∧ ¬ rdE X a b)))) av9 s 0 0 (frA base) := ⟨_, rfl⟩
  rw [← hQ9]
  have hi9 : ∀ w ∈ wsX90, w ∈ wsX9_rowsDiffer := fun w h => List.mem_cons_of_mem _ (List.mem_append_right _ h)
  have hf9 : fctx s m _ RX9 wsX9_rowsDiffer D tc RX9 TX9 51 9 := ⟨hts, hi9, hown, hK.1, rfl⟩
  have lk102 := hts (.fieldLink RX9 102 (TX9 36).1 (TX9 36).2.1 (TX9 36).2.2.1) (gj_X9_rowsDiffer_0 _ (gp_h))
  have lk105 := hts (.fieldLink RX9 105 (TX9 37).1 (TX9 37).2.1 (TX9 37).2.2.1) (gj_X9_rowsDiffer_0 _ (gp_1 gp_h))
  have lk108 := hts (.fieldLink RX9 108 (TX9 38).1 (TX9 38).2.1 (TX9 38).2.2.1) (gj_X9_rowsDiffer_0 _ (gp_1 (gp_1 gp_h)))
  have hc40 : cnt 40 = 1 := hFx.at 40 1 (by decide)
  have hc77 : cnt 77 = 1 := hFx.at 77 1 (by decide)
  have hc78 : cnt 78 = 1 := hFx.at 78 1 (by decide)
  have hc79 : cnt 79 = 1 := hFx.at 79 1 (by decide)
  have hl : lv_has ls 5 [(0, .ref (ad 40 0)), (1, .int (jI a)), (2, .int (jI b))] := hl
  have fstypes : 0 ≤ X 40 0 2 ∧ X 40 0 2 ≤ 8 := hR 40 0 2
  have fsthings : 0 ≤ X 40 0 13 ∧ X 40 0 13 ≤ 30 := hR 40 0 13
  have fsmarks : 0 ≤ X 40 0 20 ∧ X 40 0 20 ≤ 4 := hR 40 0 20
  have fsnotes : 0 ≤ X 40 0 22 ∧ X 40 0 22 ≤ 80 := hR 40 0 22
  refine lv_aload_n hx hb dX9_rowsDiffer_0 rfl (lv_at hl 0 rfl) ?_
  refine x_geto hx hb hf9 hw (by first | exact Int.le_refl 0 | omega) (by first | exact zlt hc40 | omega) sl_40_36 lk102 dX9_rowsDiffer_1 ?_
  refine lv_iload_n hx hb dX9_rowsDiffer_4 rfl (lv_at hl 1 rfl) ?_
  refine x_iald hx hb hK.1 hw (by first | exact Int.le_refl 0 | omega) (by first | exact zlt hc77 | omega) ar_77 (len_E ar_77 (by first | exact Nat.ne_of_beq_eq_false rfl | decide)) (by omega) (by omega) (by omega) dX9_rowsDiffer_5 ?_
  have f1 : 0 ≤ X 77 0 a ∧ X 77 0 a ≤ 5 := hR 77 0 a
  refine lv_aload_n hx hb dX9_rowsDiffer_6 rfl (lv_at hl 0 rfl) ?_
  refine x_geto hx hb hf9 hw (by first | exact Int.le_refl 0 | omega) (by first | exact zlt hc40 | omega) sl_40_36 lk102 dX9_rowsDiffer_7 ?_
  refine lv_iload_n hx hb dX9_rowsDiffer_10 rfl (lv_at hl 2 rfl) ?_
  refine x_iald hx hb hK.1 hw (by first | exact Int.le_refl 0 | omega) (by first | exact zlt hc77 | omega) ar_77 (len_E ar_77 (by first | exact Nat.ne_of_beq_eq_false rfl | decide)) (by omega) (by omega) (by omega) dX9_rowsDiffer_11 ?_
  have f2 : 0 ≤ X 77 0 b ∧ X 77 0 b ≤ 5 := hR 77 0 b
  refine x_icmp_ne (tgt := 34) hx hb (by omega) (by omega) dX9_rowsDiffer_12 (by decide) (fun c3 => ?_) (fun c3 => ?_)
  · refine lv_iconst (v := jI 0) hx hb dX9_rowsDiffer_34 rfl ?_
    refine lv_istore_n (lv' := [(3, .int (jI 0)), (0, .ref (ad 40 0)), (1, .int (jI a)), (2, .int (jI b))]) hx hb dX9_rowsDiffer_35 rfl hl (by decide) rfl (fun ls hl => ?_)
    refine lv_iconst (v := jI 0) hx hb dX9_rowsDiffer_36 rfl ?_
    refine lv_istore (lv' := [(4, .int (jI 0)), (3, .int (jI 0)), (0, .ref (ad 40 0)), (1, .int (jI a)), (2, .int (jI b))]) hx hb dX9_rowsDiffer_37 hl (by decide) rfl (fun ls hl => ?_)
    have lp39 : ∀ (nn : Nat) (sm : Int) (k : Int) (H : Heap) (locs : List Loc) (ls : Array Slot), (12 - k) < (nn : Int) → (0 ≤ sm ∧ sm ≤ 1) → (0 ≤ k ∧ k ≤ 12) → (sm = 1 → X 77 0 a = X 77 0 b ∧ X 78 0 a = X 78 0 b ∧ ∀ j, 0 ≤ j → j < k → X 79 0 (12 * a + j) = X 79 0 (12 * b + j)) → (sm = 0 → ¬ rdE X a b) → wd D tc base (ad, cnt, X, Y, ln) H → va_S (frA base) s.heap H locs → lv_has ls 5 [(0, .ref (ad 40 0)), (1, .int (jI a)), (2, .int (jI b)), (3, .int (jI sm)), (4, .int (jI k))] → W p l e ({ frames := 0, cells := 0, slots := 0, locals := 0 } : Room) s m av9 below meth c H locs 0 0 Q9 (F0 m 39 ls []) := by
      intro nn
      induction nn with
      | zero => intro sm k H locs ls hm hsm hk hsm1 hsm0 hw hS hl; exfalso; omega
      | succ nn ih39 =>
        intro sm k H locs ls hm hsm hk hsm1 hsm0 hw hS hl
        refine lv_iload_n hx hb dX9_rowsDiffer_39 rfl (lv_at hl 3 rfl) ?_
        refine x_if_eq (tgt := 94) hx hb (by omega) dX9_rowsDiffer_40 (by decide) (fun c4 => ?_) (fun c4 => ?_)
        · refine lv_iload_n hx hb dX9_rowsDiffer_94 rfl (lv_at hl 3 rfl) ?_
          refine x_if_ne (tgt := 102) hx hb (by omega) dX9_rowsDiffer_95 (by decide) (fun c5 => ?_) (fun c5 => ?_)
          · refine lv_iconst (v := jI 0) hx hb dX9_rowsDiffer_102 rfl ?_
            rw [hQ9]
            refine ret_z (mc := 0) (ms := 0) hx hb hr hlocks hw hS (by first | exact Nat.le_of_ble_eq_true rfl | omega) (by first | exact Nat.le_of_ble_eq_true rfl | omega) dX9_rowsDiffer_103 (by omega) ?_
            exact ⟨rfl, by omega, Or.inl ⟨by omega, (by obtain ⟨q1, q2, q3⟩ := hsm1 (by omega); exact ⟨q1, q2, fun j a b => q3 j a (by omega)⟩)⟩⟩
          · refine lv_iconst (v := jI 1) hx hb dX9_rowsDiffer_98 rfl ?_
            refine lv_goto (tgt := 103) hx hb dX9_rowsDiffer_99 (by decide) ?_
            rw [hQ9]
            refine ret_z (mc := 0) (ms := 0) hx hb hr hlocks hw hS (by first | exact Nat.le_of_ble_eq_true rfl | omega) (by first | exact Nat.le_of_ble_eq_true rfl | omega) dX9_rowsDiffer_103 (by omega) ?_
            exact ⟨rfl, by omega, Or.inr ⟨by omega, hsm0 (by omega)⟩⟩
        · refine lv_iload hx hb dX9_rowsDiffer_43 (lv_at hl 4 rfl) ?_
          refine lv_aload_n hx hb dX9_rowsDiffer_45 rfl (lv_at hl 0 rfl) ?_
          refine x_geto hx hb hf9 hw (by first | exact Int.le_refl 0 | omega) (by first | exact zlt hc40 | omega) sl_40_37 lk105 dX9_rowsDiffer_46 ?_
          refine lv_iload_n hx hb dX9_rowsDiffer_49 rfl (lv_at hl 1 rfl) ?_
          refine x_iald hx hb hK.1 hw (by first | exact Int.le_refl 0 | omega) (by first | exact zlt hc78 | omega) ar_78 (len_E ar_78 (by first | exact Nat.ne_of_beq_eq_false rfl | decide)) (by omega) (by omega) (by omega) dX9_rowsDiffer_50 ?_
          have f6 : 0 ≤ X 78 0 a ∧ X 78 0 a ≤ 12 := hR 78 0 a
          refine x_icmp_ge (tgt := 94) hx hb (by omega) (by omega) dX9_rowsDiffer_51 (by decide) (fun c7 => ?_) (fun c7 => ?_)
          · refine lv_iload_n hx hb dX9_rowsDiffer_94 rfl (lv_at hl 3 rfl) ?_
            refine x_if_ne (tgt := 102) hx hb (by omega) dX9_rowsDiffer_95 (by decide) (fun c8 => ?_) (fun c8 => ?_)
            · refine lv_iconst (v := jI 0) hx hb dX9_rowsDiffer_102 rfl ?_
              rw [hQ9]
              refine ret_z (mc := 0) (ms := 0) hx hb hr hlocks hw hS (by first | exact Nat.le_of_ble_eq_true rfl | omega) (by first | exact Nat.le_of_ble_eq_true rfl | omega) dX9_rowsDiffer_103 (by omega) ?_
              exact ⟨rfl, by omega, Or.inl ⟨by omega, (by obtain ⟨q1, q2, q3⟩ := hsm1 (by omega); exact ⟨q1, q2, fun j a b => q3 j a (by omega)⟩)⟩⟩
            · refine lv_iconst (v := jI 1) hx hb dX9_rowsDiffer_98 rfl ?_
              refine lv_goto (tgt := 103) hx hb dX9_rowsDiffer_99 (by decide) ?_
              rw [hQ9]
              refine ret_z (mc := 0) (ms := 0) hx hb hr hlocks hw hS (by first | exact Nat.le_of_ble_eq_true rfl | omega) (by first | exact Nat.le_of_ble_eq_true rfl | omega) dX9_rowsDiffer_103 (by omega) ?_
              exact ⟨rfl, by omega, Or.inr ⟨by omega, hsm0 (by omega)⟩⟩
          · refine lv_aload_n hx hb dX9_rowsDiffer_54 rfl (lv_at hl 0 rfl) ?_
            refine x_geto hx hb hf9 hw (by first | exact Int.le_refl 0 | omega) (by first | exact zlt hc40 | omega) sl_40_38 lk108 dX9_rowsDiffer_55 ?_
            refine lv_bipush (v := jI 12) hx hb dX9_rowsDiffer_58 (by decide) ?_
            refine lv_iload_n hx hb dX9_rowsDiffer_60 rfl (lv_at hl 1 rfl) ?_
            refine x_imul hx hb dX9_rowsDiffer_61 ?_
            refine lv_iload hx hb dX9_rowsDiffer_62 (lv_at hl 4 rfl) ?_
            refine x_iadd hx hb dX9_rowsDiffer_64 ?_
            refine x_lald hx hb hK.1 hw (by first | exact Int.le_refl 0 | omega) (by first | exact zlt hc79 | omega) ar_79 (len_E ar_79 (by first | exact Nat.ne_of_beq_eq_false rfl | decide)) (by omega) (by omega) (by omega) dX9_rowsDiffer_65 ?_
            have f9 : (-9223372036854775808) ≤ X 79 0 ((12 * a) + k) ∧ X 79 0 ((12 * a) + k) ≤ 9223372036854775807 := hR 79 0 ((12 * a) + k)
            refine lv_aload_n hx hb dX9_rowsDiffer_66 rfl (lv_at hl 0 rfl) ?_
            refine x_geto hx hb hf9 hw (by first | exact Int.le_refl 0 | omega) (by first | exact zlt hc40 | omega) sl_40_38 lk108 dX9_rowsDiffer_67 ?_
            refine lv_bipush (v := jI 12) hx hb dX9_rowsDiffer_70 (by decide) ?_
            refine lv_iload_n hx hb dX9_rowsDiffer_72 rfl (lv_at hl 2 rfl) ?_
            refine x_imul hx hb dX9_rowsDiffer_73 ?_
            refine lv_iload hx hb dX9_rowsDiffer_74 (lv_at hl 4 rfl) ?_
            refine x_iadd hx hb dX9_rowsDiffer_76 ?_
            refine x_lald hx hb hK.1 hw (by first | exact Int.le_refl 0 | omega) (by first | exact zlt hc79 | omega) ar_79 (len_E ar_79 (by first | exact Nat.ne_of_beq_eq_false rfl | decide)) (by omega) (by omega) (by omega) dX9_rowsDiffer_77 ?_
            have f10 : (-9223372036854775808) ≤ X 79 0 ((12 * b) + k) ∧ X 79 0 ((12 * b) + k) ≤ 9223372036854775807 := hR 79 0 ((12 * b) + k)
            refine x_lcmp hx hb (by omega) (by omega) dX9_rowsDiffer_78 ?_
            obtain ⟨z11, ez11⟩ : ∃ y : Int, y = cmpZ (X 79 0 ((12 * a) + k)) (X 79 0 ((12 * b) + k)) := ⟨_, rfl⟩
            rw [← ez11]
            have gz11 : (z11 < 0 ↔ ((X 79 0 ((12 * a) + k)) : Int) < (X 79 0 ((12 * b) + k))) ∧ (z11 = 0 ↔ ((X 79 0 ((12 * a) + k)) : Int) = (X 79 0 ((12 * b) + k))) ∧ -1 ≤ z11 ∧ z11 ≤ 1 := by rw [ez11]; exact ⟨cmpZ_lt, cmpZ_eq, (cmpZ_r _ _).1, (cmpZ_r _ _).2⟩
            clear ez11
            refine x_if_ne (tgt := 86) hx hb (by omega) dX9_rowsDiffer_79 (by decide) (fun c12 => ?_) (fun c12 => ?_)
            · replace c12 := cz_neT gz11 c12
              clear gz11
              refine lv_iconst (v := jI 0) hx hb dX9_rowsDiffer_86 rfl ?_
              refine lv_istore_n (lv' := [(3, .int (jI 0)), (0, .ref (ad 40 0)), (1, .int (jI a)), (2, .int (jI b)), (4, .int (jI k))]) hx hb dX9_rowsDiffer_87 rfl hl (by decide) rfl (fun ls hl => ?_)
              refine lv_iinc (v := jI (k + 1)) (lv' := [(4, .int (jI (k + 1))), (3, .int (jI 0)), (0, .ref (ad 40 0)), (1, .int (jI a)), (2, .int (jI b))]) hx hb dX9_rowsDiffer_88 hl (k := 4) rfl (jI_add _ _) (by decide) rfl (fun ls hl => ?_)
              refine lv_goto (tgt := 39) hx hb dX9_rowsDiffer_91 (by decide) ?_
              exact ih39 0 (k + 1) _ _ _ (by omega) (by omega) (by omega) (fun q => (by obtain ⟨q1, q2, q3⟩ := hsm1 (by omega); exact ⟨q1, q2, fun j a b => if hj : j = k then (by rw [hj]; omega) else q3 j a (by omega)⟩)) (fun q e => (by have h9 := e.2.2 k (by omega) (by omega); omega)) hw hS (lv_sub hl [2, 3, 4, 1, 0] rfl)
            · replace c12 := cz_neF gz11 c12
              clear gz11
              refine lv_iconst (v := jI 1) hx hb dX9_rowsDiffer_82 rfl ?_
              refine lv_goto (tgt := 87) hx hb dX9_rowsDiffer_83 (by decide) ?_
              refine lv_istore_n (lv' := [(3, .int (jI 1)), (0, .ref (ad 40 0)), (1, .int (jI a)), (2, .int (jI b)), (4, .int (jI k))]) hx hb dX9_rowsDiffer_87 rfl hl (by decide) rfl (fun ls hl => ?_)
              refine lv_iinc (v := jI (k + 1)) (lv' := [(4, .int (jI (k + 1))), (3, .int (jI 1)), (0, .ref (ad 40 0)), (1, .int (jI a)), (2, .int (jI b))]) hx hb dX9_rowsDiffer_88 hl (k := 4) rfl (jI_add _ _) (by decide) rfl (fun ls hl => ?_)
              refine lv_goto (tgt := 39) hx hb dX9_rowsDiffer_91 (by decide) ?_
              exact ih39 1 (k + 1) _ _ _ (by omega) (by omega) (by omega) (fun q => (by obtain ⟨q1, q2, q3⟩ := hsm1 (by omega); exact ⟨q1, q2, fun j a b => if hj : j = k then (by rw [hj]; omega) else q3 j a (by omega)⟩)) (fun q e => (by have h9 := e.2.2 k (by omega) (by omega); omega)) hw hS (lv_sub hl [2, 3, 4, 1, 0] rfl)
    exact lp39 (12 - 0 : Int).toNat.succ 0 0 _ _ _ (by omega) (by omega) (by omega) (fun q => ⟨by omega, by omega, fun j a b => by omega⟩) (fun q e => by obtain ⟨q1, q2, -⟩ := e; omega) hw hS (lv_sub hl [2, 3, 4, 1, 0] rfl)
  · refine lv_aload_n hx hb dX9_rowsDiffer_15 rfl (lv_at hl 0 rfl) ?_
    refine x_geto hx hb hf9 hw (by first | exact Int.le_refl 0 | omega) (by first | exact zlt hc40 | omega) sl_40_37 lk105 dX9_rowsDiffer_16 ?_
    refine lv_iload_n hx hb dX9_rowsDiffer_19 rfl (lv_at hl 1 rfl) ?_
    refine x_iald hx hb hK.1 hw (by first | exact Int.le_refl 0 | omega) (by first | exact zlt hc78 | omega) ar_78 (len_E ar_78 (by first | exact Nat.ne_of_beq_eq_false rfl | decide)) (by omega) (by omega) (by omega) dX9_rowsDiffer_20 ?_
    have f13 : 0 ≤ X 78 0 a ∧ X 78 0 a ≤ 12 := hR 78 0 a
    refine lv_aload_n hx hb dX9_rowsDiffer_21 rfl (lv_at hl 0 rfl) ?_
    refine x_geto hx hb hf9 hw (by first | exact Int.le_refl 0 | omega) (by first | exact zlt hc40 | omega) sl_40_37 lk105 dX9_rowsDiffer_22 ?_
    refine lv_iload_n hx hb dX9_rowsDiffer_25 rfl (lv_at hl 2 rfl) ?_
    refine x_iald hx hb hK.1 hw (by first | exact Int.le_refl 0 | omega) (by first | exact zlt hc78 | omega) ar_78 (len_E ar_78 (by first | exact Nat.ne_of_beq_eq_false rfl | decide)) (by omega) (by omega) (by omega) dX9_rowsDiffer_26 ?_
    have f14 : 0 ≤ X 78 0 b ∧ X 78 0 b ≤ 12 := hR 78 0 b
    refine x_icmp_ne (tgt := 34) hx hb (by omega) (by omega) dX9_rowsDiffer_27 (by decide) (fun c15 => ?_) (fun c15 => ?_)
    · refine lv_iconst (v := jI 0) hx hb dX9_rowsDiffer_34 rfl ?_
      refine lv_istore_n (lv' := [(3, .int (jI 0)), (0, .ref (ad 40 0)), (1, .int (jI a)), (2, .int (jI b))]) hx hb dX9_rowsDiffer_35 rfl hl (by decide) rfl (fun ls hl => ?_)
      refine lv_iconst (v := jI 0) hx hb dX9_rowsDiffer_36 rfl ?_
      refine lv_istore (lv' := [(4, .int (jI 0)), (3, .int (jI 0)), (0, .ref (ad 40 0)), (1, .int (jI a)), (2, .int (jI b))]) hx hb dX9_rowsDiffer_37 hl (by decide) rfl (fun ls hl => ?_)
      have lp39 : ∀ (nn : Nat) (sm : Int) (k : Int) (H : Heap) (locs : List Loc) (ls : Array Slot), (12 - k) < (nn : Int) → (0 ≤ sm ∧ sm ≤ 1) → (0 ≤ k ∧ k ≤ 12) → (sm = 1 → X 77 0 a = X 77 0 b ∧ X 78 0 a = X 78 0 b ∧ ∀ j, 0 ≤ j → j < k → X 79 0 (12 * a + j) = X 79 0 (12 * b + j)) → (sm = 0 → ¬ rdE X a b) → wd D tc base (ad, cnt, X, Y, ln) H → va_S (frA base) s.heap H locs → lv_has ls 5 [(0, .ref (ad 40 0)), (1, .int (jI a)), (2, .int (jI b)), (3, .int (jI sm)), (4, .int (jI k))] → W p l e ({ frames := 0, cells := 0, slots := 0, locals := 0 } : Room) s m av9 below meth c H locs 0 0 Q9 (F0 m 39 ls []) := by
        intro nn
        induction nn with
        | zero => intro sm k H locs ls hm hsm hk hsm1 hsm0 hw hS hl; exfalso; omega
        | succ nn ih39 =>
          intro sm k H locs ls hm hsm hk hsm1 hsm0 hw hS hl
          refine lv_iload_n hx hb dX9_rowsDiffer_39 rfl (lv_at hl 3 rfl) ?_
          refine x_if_eq (tgt := 94) hx hb (by omega) dX9_rowsDiffer_40 (by decide) (fun c16 => ?_) (fun c16 => ?_)
          · refine lv_iload_n hx hb dX9_rowsDiffer_94 rfl (lv_at hl 3 rfl) ?_
            refine x_if_ne (tgt := 102) hx hb (by omega) dX9_rowsDiffer_95 (by decide) (fun c17 => ?_) (fun c17 => ?_)
            · refine lv_iconst (v := jI 0) hx hb dX9_rowsDiffer_102 rfl ?_
              rw [hQ9]
              refine ret_z (mc := 0) (ms := 0) hx hb hr hlocks hw hS (by first | exact Nat.le_of_ble_eq_true rfl | omega) (by first | exact Nat.le_of_ble_eq_true rfl | omega) dX9_rowsDiffer_103 (by omega) ?_
              exact ⟨rfl, by omega, Or.inl ⟨by omega, (by obtain ⟨q1, q2, q3⟩ := hsm1 (by omega); exact ⟨q1, q2, fun j a b => q3 j a (by omega)⟩)⟩⟩
            · refine lv_iconst (v := jI 1) hx hb dX9_rowsDiffer_98 rfl ?_
              refine lv_goto (tgt := 103) hx hb dX9_rowsDiffer_99 (by decide) ?_
              rw [hQ9]
              refine ret_z (mc := 0) (ms := 0) hx hb hr hlocks hw hS (by first | exact Nat.le_of_ble_eq_true rfl | omega) (by first | exact Nat.le_of_ble_eq_true rfl | omega) dX9_rowsDiffer_103 (by omega) ?_
              exact ⟨rfl, by omega, Or.inr ⟨by omega, hsm0 (by omega)⟩⟩
          · refine lv_iload hx hb dX9_rowsDiffer_43 (lv_at hl 4 rfl) ?_
            refine lv_aload_n hx hb dX9_rowsDiffer_45 rfl (lv_at hl 0 rfl) ?_
            refine x_geto hx hb hf9 hw (by first | exact Int.le_refl 0 | omega) (by first | exact zlt hc40 | omega) sl_40_37 lk105 dX9_rowsDiffer_46 ?_
            refine lv_iload_n hx hb dX9_rowsDiffer_49 rfl (lv_at hl 1 rfl) ?_
            refine x_iald hx hb hK.1 hw (by first | exact Int.le_refl 0 | omega) (by first | exact zlt hc78 | omega) ar_78 (len_E ar_78 (by first | exact Nat.ne_of_beq_eq_false rfl | decide)) (by omega) (by omega) (by omega) dX9_rowsDiffer_50 ?_
            have f18 : 0 ≤ X 78 0 a ∧ X 78 0 a ≤ 12 := hR 78 0 a
            refine x_icmp_ge (tgt := 94) hx hb (by omega) (by omega) dX9_rowsDiffer_51 (by decide) (fun c19 => ?_) (fun c19 => ?_)
            · refine lv_iload_n hx hb dX9_rowsDiffer_94 rfl (lv_at hl 3 rfl) ?_
              refine x_if_ne (tgt := 102) hx hb (by omega) dX9_rowsDiffer_95 (by decide) (fun c20 => ?_) (fun c20 => ?_)
              · refine lv_iconst (v := jI 0) hx hb dX9_rowsDiffer_102 rfl ?_
                rw [hQ9]
                refine ret_z (mc := 0) (ms := 0) hx hb hr hlocks hw hS (by first | exact Nat.le_of_ble_eq_true rfl | omega) (by first | exact Nat.le_of_ble_eq_true rfl | omega) dX9_rowsDiffer_103 (by omega) ?_
                exact ⟨rfl, by omega, Or.inl ⟨by omega, (by obtain ⟨q1, q2, q3⟩ := hsm1 (by omega); exact ⟨q1, q2, fun j a b => q3 j a (by omega)⟩)⟩⟩
              · refine lv_iconst (v := jI 1) hx hb dX9_rowsDiffer_98 rfl ?_
                refine lv_goto (tgt := 103) hx hb dX9_rowsDiffer_99 (by decide) ?_
                rw [hQ9]
                refine ret_z (mc := 0) (ms := 0) hx hb hr hlocks hw hS (by first | exact Nat.le_of_ble_eq_true rfl | omega) (by first | exact Nat.le_of_ble_eq_true rfl | omega) dX9_rowsDiffer_103 (by omega) ?_
                exact ⟨rfl, by omega, Or.inr ⟨by omega, hsm0 (by omega)⟩⟩
            · refine lv_aload_n hx hb dX9_rowsDiffer_54 rfl (lv_at hl 0 rfl) ?_
              refine x_geto hx hb hf9 hw (by first | exact Int.le_refl 0 | omega) (by first | exact zlt hc40 | omega) sl_40_38 lk108 dX9_rowsDiffer_55 ?_
              refine lv_bipush (v := jI 12) hx hb dX9_rowsDiffer_58 (by decide) ?_
              refine lv_iload_n hx hb dX9_rowsDiffer_60 rfl (lv_at hl 1 rfl) ?_
              refine x_imul hx hb dX9_rowsDiffer_61 ?_
              refine lv_iload hx hb dX9_rowsDiffer_62 (lv_at hl 4 rfl) ?_
              refine x_iadd hx hb dX9_rowsDiffer_64 ?_
              refine x_lald hx hb hK.1 hw (by first | exact Int.le_refl 0 | omega) (by first | exact zlt hc79 | omega) ar_79 (len_E ar_79 (by first | exact Nat.ne_of_beq_eq_false rfl | decide)) (by omega) (by omega) (by omega) dX9_rowsDiffer_65 ?_
              have f21 : (-9223372036854775808) ≤ X 79 0 ((12 * a) + k) ∧ X 79 0 ((12 * a) + k) ≤ 9223372036854775807 := hR 79 0 ((12 * a) + k)
              refine lv_aload_n hx hb dX9_rowsDiffer_66 rfl (lv_at hl 0 rfl) ?_
              refine x_geto hx hb hf9 hw (by first | exact Int.le_refl 0 | omega) (by first | exact zlt hc40 | omega) sl_40_38 lk108 dX9_rowsDiffer_67 ?_
              refine lv_bipush (v := jI 12) hx hb dX9_rowsDiffer_70 (by decide) ?_
              refine lv_iload_n hx hb dX9_rowsDiffer_72 rfl (lv_at hl 2 rfl) ?_
              refine x_imul hx hb dX9_rowsDiffer_73 ?_
              refine lv_iload hx hb dX9_rowsDiffer_74 (lv_at hl 4 rfl) ?_
              refine x_iadd hx hb dX9_rowsDiffer_76 ?_
              refine x_lald hx hb hK.1 hw (by first | exact Int.le_refl 0 | omega) (by first | exact zlt hc79 | omega) ar_79 (len_E ar_79 (by first | exact Nat.ne_of_beq_eq_false rfl | decide)) (by omega) (by omega) (by omega) dX9_rowsDiffer_77 ?_
              have f22 : (-9223372036854775808) ≤ X 79 0 ((12 * b) + k) ∧ X 79 0 ((12 * b) + k) ≤ 9223372036854775807 := hR 79 0 ((12 * b) + k)
              refine x_lcmp hx hb (by omega) (by omega) dX9_rowsDiffer_78 ?_
              obtain ⟨z23, ez23⟩ : ∃ y : Int, y = cmpZ (X 79 0 ((12 * a) + k)) (X 79 0 ((12 * b) + k)) := ⟨_, rfl⟩
              rw [← ez23]
              have gz23 : (z23 < 0 ↔ ((X 79 0 ((12 * a) + k)) : Int) < (X 79 0 ((12 * b) + k))) ∧ (z23 = 0 ↔ ((X 79 0 ((12 * a) + k)) : Int) = (X 79 0 ((12 * b) + k))) ∧ -1 ≤ z23 ∧ z23 ≤ 1 := by rw [ez23]; exact ⟨cmpZ_lt, cmpZ_eq, (cmpZ_r _ _).1, (cmpZ_r _ _).2⟩
              clear ez23
              refine x_if_ne (tgt := 86) hx hb (by omega) dX9_rowsDiffer_79 (by decide) (fun c24 => ?_) (fun c24 => ?_)
              · replace c24 := cz_neT gz23 c24
                clear gz23
                refine lv_iconst (v := jI 0) hx hb dX9_rowsDiffer_86 rfl ?_
                refine lv_istore_n (lv' := [(3, .int (jI 0)), (0, .ref (ad 40 0)), (1, .int (jI a)), (2, .int (jI b)), (4, .int (jI k))]) hx hb dX9_rowsDiffer_87 rfl hl (by decide) rfl (fun ls hl => ?_)
                refine lv_iinc (v := jI (k + 1)) (lv' := [(4, .int (jI (k + 1))), (3, .int (jI 0)), (0, .ref (ad 40 0)), (1, .int (jI a)), (2, .int (jI b))]) hx hb dX9_rowsDiffer_88 hl (k := 4) rfl (jI_add _ _) (by decide) rfl (fun ls hl => ?_)
                refine lv_goto (tgt := 39) hx hb dX9_rowsDiffer_91 (by decide) ?_
                exact ih39 0 (k + 1) _ _ _ (by omega) (by omega) (by omega) (fun q => (by obtain ⟨q1, q2, q3⟩ := hsm1 (by omega); exact ⟨q1, q2, fun j a b => if hj : j = k then (by rw [hj]; omega) else q3 j a (by omega)⟩)) (fun q e => (by have h9 := e.2.2 k (by omega) (by omega); omega)) hw hS (lv_sub hl [2, 3, 4, 1, 0] rfl)
              · replace c24 := cz_neF gz23 c24
                clear gz23
                refine lv_iconst (v := jI 1) hx hb dX9_rowsDiffer_82 rfl ?_
                refine lv_goto (tgt := 87) hx hb dX9_rowsDiffer_83 (by decide) ?_
                refine lv_istore_n (lv' := [(3, .int (jI 1)), (0, .ref (ad 40 0)), (1, .int (jI a)), (2, .int (jI b)), (4, .int (jI k))]) hx hb dX9_rowsDiffer_87 rfl hl (by decide) rfl (fun ls hl => ?_)
                refine lv_iinc (v := jI (k + 1)) (lv' := [(4, .int (jI (k + 1))), (3, .int (jI 1)), (0, .ref (ad 40 0)), (1, .int (jI a)), (2, .int (jI b))]) hx hb dX9_rowsDiffer_88 hl (k := 4) rfl (jI_add _ _) (by decide) rfl (fun ls hl => ?_)
                refine lv_goto (tgt := 39) hx hb dX9_rowsDiffer_91 (by decide) ?_
                exact ih39 1 (k + 1) _ _ _ (by omega) (by omega) (by omega) (fun q => (by obtain ⟨q1, q2, q3⟩ := hsm1 (by omega); exact ⟨q1, q2, fun j a b => if hj : j = k then (by rw [hj]; omega) else q3 j a (by omega)⟩)) (fun q e => (by have h9 := e.2.2 k (by omega) (by omega); omega)) hw hS (lv_sub hl [2, 3, 4, 1, 0] rfl)
      exact lp39 (12 - 0 : Int).toNat.succ 0 0 _ _ _ (by omega) (by omega) (by omega) (fun q => ⟨by omega, by omega, fun j a b => by omega⟩) (fun q e => by obtain ⟨q1, q2, -⟩ := e; omega) hw hS (lv_sub hl [2, 3, 4, 1, 0] rfl)
    · refine lv_iconst (v := jI 1) hx hb dX9_rowsDiffer_30 rfl ?_
      refine lv_goto (tgt := 35) hx hb dX9_rowsDiffer_31 (by decide) ?_
      refine lv_istore_n (lv' := [(3, .int (jI 1)), (0, .ref (ad 40 0)), (1, .int (jI a)), (2, .int (jI b))]) hx hb dX9_rowsDiffer_35 rfl hl (by decide) rfl (fun ls hl => ?_)
      refine lv_iconst (v := jI 0) hx hb dX9_rowsDiffer_36 rfl ?_
      refine lv_istore (lv' := [(4, .int (jI 0)), (3, .int (jI 1)), (0, .ref (ad 40 0)), (1, .int (jI a)), (2, .int (jI b))]) hx hb dX9_rowsDiffer_37 hl (by decide) rfl (fun ls hl => ?_)
      have lp39 : ∀ (nn : Nat) (sm : Int) (k : Int) (H : Heap) (locs : List Loc) (ls : Array Slot), (12 - k) < (nn : Int) → (0 ≤ sm ∧ sm ≤ 1) → (0 ≤ k ∧ k ≤ 12) → (sm = 1 → X 77 0 a = X 77 0 b ∧ X 78 0 a = X 78 0 b ∧ ∀ j, 0 ≤ j → j < k → X 79 0 (12 * a + j) = X 79 0 (12 * b + j)) → (sm = 0 → ¬ rdE X a b) → wd D tc base (ad, cnt, X, Y, ln) H → va_S (frA base) s.heap H locs → lv_has ls 5 [(0, .ref (ad 40 0)), (1, .int (jI a)), (2, .int (jI b)), (3, .int (jI sm)), (4, .int (jI k))] → W p l e ({ frames := 0, cells := 0, slots := 0, locals := 0 } : Room) s m av9 below meth c H locs 0 0 Q9 (F0 m 39 ls []) := by
        intro nn
        induction nn with
        | zero => intro sm k H locs ls hm hsm hk hsm1 hsm0 hw hS hl; exfalso; omega
        | succ nn ih39 =>
          intro sm k H locs ls hm hsm hk hsm1 hsm0 hw hS hl
          refine lv_iload_n hx hb dX9_rowsDiffer_39 rfl (lv_at hl 3 rfl) ?_
          refine x_if_eq (tgt := 94) hx hb (by omega) dX9_rowsDiffer_40 (by decide) (fun c25 => ?_) (fun c25 => ?_)
          · refine lv_iload_n hx hb dX9_rowsDiffer_94 rfl (lv_at hl 3 rfl) ?_
            refine x_if_ne (tgt := 102) hx hb (by omega) dX9_rowsDiffer_95 (by decide) (fun c26 => ?_) (fun c26 => ?_)
            · refine lv_iconst (v := jI 0) hx hb dX9_rowsDiffer_102 rfl ?_
              rw [hQ9]
              refine ret_z (mc := 0) (ms := 0) hx hb hr hlocks hw hS (by first | exact Nat.le_of_ble_eq_true rfl | omega) (by first | exact Nat.le_of_ble_eq_true rfl | omega) dX9_rowsDiffer_103 (by omega) ?_
              exact ⟨rfl, by omega, Or.inl ⟨by omega, (by obtain ⟨q1, q2, q3⟩ := hsm1 (by omega); exact ⟨q1, q2, fun j a b => q3 j a (by omega)⟩)⟩⟩
            · refine lv_iconst (v := jI 1) hx hb dX9_rowsDiffer_98 rfl ?_
              refine lv_goto (tgt := 103) hx hb dX9_rowsDiffer_99 (by decide) ?_
              rw [hQ9]
              refine ret_z (mc := 0) (ms := 0) hx hb hr hlocks hw hS (by first | exact Nat.le_of_ble_eq_true rfl | omega) (by first | exact Nat.le_of_ble_eq_true rfl | omega) dX9_rowsDiffer_103 (by omega) ?_
              exact ⟨rfl, by omega, Or.inr ⟨by omega, hsm0 (by omega)⟩⟩
          · refine lv_iload hx hb dX9_rowsDiffer_43 (lv_at hl 4 rfl) ?_
            refine lv_aload_n hx hb dX9_rowsDiffer_45 rfl (lv_at hl 0 rfl) ?_
            refine x_geto hx hb hf9 hw (by first | exact Int.le_refl 0 | omega) (by first | exact zlt hc40 | omega) sl_40_37 lk105 dX9_rowsDiffer_46 ?_
            refine lv_iload_n hx hb dX9_rowsDiffer_49 rfl (lv_at hl 1 rfl) ?_
            refine x_iald hx hb hK.1 hw (by first | exact Int.le_refl 0 | omega) (by first | exact zlt hc78 | omega) ar_78 (len_E ar_78 (by first | exact Nat.ne_of_beq_eq_false rfl | decide)) (by omega) (by omega) (by omega) dX9_rowsDiffer_50 ?_
            have f27 : 0 ≤ X 78 0 a ∧ X 78 0 a ≤ 12 := hR 78 0 a
            refine x_icmp_ge (tgt := 94) hx hb (by omega) (by omega) dX9_rowsDiffer_51 (by decide) (fun c28 => ?_) (fun c28 => ?_)
            · refine lv_iload_n hx hb dX9_rowsDiffer_94 rfl (lv_at hl 3 rfl) ?_
              refine x_if_ne (tgt := 102) hx hb (by omega) dX9_rowsDiffer_95 (by decide) (fun c29 => ?_) (fun c29 => ?_)
              · refine lv_iconst (v := jI 0) hx hb dX9_rowsDiffer_102 rfl ?_
                rw [hQ9]
                refine ret_z (mc := 0) (ms := 0) hx hb hr hlocks hw hS (by first | exact Nat.le_of_ble_eq_true rfl | omega) (by first | exact Nat.le_of_ble_eq_true rfl | omega) dX9_rowsDiffer_103 (by omega) ?_
                exact ⟨rfl, by omega, Or.inl ⟨by omega, (by obtain ⟨q1, q2, q3⟩ := hsm1 (by omega); exact ⟨q1, q2, fun j a b => q3 j a (by omega)⟩)⟩⟩
              · refine lv_iconst (v := jI 1) hx hb dX9_rowsDiffer_98 rfl ?_
                refine lv_goto (tgt := 103) hx hb dX9_rowsDiffer_99 (by decide) ?_
                rw [hQ9]
                refine ret_z (mc := 0) (ms := 0) hx hb hr hlocks hw hS (by first | exact Nat.le_of_ble_eq_true rfl | omega) (by first | exact Nat.le_of_ble_eq_true rfl | omega) dX9_rowsDiffer_103 (by omega) ?_
                exact ⟨rfl, by omega, Or.inr ⟨by omega, hsm0 (by omega)⟩⟩
            · refine lv_aload_n hx hb dX9_rowsDiffer_54 rfl (lv_at hl 0 rfl) ?_
              refine x_geto hx hb hf9 hw (by first | exact Int.le_refl 0 | omega) (by first | exact zlt hc40 | omega) sl_40_38 lk108 dX9_rowsDiffer_55 ?_
              refine lv_bipush (v := jI 12) hx hb dX9_rowsDiffer_58 (by decide) ?_
              refine lv_iload_n hx hb dX9_rowsDiffer_60 rfl (lv_at hl 1 rfl) ?_
              refine x_imul hx hb dX9_rowsDiffer_61 ?_
              refine lv_iload hx hb dX9_rowsDiffer_62 (lv_at hl 4 rfl) ?_
              refine x_iadd hx hb dX9_rowsDiffer_64 ?_
              refine x_lald hx hb hK.1 hw (by first | exact Int.le_refl 0 | omega) (by first | exact zlt hc79 | omega) ar_79 (len_E ar_79 (by first | exact Nat.ne_of_beq_eq_false rfl | decide)) (by omega) (by omega) (by omega) dX9_rowsDiffer_65 ?_
              have f30 : (-9223372036854775808) ≤ X 79 0 ((12 * a) + k) ∧ X 79 0 ((12 * a) + k) ≤ 9223372036854775807 := hR 79 0 ((12 * a) + k)
              refine lv_aload_n hx hb dX9_rowsDiffer_66 rfl (lv_at hl 0 rfl) ?_
              refine x_geto hx hb hf9 hw (by first | exact Int.le_refl 0 | omega) (by first | exact zlt hc40 | omega) sl_40_38 lk108 dX9_rowsDiffer_67 ?_
              refine lv_bipush (v := jI 12) hx hb dX9_rowsDiffer_70 (by decide) ?_
              refine lv_iload_n hx hb dX9_rowsDiffer_72 rfl (lv_at hl 2 rfl) ?_
              refine x_imul hx hb dX9_rowsDiffer_73 ?_
              refine lv_iload hx hb dX9_rowsDiffer_74 (lv_at hl 4 rfl) ?_
              refine x_iadd hx hb dX9_rowsDiffer_76 ?_
              refine x_lald hx hb hK.1 hw (by first | exact Int.le_refl 0 | omega) (by first | exact zlt hc79 | omega) ar_79 (len_E ar_79 (by first | exact Nat.ne_of_beq_eq_false rfl | decide)) (by omega) (by omega) (by omega) dX9_rowsDiffer_77 ?_
              have f31 : (-9223372036854775808) ≤ X 79 0 ((12 * b) + k) ∧ X 79 0 ((12 * b) + k) ≤ 9223372036854775807 := hR 79 0 ((12 * b) + k)
              refine x_lcmp hx hb (by omega) (by omega) dX9_rowsDiffer_78 ?_
              obtain ⟨z32, ez32⟩ : ∃ y : Int, y = cmpZ (X 79 0 ((12 * a) + k)) (X 79 0 ((12 * b) + k)) := ⟨_, rfl⟩
              rw [← ez32]
              have gz32 : (z32 < 0 ↔ ((X 79 0 ((12 * a) + k)) : Int) < (X 79 0 ((12 * b) + k))) ∧ (z32 = 0 ↔ ((X 79 0 ((12 * a) + k)) : Int) = (X 79 0 ((12 * b) + k))) ∧ -1 ≤ z32 ∧ z32 ≤ 1 := by rw [ez32]; exact ⟨cmpZ_lt, cmpZ_eq, (cmpZ_r _ _).1, (cmpZ_r _ _).2⟩
              clear ez32
              refine x_if_ne (tgt := 86) hx hb (by omega) dX9_rowsDiffer_79 (by decide) (fun c33 => ?_) (fun c33 => ?_)
              · replace c33 := cz_neT gz32 c33
                clear gz32
                refine lv_iconst (v := jI 0) hx hb dX9_rowsDiffer_86 rfl ?_
                refine lv_istore_n (lv' := [(3, .int (jI 0)), (0, .ref (ad 40 0)), (1, .int (jI a)), (2, .int (jI b)), (4, .int (jI k))]) hx hb dX9_rowsDiffer_87 rfl hl (by decide) rfl (fun ls hl => ?_)
                refine lv_iinc (v := jI (k + 1)) (lv' := [(4, .int (jI (k + 1))), (3, .int (jI 0)), (0, .ref (ad 40 0)), (1, .int (jI a)), (2, .int (jI b))]) hx hb dX9_rowsDiffer_88 hl (k := 4) rfl (jI_add _ _) (by decide) rfl (fun ls hl => ?_)
                refine lv_goto (tgt := 39) hx hb dX9_rowsDiffer_91 (by decide) ?_
                exact ih39 0 (k + 1) _ _ _ (by omega) (by omega) (by omega) (fun q => (by obtain ⟨q1, q2, q3⟩ := hsm1 (by omega); exact ⟨q1, q2, fun j a b => if hj : j = k then (by rw [hj]; omega) else q3 j a (by omega)⟩)) (fun q e => (by have h9 := e.2.2 k (by omega) (by omega); omega)) hw hS (lv_sub hl [2, 3, 4, 1, 0] rfl)
              · replace c33 := cz_neF gz32 c33
                clear gz32
                refine lv_iconst (v := jI 1) hx hb dX9_rowsDiffer_82 rfl ?_
                refine lv_goto (tgt := 87) hx hb dX9_rowsDiffer_83 (by decide) ?_
                refine lv_istore_n (lv' := [(3, .int (jI 1)), (0, .ref (ad 40 0)), (1, .int (jI a)), (2, .int (jI b)), (4, .int (jI k))]) hx hb dX9_rowsDiffer_87 rfl hl (by decide) rfl (fun ls hl => ?_)
                refine lv_iinc (v := jI (k + 1)) (lv' := [(4, .int (jI (k + 1))), (3, .int (jI 1)), (0, .ref (ad 40 0)), (1, .int (jI a)), (2, .int (jI b))]) hx hb dX9_rowsDiffer_88 hl (k := 4) rfl (jI_add _ _) (by decide) rfl (fun ls hl => ?_)
                refine lv_goto (tgt := 39) hx hb dX9_rowsDiffer_91 (by decide) ?_
                exact ih39 1 (k + 1) _ _ _ (by omega) (by omega) (by omega) (fun q => (by obtain ⟨q1, q2, q3⟩ := hsm1 (by omega); exact ⟨q1, q2, fun j a b => if hj : j = k then (by rw [hj]; omega) else q3 j a (by omega)⟩)) (fun q e => (by have h9 := e.2.2 k (by omega) (by omega); omega)) hw hS (lv_sub hl [2, 3, 4, 1, 0] rfl)
      exact lp39 (12 - 0 : Int).toNat.succ 1 0 _ _ _ (by omega) (by omega) (by omega) (fun q => ⟨by omega, by omega, fun j a b => by omega⟩) (fun q e => by obtain ⟨q1, q2, -⟩ := e; omega) hw hS (lv_sub hl [2, 3, 4, 1, 0] rfl)

set_option maxHeartbeats 4000000 in
set_option maxRecDepth 100000 in
theorem c_X9_like (l : Launch) (D : va_G) (tc : Nat → ClassId) (base : Nat) (ad : Nat → Int → Nat) (cnt : Nat → Int) (X : Nat → Int → Int → Int) (Y : Nat → Int → Int → Option Int) (ln : Int → Int) (hR : Rng X) (hFx : Fx cnt) (hMI : MInv X) (x y : Int) (hx : -2147483648 ≤ x ∧ x ≤ 2147483647) (hy : -2147483648 ≤ y ∧ y ≤ 2147483647) : KI l D tc base yX9_like wsX9_like ({ frames := 1, cells := 0, slots := 0, locals := 24 } : Room) [.ref (ad 40 0), .int (jI x), .int (jI y)] (ad, cnt, X, Y, ln) 0 0 (fun z u => ∃ X1 : Nat → Int → Int → Int, u = (ad, cnt, X1, Y, ln) ∧ Rng X1 ∧ Frm [4001, 8600, 8700, 9000, 4051, 8800, 8900] X X1 ∧ MInv X1 ∧ (-2147483648 ≤ z ∧ z ≤ 2147483647)) := by
  refine K_of (cc := cX9_like) (maxL := 12) (ret := (some .int)) (by decide) rfl (Nat.le_of_ble_eq_true rfl) ?_
  intro p e s m below meth c ls hx hb hr hml hown hts hlocks hl hK hw hS
  have hown : s.vm.findClass RX9 = some m.cls := hown
  obtain ⟨av9, hav9⟩ : ∃ a9 : Array Value, a9 = ([.ref (ad 40 0), .int (jI x), .int (jI y)] : List Value).toArray := ⟨_, rfl⟩
  rw [← hav9] at hts ⊢
  obtain ⟨Q9, hQ9⟩ : ∃ q9Q : State → Prop, q9Q = MQ below (QI D tc base (fun z u => ∃ X1 : Nat → Int → Int → Int, u = (ad, cnt, X1, Y, ln) ∧ Rng X1 ∧ Frm [4001, 8600, 8700, 9000, 4051, 8800, 8900] X X1 ∧ MInv X1 ∧ (-2147483648 ≤ z ∧ z ≤ 2147483647))) av9 s 0 0 (frA base) := ⟨_, rfl⟩
  rw [← hQ9]
  have hi9 : ∀ w ∈ wsX90, w ∈ wsX9_like := fun w h => List.mem_cons_of_mem _ (List.mem_append_right _ h)
  have hf9 : fctx s m _ RX9 wsX9_like D tc RX9 TX9 51 9 := ⟨hts, hi9, hown, hK.1, rfl⟩
  have lk13 := hts (.fieldLink RX9 13 (TX9 3).1 (TX9 3).2.1 (TX9 3).2.2.1) (gj_X9_like_0 _ (gp_4 (gp_4 gp_h)))
  have lk45 := hts (.fieldLink RX9 45 (TX9 14).1 (TX9 14).2.1 (TX9 14).2.2.1) (gj_X9_like_0 _ (gp_4 (gp_1 (gp_1 (gp_1 gp_h)))))
  have lk48 := hts (.fieldLink RX9 48 (TX9 15).1 (TX9 15).2.1 (TX9 15).2.2.1) (gj_X9_like_0 _ (gp_4 (gp_4 (gp_1 gp_h))))
  have lk130 := hts (.fieldLink RX9 130 (TX9 45).1 (TX9 45).2.1 (TX9 45).2.2.1) (gj_X9_like_0 _ (gp_1 gp_h))
  have lk133 := hts (.fieldLink RX9 133 (TX9 46).1 (TX9 46).2.1 (TX9 46).2.2.1) (gj_X9_like_0 _ (gp_1 (gp_1 gp_h)))
  have lk136 := hts (.fieldLink RX9 136 (TX9 47).1 (TX9 47).2.1 (TX9 47).2.2.1) (gj_X9_like_0 _ (gp_1 (gp_1 (gp_1 gp_h))))
  have lk139 := hts (.fieldLink RX9 139 (TX9 48).1 (TX9 48).2.1 (TX9 48).2.2.1) (gj_X9_like_0 _ (gp_4 gp_h))
  have lk142 := hts (.fieldLink RX9 142 (TX9 49).1 (TX9 49).2.1 (TX9 49).2.2.1) (gj_X9_like_0 _ (gp_4 (gp_1 (gp_1 gp_h))))
  have lk145 := hts (.fieldLink RX9 145 (TX9 0).1 (TX9 0).2.1 (TX9 0).2.2.1) (gj_X9_like_0 _ (gp_h))
  have lk240 := hts (.fieldLink RX9 240 (TX9 50).1 (TX9 50).2.1 (TX9 50).2.2.1) (gj_X9_like_0 _ (gp_4 (gp_1 gp_h)))
  have hc40 : cnt 40 = 1 := hFx.at 40 1 (by decide)
  have hc44 : cnt 44 = 1 := hFx.at 44 1 (by decide)
  have hc55 : cnt 55 = 1 := hFx.at 55 1 (by decide)
  have hc56 : cnt 56 = 1 := hFx.at 56 1 (by decide)
  have hc86 : cnt 86 = 1 := hFx.at 86 1 (by decide)
  have hc87 : cnt 87 = 1 := hFx.at 87 1 (by decide)
  have hc88 : cnt 88 = 1 := hFx.at 88 1 (by decide)
  have hc89 : cnt 89 = 1 := hFx.at 89 1 (by decide)
  have hc90 : cnt 90 = 1 := hFx.at 90 1 (by decide)
  have hl : lv_has ls 12 [(0, .ref (ad 40 0)), (1, .int (jI x)), (2, .int (jI y))] := hl
  have fstypes : 0 ≤ X 40 0 2 ∧ X 40 0 2 ≤ 8 := hR 40 0 2
  have fsthings : 0 ≤ X 40 0 13 ∧ X 40 0 13 ≤ 30 := hR 40 0 13
  have fsmarks : 0 ≤ X 40 0 20 ∧ X 40 0 20 ≤ 4 := hR 40 0 20
  have fsnotes : 0 ≤ X 40 0 22 ∧ X 40 0 22 ≤ 80 := hR 40 0 22
  refine lv_aload_n hx hb dX9_like_0 rfl (lv_at hl 0 rfl) ?_
  refine lv_iconst (v := jI 0) hx hb dX9_like_1 rfl ?_
  refine x_puti (jz := 0) hx hb hf9 ⟨tyX9_ok, nmX9⟩ hw hS (by first | exact Int.le_refl 0 | omega) (by first | exact zlt hc40 | omega) sl_40_0 rfl lk145 rfl (tyX9_ok 0 (by decide)) rfl rfl dX9_like_2 (fun H locs hw hS => ?_)
  obtain ⟨X1, hX1⟩ : ∃ Xq, Xq = u3 X 40 0 0 0 := ⟨_, rfl⟩
  rw [← hX1] at hw
  have hRX1 : Rng X1 := by rw [hX1]; exact rng_set hR (show (-2147483648) ≤ 0 ∧ 0 ≤ 2147483647 by omega)
  have hVX1 : X1 40 0 0 = 0 := by rw [hX1]; exact u3_s _ _ _ _ _
  have hFX1 : Frm [4001, 8600, 8700, 9000, 4051, 8800, 8900] X X1 := by rw [hX1]; exact Frm.set Frm.rf (show 4001 ∈ [4001, 8600, 8700, 9000, 4051, 8800, 8900] by first | exact nlm_in rfl | decide)
  refine lv_aload_n hx hb dX9_like_5 rfl (lv_at hl 0 rfl) ?_
  refine lv_iload_n hx hb dX9_like_6 rfl (lv_at hl 1 rfl) ?_
  refine gos_i (run_V (As := [.int (jI x)]) (rest := []) hx hb hml hown hts (c_X9_isThing l D tc base ad cnt X1 Y ln hRX1 hFx x (by omega)) (cwV 1 hts gX9_like_X9_isThing rfl rfl rfl (by first | exact hd_X9_isThing | decide +kernel) ⟨Nat.le_of_ble_eq_true rfl, Nat.le_of_ble_eq_true rfl⟩) hK hw (by first | exact Int.le_refl 0 | omega) (by first | exact zlt hc40 | omega) sl_40_0 rfl rfl hl.1 rfl (Nat.le_of_ble_eq_true rfl) dX9_like_7 ⟨Nat.le_of_ble_eq_true rfl, Nat.le_of_ble_eq_true rfl⟩) hS (fun z2 u3 H locs p4 hw hS => ?_)
  obtain ⟨eu3, p4⟩ := p4
  subst eu3
  have e5 : X1 40 0 13 = X 40 0 13 := by rw [hX1, u3_j _ _ _ _ (by decide)]
  simp only [e5] at p4
  have q900009 : Frm [4001] X X1 := by rw [hX1]; exact Frm.set Frm.rf (show 4001 ∈ [4001] by first | exact nlm_in rfl | decide)
  rcases p4 with ⟨ez2, p4⟩ | ⟨ez2, p4⟩
  · subst ez2
    refine x_if_eqF (tgt := 21) hx hb (by omega) (by decide) dX9_like_10 (by decide) ?_
    refine lv_aload_n hx hb dX9_like_13 rfl (lv_at hl 0 rfl) ?_
    refine lv_iload_n hx hb dX9_like_14 rfl (lv_at hl 2 rfl) ?_
    refine gos_i (run_V (As := [.int (jI y)]) (rest := []) hx hb hml hown hts (c_X9_isThing l D tc base ad cnt X1 Y ln hRX1 hFx y (by omega)) (cwV 1 hts gX9_like_X9_isThing rfl rfl rfl (by first | exact hd_X9_isThing | decide +kernel) ⟨Nat.le_of_ble_eq_true rfl, Nat.le_of_ble_eq_true rfl⟩) hK hw (by first | exact Int.le_refl 0 | omega) (by first | exact zlt hc40 | omega) sl_40_0 rfl rfl hl.1 rfl (Nat.le_of_ble_eq_true rfl) dX9_like_15 ⟨Nat.le_of_ble_eq_true rfl, Nat.le_of_ble_eq_true rfl⟩) hS (fun z6 u7 H locs p8 hw hS => ?_)
    obtain ⟨eu7, p8⟩ := p8
    subst eu7
    have e9 : X1 40 0 13 = X 40 0 13 := by rw [hX1, u3_j _ _ _ _ (by decide)]
    simp only [e9] at p8
    rcases p8 with ⟨ez6, p8⟩ | ⟨ez6, p8⟩
    · subst ez6
      refine x_if_neT (tgt := 23) hx hb (by omega) (by decide) dX9_like_18 (by decide) ?_
      refine lv_iconst (v := jI 0) hx hb dX9_like_23 rfl ?_
      refine lv_istore_n (lv' := [(3, .int (jI 0)), (0, .ref (ad 40 0)), (1, .int (jI x)), (2, .int (jI y))]) hx hb dX9_like_24 rfl hl (by decide) rfl (fun ls hl => ?_)
      have lp25 : ∀ (nn : Nat) (k : Int) (Xa : Nat → Int → Int → Int) (H : Heap) (locs : List Loc) (ls : Array Slot), (30 - k) < (nn : Int) → (Rng Xa) → (Frm [8600, 8700] X1 Xa) → (0 ≤ k ∧ k ≤ 30) → wd D tc base (ad, cnt, Xa, Y, ln) H → va_S (frA base) s.heap H locs → lv_has ls 12 [(0, .ref (ad 40 0)), (1, .int (jI x)), (2, .int (jI y)), (3, .int (jI k))] → W p l e ({ frames := 1, cells := 0, slots := 0, locals := 24 } : Room) s m av9 below meth c H locs 0 0 Q9 (F0 m 25 ls []) := by
        intro nn
        induction nn with
        | zero => intro k Xa H locs ls hm hRXa hGXa hk hw hS hl; exfalso; omega
        | succ nn ih25 =>
          intro k Xa H locs ls hm hRXa hGXa hk hw hS hl
          have hFXa : Frm [4001, 8600, 8700, 9000, 4051, 8800, 8900] X Xa := Frm.tr hFX1 (Frm.mono hGXa (by first | exact nls_of rfl | decide))
          refine lv_iload_n hx hb dX9_like_25 rfl (lv_at hl 3 rfl) ?_
          refine lv_bipush (v := jI 30) hx hb dX9_like_26 (by decide) ?_
          refine x_icmp_ge (tgt := 51) hx hb (by omega) (by omega) dX9_like_28 (by decide) (fun c10 => ?_) (fun c10 => ?_)
          · refine lv_iconst (v := jI 0) hx hb dX9_like_51 rfl ?_
            refine lv_istore_n (lv' := [(3, .int (jI 0)), (0, .ref (ad 40 0)), (1, .int (jI x)), (2, .int (jI y))]) hx hb dX9_like_52 rfl hl (by decide) rfl (fun ls hl => ?_)
            have lp53 : ∀ (nn : Nat) (k : Int) (Xb : Nat → Int → Int → Int) (H : Heap) (locs : List Loc) (ls : Array Slot), (400 - k) < (nn : Int) → (Rng Xb) → (Frm [8800, 8900] Xa Xb) → (0 ≤ k ∧ k ≤ 400) → wd D tc base (ad, cnt, Xb, Y, ln) H → va_S (frA base) s.heap H locs → lv_has ls 12 [(0, .ref (ad 40 0)), (1, .int (jI x)), (2, .int (jI y)), (3, .int (jI k))] → W p l e ({ frames := 1, cells := 0, slots := 0, locals := 24 } : Room) s m av9 below meth c H locs 0 0 Q9 (F0 m 53 ls []) := by
              intro nn
              induction nn with
              | zero => intro k Xb H locs ls hm hRXb hGXb hk hw hS hl; exfalso; omega
              | succ nn ih53 =>
                intro k Xb H locs ls hm hRXb hGXb hk hw hS hl
                have hFXb : Frm [4001, 8600, 8700, 9000, 4051, 8800, 8900] X Xb := Frm.tr hFXa (Frm.mono hGXb (by first | exact nls_of rfl | decide))
                refine lv_iload_n hx hb dX9_like_53 rfl (lv_at hl 3 rfl) ?_
                refine lv_sipush (v := jI 400) hx hb dX9_like_54 (by decide) ?_
                refine x_icmp_ge (tgt := 80) hx hb (by omega) (by omega) dX9_like_57 (by decide) (fun c11 => ?_) (fun c11 => ?_)
                · refine lv_aload_n hx hb dX9_like_80 rfl (lv_at hl 0 rfl) ?_
                  refine lv_iconst (v := jI 0) hx hb dX9_like_81 rfl ?_
                  refine x_puti (jz := 50) hx hb hf9 ⟨tyX9_ok, nmX9⟩ hw hS (by first | exact Int.le_refl 0 | omega) (by first | exact zlt hc40 | omega) sl_40_50 rfl lk240 rfl (tyX9_ok 50 (by decide)) rfl rfl dX9_like_82 (fun H locs hw hS => ?_)
                  obtain ⟨X12, hX12⟩ : ∃ Xq, Xq = u3 Xb 40 0 50 0 := ⟨_, rfl⟩
                  rw [← hX12] at hw
                  have hRX12 : Rng X12 := by rw [hX12]; exact rng_set hRXb (show 0 ≤ 0 ∧ 0 ≤ 30 by omega)
                  have hVX12 : X12 40 0 50 = 0 := by rw [hX12]; exact u3_s _ _ _ _ _
                  have hFX12 : Frm [4001, 8600, 8700, 9000, 4051, 8800, 8900] X X12 := by rw [hX12]; exact Frm.set hFXb (show 4051 ∈ [4001, 8600, 8700, 9000, 4051, 8800, 8900] by first | exact nlm_in rfl | decide)
                  have hQn : qOK X12 := qOK.nil (by omega)
                  refine lv_aload_n hx hb dX9_like_85 rfl (lv_at hl 0 rfl) ?_
                  refine lv_iload_n hx hb dX9_like_86 rfl (lv_at hl 1 rfl) ?_
                  refine lv_iload_n hx hb dX9_like_87 rfl (lv_at hl 2 rfl) ?_
                  have q14 : Frm [4001, 4051, 8600, 8700, 8800, 8900] X X1 := by rw [hX1]; exact Frm.set Frm.rf (show 4001 ∈ [4001, 4051, 8600, 8700, 8800, 8900] by first | exact nlm_in rfl | decide)
                  have q15 : Frm [4001, 4051, 8600, 8700, 8800, 8900] X Xa := Frm.tr q14 (Frm.mono hGXa (by first | exact nls_of rfl | decide))
                  have q16 : Frm [4001, 4051, 8600, 8700, 8800, 8900] X Xb := Frm.tr q15 (Frm.mono hGXb (by first | exact nls_of rfl | decide))
                  have q17 : Frm [4001, 4051, 8600, 8700, 8800, 8900] X X12 := by rw [hX12]; exact Frm.set q16 (show 4051 ∈ [4001, 4051, 8600, 8700, 8800, 8900] by first | exact nlm_in rfl | decide)
                  have hMq13 : MInv X12 := minv_frm hMI q17 (by decide)
                  have e18 : X12 40 0 13 = X 40 0 13 := by rw [hX12, u3_j _ _ _ _ (by decide), hGXb 40 0 13 (show 4014 ∉ [8800, 8900] by first | exact nlm_ni rfl | decide), hGXa 40 0 13 (show 4014 ∉ [8600, 8700] by first | exact nlm_ni rfl | decide), hX1, u3_j _ _ _ _ (by decide)]
                  refine gos_i (run_V (As := [.int (jI x), .int (jI y)]) (rest := []) hx hb hml hown hts (c_X9_meets l D tc base ad cnt X12 Y ln hRX12 hFx hMq13 x y (by omega) (by omega) (by simp only [e18]; omega) (by simp only [e18]; omega) hQn) (cwV 2 hts gX9_like_X9_meets rfl rfl rfl (by first | exact hd_X9_meets | decide +kernel) ⟨Nat.le_of_ble_eq_true rfl, Nat.le_of_ble_eq_true rfl⟩) hK hw (by first | exact Int.le_refl 0 | omega) (by first | exact zlt hc40 | omega) sl_40_0 rfl rfl hl.1 rfl (Nat.le_of_ble_eq_true rfl) dX9_like_88 ⟨Nat.le_of_ble_eq_true rfl, Nat.le_of_ble_eq_true rfl⟩) hS (fun z19 u20 H locs p21 hw hS => ?_)
                  obtain ⟨X22, eu20, hRX22, hG23, hMIX22, hQX22, p21⟩ := p21
                  subst eu20
                  have hFX22 : Frm [4001, 8600, 8700, 9000, 4051, 8800, 8900] X X22 := Frm.tr hFX12 (Frm.mono hG23 (by first | exact nls_of rfl | decide))
                  refine lv_pop hx hb dX9_like_91 rfl ?_
                  refine lv_iconst (v := jI 0) hx hb dX9_like_92 rfl ?_
                  refine lv_istore_n (lv' := [(3, .int (jI 0)), (0, .ref (ad 40 0)), (1, .int (jI x)), (2, .int (jI y))]) hx hb dX9_like_93 rfl hl (by decide) rfl (fun ls hl => ?_)
                  have lp94 : ∀ (nn : Nat) (q : Int) (Xc : Nat → Int → Int → Int) (H : Heap) (locs : List Loc) (ls : Array Slot), (30 - q) < (nn : Int) → (Rng Xc) → (Frm [8600, 8700, 9000, 4051, 8800, 8900] X22 Xc) → (0 ≤ q ∧ q ≤ 30) → (MInv Xc) → (qOK Xc) → wd D tc base (ad, cnt, Xc, Y, ln) H → va_S (frA base) s.heap H locs → lv_has ls 12 [(0, .ref (ad 40 0)), (1, .int (jI x)), (2, .int (jI y)), (3, .int (jI q))] → W p l e ({ frames := 1, cells := 0, slots := 0, locals := 24 } : Room) s m av9 below meth c H locs 0 0 Q9 (F0 m 94 ls []) := by
                    intro nn
                    induction nn with
                    | zero => intro q Xc H locs ls hm hRXc hGXc hq0 hMIXc hQc hw hS hl; exfalso; omega
                    | succ nn ih94 =>
                      intro q Xc H locs ls hm hRXc hGXc hq0 hMIXc hQc hw hS hl
                      have hFXc : Frm [4001, 8600, 8700, 9000, 4051, 8800, 8900] X Xc := Frm.tr hFX22 (Frm.mono hGXc (by first | exact nls_of rfl | decide))
                      skip
                      refine lv_iload_n hx hb dX9_like_94 rfl (lv_at hl 3 rfl) ?_
                      refine lv_aload_n hx hb dX9_like_95 rfl (lv_at hl 0 rfl) ?_
                      refine x_geti (jz := 50) hx hb hf9 hw (by first | exact Int.le_refl 0 | omega) (by first | exact zlt hc40 | omega) sl_40_50 rfl lk240 dX9_like_96 ?_
                      have f24 : 0 ≤ Xc 40 0 50 ∧ Xc 40 0 50 ≤ 30 := hRXc 40 0 50
                      refine x_icmp_ge (tgt := 286) hx hb (by omega) (by omega) dX9_like_99 (by decide) (fun c25 => ?_) (fun c25 => ?_)
                      · refine lv_iconst (v := jI 1) hx hb dX9_like_286 rfl ?_
                        rw [hQ9]
                        refine ret_i (mc := 0) (ms := 0) hx hb hr hlocks hw hS (by first | exact Nat.le_of_ble_eq_true rfl | omega) (by first | exact Nat.le_of_ble_eq_true rfl | omega) dX9_like_287 ?_
                        exact ⟨Xc, rfl, hRXc, hFXc, hMIXc, by omega⟩
                      · refine lv_aload_n hx hb dX9_like_102 rfl (lv_at hl 0 rfl) ?_
                        refine x_geto hx hb hf9 hw (by first | exact Int.le_refl 0 | omega) (by first | exact zlt hc40 | omega) sl_40_49 lk142 dX9_like_103 ?_
                        refine lv_iload_n hx hb dX9_like_106 rfl (lv_at hl 3 rfl) ?_
                        refine x_iald hx hb hK.1 hw (by first | exact Int.le_refl 0 | omega) (by first | exact zlt hc90 | omega) ar_90 (len_E ar_90 (by first | exact Nat.ne_of_beq_eq_false rfl | decide)) (by omega) (by omega) (by omega) dX9_like_107 ?_
                        have f26 : 0 ≤ Xc 90 0 q ∧ Xc 90 0 q ≤ 29 := hRXc 90 0 q
                        have e27 : Xc 40 0 13 = X 40 0 13 := by rw [hGXc 40 0 13 (show 4014 ∉ [8600, 8700, 9000, 4051, 8800, 8900] by first | exact nlm_ni rfl | decide), hG23 40 0 13 (show 4014 ∉ [8600, 8700, 9000, 4051] by first | exact nlm_ni rfl | decide), hX12, u3_j _ _ _ _ (by decide), hGXb 40 0 13 (show 4014 ∉ [8800, 8900] by first | exact nlm_ni rfl | decide), hGXa 40 0 13 (show 4014 ∉ [8600, 8700] by first | exact nlm_ni rfl | decide), hX1, u3_j _ _ _ _ (by decide)]
                        have hqa : 0 ≤ Xc 86 0 (Xc 90 0 q) ∧ Xc 86 0 (Xc 90 0 q) < X 40 0 13 ∧ Xc 90 0 q < X 40 0 13 := by have h9 := hQc.1 q (by omega) (by omega); simp only [e27] at h9; exact h9
                        refine lv_istore (lv' := [(4, .int (jI (Xc 90 0 q))), (0, .ref (ad 40 0)), (1, .int (jI x)), (2, .int (jI y)), (3, .int (jI q))]) hx hb dX9_like_108 hl (by decide) rfl (fun ls hl => ?_)
                        refine lv_aload_n hx hb dX9_like_110 rfl (lv_at hl 1 rfl) ?_
                        refine x_geto hx hb hf9 hw (by first | exact Int.le_refl 0 | omega) (by first | exact zlt hc40 | omega) sl_40_45 lk130 dX9_like_111 ?_
                        refine lv_iload hx hb dX9_like_114 (lv_at hl 0 rfl) ?_
                        refine x_iald hx hb hK.1 hw (by first | exact Int.le_refl 0 | omega) (by first | exact zlt hc86 | omega) ar_86 (len_E ar_86 (by first | exact Nat.ne_of_beq_eq_false rfl | decide)) (by omega) (by omega) (by omega) dX9_like_116 ?_
                        have f28 : (-1) ≤ Xc 86 0 (Xc 90 0 q) ∧ Xc 86 0 (Xc 90 0 q) ≤ 29 := hRXc 86 0 (Xc 90 0 q)
                        refine lv_istore (lv' := [(5, .int (jI (Xc 86 0 (Xc 90 0 q)))), (4, .int (jI (Xc 90 0 q))), (0, .ref (ad 40 0)), (1, .int (jI x)), (2, .int (jI y)), (3, .int (jI q))]) hx hb dX9_like_117 hl (by decide) rfl (fun ls hl => ?_)
                        refine lv_aload_n hx hb dX9_like_119 rfl (lv_at hl 2 rfl) ?_
                        refine x_geto hx hb hf9 hw (by first | exact Int.le_refl 0 | omega) (by first | exact zlt hc40 | omega) sl_40_14 lk45 dX9_like_120 ?_
                        refine lv_iload hx hb dX9_like_123 (lv_at hl 1 rfl) ?_
                        refine x_iald hx hb hK.1 hw (by first | exact Int.le_refl 0 | omega) (by first | exact zlt hc55 | omega) ar_55 (len_E ar_55 (by first | exact Nat.ne_of_beq_eq_false rfl | decide)) (by omega) (by omega) (by omega) dX9_like_125 ?_
                        have e29 : ∀ p9 q9 : Int, Xc 55 p9 q9 = X 55 p9 q9 := fun p9 q9 => by rw [hGXc 55 p9 q9 (show 5500 ∉ [8600, 8700, 9000, 4051, 8800, 8900] by first | exact nlm_ni rfl | decide), hG23 55 p9 q9 (show 5500 ∉ [8600, 8700, 9000, 4051] by first | exact nlm_ni rfl | decide), hX12, u3_k _ _ _ _ (by first | exact Nat.ne_of_beq_eq_false rfl | decide), hGXb 55 p9 q9 (show 5500 ∉ [8800, 8900] by first | exact nlm_ni rfl | decide), hGXa 55 p9 q9 (show 5500 ∉ [8600, 8700] by first | exact nlm_ni rfl | decide), hX1, u3_k _ _ _ _ (by first | exact Nat.ne_of_beq_eq_false rfl | decide)]
                        rw [e29 0 (Xc 90 0 q)]
                        have f30 : 0 ≤ X 55 0 (Xc 90 0 q) ∧ X 55 0 (Xc 90 0 q) ≤ 7 := hR 55 0 (Xc 90 0 q)
                        refine lv_aload_n hx hb dX9_like_126 rfl (lv_at hl 2 rfl) ?_
                        refine x_geto hx hb hf9 hw (by first | exact Int.le_refl 0 | omega) (by first | exact zlt hc40 | omega) sl_40_14 lk45 dX9_like_127 ?_
                        refine lv_iload hx hb dX9_like_130 (lv_at hl 0 rfl) ?_
                        refine x_iald hx hb hK.1 hw (by first | exact Int.le_refl 0 | omega) (by first | exact zlt hc55 | omega) ar_55 (len_E ar_55 (by first | exact Nat.ne_of_beq_eq_false rfl | decide)) (by omega) (by omega) (by omega) dX9_like_132 ?_
                        have e31 : ∀ p9 q9 : Int, Xc 55 p9 q9 = X 55 p9 q9 := fun p9 q9 => by rw [hGXc 55 p9 q9 (show 5500 ∉ [8600, 8700, 9000, 4051, 8800, 8900] by first | exact nlm_ni rfl | decide), hG23 55 p9 q9 (show 5500 ∉ [8600, 8700, 9000, 4051] by first | exact nlm_ni rfl | decide), hX12, u3_k _ _ _ _ (by first | exact Nat.ne_of_beq_eq_false rfl | decide), hGXb 55 p9 q9 (show 5500 ∉ [8800, 8900] by first | exact nlm_ni rfl | decide), hGXa 55 p9 q9 (show 5500 ∉ [8600, 8700] by first | exact nlm_ni rfl | decide), hX1, u3_k _ _ _ _ (by first | exact Nat.ne_of_beq_eq_false rfl | decide)]
                        rw [e31 0 (Xc 86 0 (Xc 90 0 q))]
                        have f32 : 0 ≤ X 55 0 (Xc 86 0 (Xc 90 0 q)) ∧ X 55 0 (Xc 86 0 (Xc 90 0 q)) ≤ 7 := hR 55 0 (Xc 86 0 (Xc 90 0 q))
                        refine x_icmp_eq (tgt := 138) hx hb (by omega) (by omega) dX9_like_133 (by decide) (fun c33 => ?_) (fun c33 => ?_)
                        · have cEQ : X 55 0 (Xc 90 0 q) = X 55 0 (Xc 86 0 (Xc 90 0 q)) := by omega
                          refine lv_iconst (v := jI 0) hx hb dX9_like_138 rfl ?_
                          refine lv_istore (lv' := [(6, .int (jI 0)), (5, .int (jI (Xc 86 0 (Xc 90 0 q)))), (4, .int (jI (Xc 90 0 q))), (0, .ref (ad 40 0)), (1, .int (jI x)), (2, .int (jI y)), (3, .int (jI q))]) hx hb dX9_like_139 hl (by decide) rfl (fun ls hl => ?_)
                          have lp141 : ∀ (nn : Nat) (k : Int) (Xd : Nat → Int → Int → Int) (H : Heap) (locs : List Loc) (ls : Array Slot), (5 - k) < (nn : Int) → (Rng Xd) → (Frm [8600, 8700, 9000, 4051, 8800, 8900] Xc Xd) → (0 ≤ k ∧ k ≤ 5) → (MInv Xd) → (qOK Xd) → wd D tc base (ad, cnt, Xd, Y, ln) H → va_S (frA base) s.heap H locs → lv_has ls 12 [(0, .ref (ad 40 0)), (1, .int (jI x)), (2, .int (jI y)), (3, .int (jI q)), (4, .int (jI (Xc 90 0 q))), (5, .int (jI (Xc 86 0 (Xc 90 0 q)))), (6, .int (jI k))] → W p l e ({ frames := 1, cells := 0, slots := 0, locals := 24 } : Room) s m av9 below meth c H locs 0 0 Q9 (F0 m 141 ls []) := by
                            intro nn
                            induction nn with
                            | zero => intro k Xd H locs ls hm hRXd hGXd hk hMIXd hQd hw hS hl; exfalso; omega
                            | succ nn ih141 =>
                              intro k Xd H locs ls hm hRXd hGXd hk hMIXd hQd hw hS hl
                              have hFXd : Frm [4001, 8600, 8700, 9000, 4051, 8800, 8900] X Xd := Frm.tr hFXc (Frm.mono hGXd (by first | exact nls_of rfl | decide))
                              skip
                              refine lv_iload hx hb dX9_like_141 (lv_at hl 6 rfl) ?_
                              refine lv_aload_n hx hb dX9_like_143 rfl (lv_at hl 0 rfl) ?_
                              refine x_geto hx hb hf9 hw (by first | exact Int.le_refl 0 | omega) (by first | exact zlt hc40 | omega) sl_40_3 lk13 dX9_like_144 ?_
                              refine lv_aload_n hx hb dX9_like_147 rfl (lv_at hl 0 rfl) ?_
                              refine x_geto hx hb hf9 hw (by first | exact Int.le_refl 0 | omega) (by first | exact zlt hc40 | omega) sl_40_14 lk45 dX9_like_148 ?_
                              refine lv_iload hx hb dX9_like_151 (lv_at hl 4 rfl) ?_
                              refine x_iald hx hb hK.1 hw (by first | exact Int.le_refl 0 | omega) (by first | exact zlt hc55 | omega) ar_55 (len_E ar_55 (by first | exact Nat.ne_of_beq_eq_false rfl | decide)) (by omega) (by omega) (by omega) dX9_like_153 ?_
                              have e34 : ∀ p9 q9 : Int, Xd 55 p9 q9 = X 55 p9 q9 := fun p9 q9 => by rw [hGXd 55 p9 q9 (show 5500 ∉ [8600, 8700, 9000, 4051, 8800, 8900] by first | exact nlm_ni rfl | decide), hGXc 55 p9 q9 (show 5500 ∉ [8600, 8700, 9000, 4051, 8800, 8900] by first | exact nlm_ni rfl | decide), hG23 55 p9 q9 (show 5500 ∉ [8600, 8700, 9000, 4051] by first | exact nlm_ni rfl | decide), hX12, u3_k _ _ _ _ (by first | exact Nat.ne_of_beq_eq_false rfl | decide), hGXb 55 p9 q9 (show 5500 ∉ [8800, 8900] by first | exact nlm_ni rfl | decide), hGXa 55 p9 q9 (show 5500 ∉ [8600, 8700] by first | exact nlm_ni rfl | decide), hX1, u3_k _ _ _ _ (by first | exact Nat.ne_of_beq_eq_false rfl | decide)]
                              rw [e34 0 (Xc 90 0 q)]
                              have f35 : 0 ≤ X 55 0 (Xc 90 0 q) ∧ X 55 0 (Xc 90 0 q) ≤ 7 := hR 55 0 (Xc 90 0 q)
                              refine x_iald hx hb hK.1 hw (by first | exact Int.le_refl 0 | omega) (by first | exact zlt hc44 | omega) ar_44 (len_E ar_44 (by first | exact Nat.ne_of_beq_eq_false rfl | decide)) (by omega) (by omega) (by omega) dX9_like_154 ?_
                              have e36 : ∀ p9 q9 : Int, Xd 44 p9 q9 = X 44 p9 q9 := fun p9 q9 => by rw [hGXd 44 p9 q9 (show 4400 ∉ [8600, 8700, 9000, 4051, 8800, 8900] by first | exact nlm_ni rfl | decide), hGXc 44 p9 q9 (show 4400 ∉ [8600, 8700, 9000, 4051, 8800, 8900] by first | exact nlm_ni rfl | decide), hG23 44 p9 q9 (show 4400 ∉ [8600, 8700, 9000, 4051] by first | exact nlm_ni rfl | decide), hX12, u3_k _ _ _ _ (by first | exact Nat.ne_of_beq_eq_false rfl | decide), hGXb 44 p9 q9 (show 4400 ∉ [8800, 8900] by first | exact nlm_ni rfl | decide), hGXa 44 p9 q9 (show 4400 ∉ [8600, 8700] by first | exact nlm_ni rfl | decide), hX1, u3_k _ _ _ _ (by first | exact Nat.ne_of_beq_eq_false rfl | decide)]
                              rw [e36 0 (X 55 0 (Xc 90 0 q))]
                              have f37 : 0 ≤ X 44 0 (X 55 0 (Xc 90 0 q)) ∧ X 44 0 (X 55 0 (Xc 90 0 q)) ≤ 5 := hR 44 0 (X 55 0 (Xc 90 0 q))
                              refine x_icmp_ge (tgt := 280) hx hb (by omega) (by omega) dX9_like_155 (by decide) (fun c38 => ?_) (fun c38 => ?_)
                              · refine lv_iinc (v := jI (q + 1)) (lv' := [(3, .int (jI (q + 1))), (0, .ref (ad 40 0)), (1, .int (jI x)), (2, .int (jI y)), (4, .int (jI (Xc 90 0 q))), (5, .int (jI (Xc 86 0 (Xc 90 0 q)))), (6, .int (jI k))]) hx hb dX9_like_280 hl (k := 3) rfl (jI_add _ _) (by decide) rfl (fun ls hl => ?_)
                                refine lv_goto (tgt := 94) hx hb dX9_like_283 (by decide) ?_
                                have q39 : Frm [8600, 8700, 9000, 4051, 8800, 8900] X22 Xc := Frm.tr Frm.rf (Frm.mono hGXc (by first | exact nls_of rfl | decide))
                                have q40 : Frm [8600, 8700, 9000, 4051, 8800, 8900] X22 Xd := Frm.tr q39 (Frm.mono hGXd (by first | exact nls_of rfl | decide))
                                exact ih94 (q + 1) Xd _ _ _ (by omega) hRXd q40 (by omega) (hMIXd) (hQd) hw hS (lv_sub hl [1, 2, 3, 0] rfl)
                              · refine lv_aload_n hx hb dX9_like_158 rfl (lv_at hl 0 rfl) ?_
                                refine x_geto hx hb hf9 hw (by first | exact Int.le_refl 0 | omega) (by first | exact zlt hc40 | omega) sl_40_15 lk48 dX9_like_159 ?_
                                refine lv_iconst (v := jI 5) hx hb dX9_like_162 rfl ?_
                                refine lv_iload hx hb dX9_like_163 (lv_at hl 4 rfl) ?_
                                refine x_imul hx hb dX9_like_165 ?_
                                refine lv_iload hx hb dX9_like_166 (lv_at hl 6 rfl) ?_
                                refine x_iadd hx hb dX9_like_168 ?_
                                obtain ⟨hy1, hy2, hy3⟩ := hMI.1 (Xc 90 0 q) k (by omega) (by omega) (by omega) (by omega)
                                refine x_lald hx hb hK.1 hw (by first | exact Int.le_refl 0 | omega) (by first | exact zlt hc56 | omega) ar_56 (len_E ar_56 (by first | exact Nat.ne_of_beq_eq_false rfl | decide)) (by omega) (by omega) (by omega) dX9_like_169 ?_
                                have e41 : ∀ p9 q9 : Int, Xd 56 p9 q9 = X 56 p9 q9 := fun p9 q9 => by rw [hGXd 56 p9 q9 (show 5600 ∉ [8600, 8700, 9000, 4051, 8800, 8900] by first | exact nlm_ni rfl | decide), hGXc 56 p9 q9 (show 5600 ∉ [8600, 8700, 9000, 4051, 8800, 8900] by first | exact nlm_ni rfl | decide), hG23 56 p9 q9 (show 5600 ∉ [8600, 8700, 9000, 4051] by first | exact nlm_ni rfl | decide), hX12, u3_k _ _ _ _ (by first | exact Nat.ne_of_beq_eq_false rfl | decide), hGXb 56 p9 q9 (show 5600 ∉ [8800, 8900] by first | exact nlm_ni rfl | decide), hGXa 56 p9 q9 (show 5600 ∉ [8600, 8700] by first | exact nlm_ni rfl | decide), hX1, u3_k _ _ _ _ (by first | exact Nat.ne_of_beq_eq_false rfl | decide)]
                                rw [e41 0 ((5 * (Xc 90 0 q)) + k)]
                                have f42 : (-9223372036854775808) ≤ X 56 0 ((5 * (Xc 90 0 q)) + k) ∧ X 56 0 ((5 * (Xc 90 0 q)) + k) ≤ 9223372036854775807 := hR 56 0 ((5 * (Xc 90 0 q)) + k)
                                refine lv_lstore (lv' := [(7, .long (jL (X 56 0 ((5 * (Xc 90 0 q)) + k)))), (0, .ref (ad 40 0)), (1, .int (jI x)), (2, .int (jI y)), (3, .int (jI q)), (4, .int (jI (Xc 90 0 q))), (5, .int (jI (Xc 86 0 (Xc 90 0 q)))), (6, .int (jI k))]) hx hb dX9_like_170 hl (by decide) rfl (fun ls hl => ?_)
                                refine lv_aload_n hx hb dX9_like_172 rfl (lv_at hl 1 rfl) ?_
                                refine x_geto hx hb hf9 hw (by first | exact Int.le_refl 0 | omega) (by first | exact zlt hc40 | omega) sl_40_15 lk48 dX9_like_173 ?_
                                refine lv_iconst (v := jI 5) hx hb dX9_like_176 rfl ?_
                                refine lv_iload hx hb dX9_like_177 (lv_at hl 6 rfl) ?_
                                refine x_imul hx hb dX9_like_179 ?_
                                refine lv_iload hx hb dX9_like_180 (lv_at hl 7 rfl) ?_
                                refine x_iadd hx hb dX9_like_182 ?_
                                have hz0 := hMI.1 (Xc 86 0 (Xc 90 0 q)) k (by omega) (by omega) (by omega) (by rw [← cEQ]; omega)
                                rw [← cEQ] at hz0
                                obtain ⟨hz1, hz2, hz3⟩ := hz0
                                refine x_lald hx hb hK.1 hw (by first | exact Int.le_refl 0 | omega) (by first | exact zlt hc56 | omega) ar_56 (len_E ar_56 (by first | exact Nat.ne_of_beq_eq_false rfl | decide)) (by omega) (by omega) (by omega) dX9_like_183 ?_
                                have e43 : ∀ p9 q9 : Int, Xd 56 p9 q9 = X 56 p9 q9 := fun p9 q9 => by rw [hGXd 56 p9 q9 (show 5600 ∉ [8600, 8700, 9000, 4051, 8800, 8900] by first | exact nlm_ni rfl | decide), hGXc 56 p9 q9 (show 5600 ∉ [8600, 8700, 9000, 4051, 8800, 8900] by first | exact nlm_ni rfl | decide), hG23 56 p9 q9 (show 5600 ∉ [8600, 8700, 9000, 4051] by first | exact nlm_ni rfl | decide), hX12, u3_k _ _ _ _ (by first | exact Nat.ne_of_beq_eq_false rfl | decide), hGXb 56 p9 q9 (show 5600 ∉ [8800, 8900] by first | exact nlm_ni rfl | decide), hGXa 56 p9 q9 (show 5600 ∉ [8600, 8700] by first | exact nlm_ni rfl | decide), hX1, u3_k _ _ _ _ (by first | exact Nat.ne_of_beq_eq_false rfl | decide)]
                                rw [e43 0 ((5 * (Xc 86 0 (Xc 90 0 q))) + k)]
                                have f44 : (-9223372036854775808) ≤ X 56 0 ((5 * (Xc 86 0 (Xc 90 0 q))) + k) ∧ X 56 0 ((5 * (Xc 86 0 (Xc 90 0 q))) + k) ≤ 9223372036854775807 := hR 56 0 ((5 * (Xc 86 0 (Xc 90 0 q))) + k)
                                refine lv_lstore (lv' := [(9, .long (jL (X 56 0 ((5 * (Xc 86 0 (Xc 90 0 q))) + k)))), (7, .long (jL (X 56 0 ((5 * (Xc 90 0 q)) + k)))), (0, .ref (ad 40 0)), (1, .int (jI x)), (2, .int (jI y)), (3, .int (jI q)), (4, .int (jI (Xc 90 0 q))), (5, .int (jI (Xc 86 0 (Xc 90 0 q)))), (6, .int (jI k))]) hx hb dX9_like_184 hl (by decide) rfl (fun ls hl => ?_)
                                refine lv_aload_n hx hb dX9_like_186 rfl (lv_at hl 2 rfl) ?_
                                refine lv_iload hx hb dX9_like_187 (lv_at hl 6 rfl) ?_
                                refine lv_iload hx hb dX9_like_189 (lv_at hl 8 rfl) ?_
                                refine gos_i (run_V (As := [.int (jI (Xc 90 0 q)), .int (jI k)]) (rest := []) hx hb hml hown hts (c_X9_lane l D tc base ad cnt Xd Y ln hRXd hFx (Xc 90 0 q) k (by omega) (by omega)) (cwV 2 hts gX9_like_X9_lane rfl rfl rfl (by first | exact hd_X9_lane | decide +kernel) ⟨Nat.le_of_ble_eq_true rfl, Nat.le_of_ble_eq_true rfl⟩) hK hw (by first | exact Int.le_refl 0 | omega) (by first | exact zlt hc40 | omega) sl_40_0 rfl rfl hl.1 rfl (Nat.le_of_ble_eq_true rfl) dX9_like_191 ⟨Nat.le_of_ble_eq_true rfl, Nat.le_of_ble_eq_true rfl⟩) hS (fun z45 u46 H locs p47 hw hS => ?_)
                                obtain ⟨eu46, p47⟩ := p47
                                subst eu46
                                have e48 : ∀ j : Int, Xd 55 0 j = X 55 0 j := fun j => by rw [hGXd 55 0 j (show 5500 ∉ [8600, 8700, 9000, 4051, 8800, 8900] by first | exact nlm_ni rfl | decide), hGXc 55 0 j (show 5500 ∉ [8600, 8700, 9000, 4051, 8800, 8900] by first | exact nlm_ni rfl | decide), hG23 55 0 j (show 5500 ∉ [8600, 8700, 9000, 4051] by first | exact nlm_ni rfl | decide), hX12, u3_k _ _ _ _ (by first | exact Nat.ne_of_beq_eq_false rfl | decide), hGXb 55 0 j (show 5500 ∉ [8800, 8900] by first | exact nlm_ni rfl | decide), hGXa 55 0 j (show 5500 ∉ [8600, 8700] by first | exact nlm_ni rfl | decide), hX1, u3_k _ _ _ _ (by first | exact Nat.ne_of_beq_eq_false rfl | decide)]
                                have e49 : ∀ j : Int, Xd 46 0 j = X 46 0 j := fun j => by rw [hGXd 46 0 j (show 4600 ∉ [8600, 8700, 9000, 4051, 8800, 8900] by first | exact nlm_ni rfl | decide), hGXc 46 0 j (show 4600 ∉ [8600, 8700, 9000, 4051, 8800, 8900] by first | exact nlm_ni rfl | decide), hG23 46 0 j (show 4600 ∉ [8600, 8700, 9000, 4051] by first | exact nlm_ni rfl | decide), hX12, u3_k _ _ _ _ (by first | exact Nat.ne_of_beq_eq_false rfl | decide), hGXb 46 0 j (show 4600 ∉ [8800, 8900] by first | exact nlm_ni rfl | decide), hGXa 46 0 j (show 4600 ∉ [8600, 8700] by first | exact nlm_ni rfl | decide), hX1, u3_k _ _ _ _ (by first | exact Nat.ne_of_beq_eq_false rfl | decide)]
                                simp only [e48, e49] at p47
                                refine lv_iconst (v := jI 2) hx hb dX9_like_194 rfl ?_
                                have q900008 : Frm [8600, 8700, 9000, 4051, 8800, 8900] Xc Xd := Frm.tr Frm.rf (Frm.mono hGXd (by first | exact nls_of rfl | decide))
                                refine x_icmp_lt (tgt := 212) hx hb (by omega) (by omega) dX9_like_195 (by decide) (fun c50 => ?_) (fun c50 => ?_)
                                · refine lv_lload hx hb dX9_like_212 (lv_at hl 1 rfl) ?_
                                  refine lv_lload hx hb dX9_like_214 (lv_at hl 0 rfl) ?_
                                  refine x_lcmp hx hb (by omega) (by omega) dX9_like_216 ?_
                                  obtain ⟨z51, ez51⟩ : ∃ y : Int, y = cmpZ (X 56 0 ((5 * (Xc 90 0 q)) + k)) (X 56 0 ((5 * (Xc 86 0 (Xc 90 0 q))) + k)) := ⟨_, rfl⟩
                                  rw [← ez51]
                                  have gz51 : (z51 < 0 ↔ ((X 56 0 ((5 * (Xc 90 0 q)) + k)) : Int) < (X 56 0 ((5 * (Xc 86 0 (Xc 90 0 q))) + k))) ∧ (z51 = 0 ↔ ((X 56 0 ((5 * (Xc 90 0 q)) + k)) : Int) = (X 56 0 ((5 * (Xc 86 0 (Xc 90 0 q))) + k))) ∧ -1 ≤ z51 ∧ z51 ≤ 1 := by rw [ez51]; exact ⟨cmpZ_lt, cmpZ_eq, (cmpZ_r _ _).1, (cmpZ_r _ _).2⟩
                                  clear ez51
                                  refine x_if_ne (tgt := 224) hx hb (by omega) dX9_like_217 (by decide) (fun c52 => ?_) (fun c52 => ?_)
                                  · replace c52 := cz_neT gz51 c52
                                    clear gz51
                                    refine lv_iconst (v := jI 0) hx hb dX9_like_224 rfl ?_
                                    refine lv_istore (lv' := [(11, .int (jI 0)), (9, .long (jL (X 56 0 ((5 * (Xc 86 0 (Xc 90 0 q))) + k)))), (7, .long (jL (X 56 0 ((5 * (Xc 90 0 q)) + k)))), (0, .ref (ad 40 0)), (1, .int (jI x)), (2, .int (jI y)), (3, .int (jI q)), (4, .int (jI (Xc 90 0 q))), (5, .int (jI (Xc 86 0 (Xc 90 0 q)))), (6, .int (jI k))]) hx hb dX9_like_225 hl (by decide) rfl (fun ls hl => ?_)
                                    refine lv_goto (tgt := 267) hx hb dX9_like_227 (by decide) ?_
                                    refine lv_iload hx hb dX9_like_267 (lv_at hl 0 rfl) ?_
                                    refine x_if_neF (tgt := 274) hx hb (by omega) (by decide) dX9_like_269 (by decide) ?_
                                    refine lv_iconst (v := jI 0) hx hb dX9_like_272 rfl ?_
                                    rw [hQ9]
                                    refine ret_i (mc := 0) (ms := 0) hx hb hr hlocks hw hS (by first | exact Nat.le_of_ble_eq_true rfl | omega) (by first | exact Nat.le_of_ble_eq_true rfl | omega) dX9_like_273 ?_
                                    exact ⟨Xd, rfl, hRXd, hFXd, hMIXd, by omega⟩
                                  · replace c52 := cz_neF gz51 c52
                                    clear gz51
                                    refine lv_iconst (v := jI 1) hx hb dX9_like_220 rfl ?_
                                    refine lv_goto (tgt := 225) hx hb dX9_like_221 (by decide) ?_
                                    refine lv_istore (lv' := [(11, .int (jI 1)), (9, .long (jL (X 56 0 ((5 * (Xc 86 0 (Xc 90 0 q))) + k)))), (7, .long (jL (X 56 0 ((5 * (Xc 90 0 q)) + k)))), (0, .ref (ad 40 0)), (1, .int (jI x)), (2, .int (jI y)), (3, .int (jI q)), (4, .int (jI (Xc 90 0 q))), (5, .int (jI (Xc 86 0 (Xc 90 0 q)))), (6, .int (jI k))]) hx hb dX9_like_225 hl (by decide) rfl (fun ls hl => ?_)
                                    refine lv_goto (tgt := 267) hx hb dX9_like_227 (by decide) ?_
                                    refine lv_iload hx hb dX9_like_267 (lv_at hl 0 rfl) ?_
                                    refine x_if_neT (tgt := 274) hx hb (by omega) (by decide) dX9_like_269 (by decide) ?_
                                    refine lv_iinc (v := jI (k + 1)) (lv' := [(6, .int (jI (k + 1))), (11, .int (jI 1)), (9, .long (jL (X 56 0 ((5 * (Xc 86 0 (Xc 90 0 q))) + k)))), (7, .long (jL (X 56 0 ((5 * (Xc 90 0 q)) + k)))), (0, .ref (ad 40 0)), (1, .int (jI x)), (2, .int (jI y)), (3, .int (jI q)), (4, .int (jI (Xc 90 0 q))), (5, .int (jI (Xc 86 0 (Xc 90 0 q))))]) hx hb dX9_like_274 hl (k := 9) rfl (jI_add _ _) (by decide) rfl (fun ls hl => ?_)
                                    refine lv_goto (tgt := 141) hx hb dX9_like_277 (by decide) ?_
                                    exact ih141 (k + 1) Xd _ _ _ (by omega) hRXd q900008 (by omega) (hMIXd) (hQd) hw hS (lv_sub hl [4, 5, 6, 7, 8, 9, 0] rfl)
                                · refine lv_lload hx hb dX9_like_198 (lv_at hl 1 rfl) ?_
                                  refine lv_lconst (v := jL 0) hx hb dX9_like_200 (by decide) ?_
                                  refine x_lcmp hx hb (by omega) (by omega) dX9_like_201 ?_
                                  obtain ⟨z54, ez54⟩ : ∃ y : Int, y = cmpZ (X 56 0 ((5 * (Xc 90 0 q)) + k)) 0 := ⟨_, rfl⟩
                                  rw [← ez54]
                                  have gz54 : (z54 < 0 ↔ ((X 56 0 ((5 * (Xc 90 0 q)) + k)) : Int) < 0) ∧ (z54 = 0 ↔ ((X 56 0 ((5 * (Xc 90 0 q)) + k)) : Int) = 0) ∧ -1 ≤ z54 ∧ z54 ≤ 1 := by rw [ez54]; exact ⟨cmpZ_lt, cmpZ_eq, (cmpZ_r _ _).1, (cmpZ_r _ _).2⟩
                                  clear ez54
                                  refine x_if_lt (tgt := 212) hx hb (by omega) dX9_like_202 (by decide) (fun c55 => ?_) (fun c55 => ?_)
                                  · replace c55 := cz_ltT gz54 c55
                                    clear gz54
                                    refine lv_lload hx hb dX9_like_212 (lv_at hl 1 rfl) ?_
                                    refine lv_lload hx hb dX9_like_214 (lv_at hl 0 rfl) ?_
                                    refine x_lcmp hx hb (by omega) (by omega) dX9_like_216 ?_
                                    obtain ⟨z56, ez56⟩ : ∃ y : Int, y = cmpZ (X 56 0 ((5 * (Xc 90 0 q)) + k)) (X 56 0 ((5 * (Xc 86 0 (Xc 90 0 q))) + k)) := ⟨_, rfl⟩
                                    rw [← ez56]
                                    have gz56 : (z56 < 0 ↔ ((X 56 0 ((5 * (Xc 90 0 q)) + k)) : Int) < (X 56 0 ((5 * (Xc 86 0 (Xc 90 0 q))) + k))) ∧ (z56 = 0 ↔ ((X 56 0 ((5 * (Xc 90 0 q)) + k)) : Int) = (X 56 0 ((5 * (Xc 86 0 (Xc 90 0 q))) + k))) ∧ -1 ≤ z56 ∧ z56 ≤ 1 := by rw [ez56]; exact ⟨cmpZ_lt, cmpZ_eq, (cmpZ_r _ _).1, (cmpZ_r _ _).2⟩
                                    clear ez56
                                    refine x_if_ne (tgt := 224) hx hb (by omega) dX9_like_217 (by decide) (fun c57 => ?_) (fun c57 => ?_)
                                    · replace c57 := cz_neT gz56 c57
                                      clear gz56
                                      refine lv_iconst (v := jI 0) hx hb dX9_like_224 rfl ?_
                                      refine lv_istore (lv' := [(11, .int (jI 0)), (9, .long (jL (X 56 0 ((5 * (Xc 86 0 (Xc 90 0 q))) + k)))), (7, .long (jL (X 56 0 ((5 * (Xc 90 0 q)) + k)))), (0, .ref (ad 40 0)), (1, .int (jI x)), (2, .int (jI y)), (3, .int (jI q)), (4, .int (jI (Xc 90 0 q))), (5, .int (jI (Xc 86 0 (Xc 90 0 q)))), (6, .int (jI k))]) hx hb dX9_like_225 hl (by decide) rfl (fun ls hl => ?_)
                                      refine lv_goto (tgt := 267) hx hb dX9_like_227 (by decide) ?_
                                      refine lv_iload hx hb dX9_like_267 (lv_at hl 0 rfl) ?_
                                      refine x_if_neF (tgt := 274) hx hb (by omega) (by decide) dX9_like_269 (by decide) ?_
                                      refine lv_iconst (v := jI 0) hx hb dX9_like_272 rfl ?_
                                      rw [hQ9]
                                      refine ret_i (mc := 0) (ms := 0) hx hb hr hlocks hw hS (by first | exact Nat.le_of_ble_eq_true rfl | omega) (by first | exact Nat.le_of_ble_eq_true rfl | omega) dX9_like_273 ?_
                                      exact ⟨Xd, rfl, hRXd, hFXd, hMIXd, by omega⟩
                                    · replace c57 := cz_neF gz56 c57
                                      clear gz56
                                      refine lv_iconst (v := jI 1) hx hb dX9_like_220 rfl ?_
                                      refine lv_goto (tgt := 225) hx hb dX9_like_221 (by decide) ?_
                                      refine lv_istore (lv' := [(11, .int (jI 1)), (9, .long (jL (X 56 0 ((5 * (Xc 86 0 (Xc 90 0 q))) + k)))), (7, .long (jL (X 56 0 ((5 * (Xc 90 0 q)) + k)))), (0, .ref (ad 40 0)), (1, .int (jI x)), (2, .int (jI y)), (3, .int (jI q)), (4, .int (jI (Xc 90 0 q))), (5, .int (jI (Xc 86 0 (Xc 90 0 q)))), (6, .int (jI k))]) hx hb dX9_like_225 hl (by decide) rfl (fun ls hl => ?_)
                                      refine lv_goto (tgt := 267) hx hb dX9_like_227 (by decide) ?_
                                      refine lv_iload hx hb dX9_like_267 (lv_at hl 0 rfl) ?_
                                      refine x_if_neT (tgt := 274) hx hb (by omega) (by decide) dX9_like_269 (by decide) ?_
                                      refine lv_iinc (v := jI (k + 1)) (lv' := [(6, .int (jI (k + 1))), (11, .int (jI 1)), (9, .long (jL (X 56 0 ((5 * (Xc 86 0 (Xc 90 0 q))) + k)))), (7, .long (jL (X 56 0 ((5 * (Xc 90 0 q)) + k)))), (0, .ref (ad 40 0)), (1, .int (jI x)), (2, .int (jI y)), (3, .int (jI q)), (4, .int (jI (Xc 90 0 q))), (5, .int (jI (Xc 86 0 (Xc 90 0 q))))]) hx hb dX9_like_274 hl (k := 9) rfl (jI_add _ _) (by decide) rfl (fun ls hl => ?_)
                                      refine lv_goto (tgt := 141) hx hb dX9_like_277 (by decide) ?_
                                      exact ih141 (k + 1) Xd _ _ _ (by omega) hRXd q900008 (by omega) (hMIXd) (hQd) hw hS (lv_sub hl [4, 5, 6, 7, 8, 9, 0] rfl)
                                  · replace c55 := cz_ltF gz54 c55
                                    clear gz54
                                    refine lv_lload hx hb dX9_like_205 (lv_at hl 0 rfl) ?_
                                    refine lv_lconst (v := jL 0) hx hb dX9_like_207 (by decide) ?_
                                    refine x_lcmp hx hb (by omega) (by omega) dX9_like_208 ?_
                                    obtain ⟨z59, ez59⟩ : ∃ y : Int, y = cmpZ (X 56 0 ((5 * (Xc 86 0 (Xc 90 0 q))) + k)) 0 := ⟨_, rfl⟩
                                    rw [← ez59]
                                    have gz59 : (z59 < 0 ↔ ((X 56 0 ((5 * (Xc 86 0 (Xc 90 0 q))) + k)) : Int) < 0) ∧ (z59 = 0 ↔ ((X 56 0 ((5 * (Xc 86 0 (Xc 90 0 q))) + k)) : Int) = 0) ∧ -1 ≤ z59 ∧ z59 ≤ 1 := by rw [ez59]; exact ⟨cmpZ_lt, cmpZ_eq, (cmpZ_r _ _).1, (cmpZ_r _ _).2⟩
                                    clear ez59
                                    refine x_if_ge (tgt := 230) hx hb (by omega) dX9_like_209 (by decide) (fun c60 => ?_) (fun c60 => ?_)
                                    · replace c60 := cz_geT gz59 c60
                                      clear gz59
                                      refine lv_aload_n hx hb dX9_like_230 rfl (lv_at hl 2 rfl) ?_
                                      refine lv_iload hx hb dX9_like_231 (lv_at hl 6 rfl) ?_
                                      refine lv_iload hx hb dX9_like_233 (lv_at hl 8 rfl) ?_
                                      refine gos_i (run_V (As := [.int (jI (Xc 90 0 q)), .int (jI k)]) (rest := []) hx hb hml hown hts (c_X9_lane l D tc base ad cnt Xd Y ln hRXd hFx (Xc 90 0 q) k (by omega) (by omega)) (cwV 2 hts gX9_like_X9_lane rfl rfl rfl (by first | exact hd_X9_lane | decide +kernel) ⟨Nat.le_of_ble_eq_true rfl, Nat.le_of_ble_eq_true rfl⟩) hK hw (by first | exact Int.le_refl 0 | omega) (by first | exact zlt hc40 | omega) sl_40_0 rfl rfl hl.1 rfl (Nat.le_of_ble_eq_true rfl) dX9_like_235 ⟨Nat.le_of_ble_eq_true rfl, Nat.le_of_ble_eq_true rfl⟩) hS (fun z61 u62 H locs p63 hw hS => ?_)
                                      obtain ⟨eu62, p63⟩ := p63
                                      subst eu62
                                      have e64 : ∀ j : Int, Xd 55 0 j = X 55 0 j := fun j => by rw [hGXd 55 0 j (show 5500 ∉ [8600, 8700, 9000, 4051, 8800, 8900] by first | exact nlm_ni rfl | decide), hGXc 55 0 j (show 5500 ∉ [8600, 8700, 9000, 4051, 8800, 8900] by first | exact nlm_ni rfl | decide), hG23 55 0 j (show 5500 ∉ [8600, 8700, 9000, 4051] by first | exact nlm_ni rfl | decide), hX12, u3_k _ _ _ _ (by first | exact Nat.ne_of_beq_eq_false rfl | decide), hGXb 55 0 j (show 5500 ∉ [8800, 8900] by first | exact nlm_ni rfl | decide), hGXa 55 0 j (show 5500 ∉ [8600, 8700] by first | exact nlm_ni rfl | decide), hX1, u3_k _ _ _ _ (by first | exact Nat.ne_of_beq_eq_false rfl | decide)]
                                      have e65 : ∀ j : Int, Xd 46 0 j = X 46 0 j := fun j => by rw [hGXd 46 0 j (show 4600 ∉ [8600, 8700, 9000, 4051, 8800, 8900] by first | exact nlm_ni rfl | decide), hGXc 46 0 j (show 4600 ∉ [8600, 8700, 9000, 4051, 8800, 8900] by first | exact nlm_ni rfl | decide), hG23 46 0 j (show 4600 ∉ [8600, 8700, 9000, 4051] by first | exact nlm_ni rfl | decide), hX12, u3_k _ _ _ _ (by first | exact Nat.ne_of_beq_eq_false rfl | decide), hGXb 46 0 j (show 4600 ∉ [8800, 8900] by first | exact nlm_ni rfl | decide), hGXa 46 0 j (show 4600 ∉ [8600, 8700] by first | exact nlm_ni rfl | decide), hX1, u3_k _ _ _ _ (by first | exact Nat.ne_of_beq_eq_false rfl | decide)]
                                      simp only [e64, e65] at p63
                                      refine lv_iconst (v := jI 2) hx hb dX9_like_238 rfl ?_
                                      refine x_icmp_ne (tgt := 255) hx hb (by omega) (by omega) dX9_like_239 (by decide) (fun c66 => ?_) (fun c66 => ?_)
                                      · refine lv_aload_n hx hb dX9_like_255 rfl (lv_at hl 2 rfl) ?_
                                        refine lv_lload hx hb dX9_like_256 (lv_at hl 1 rfl) ?_
                                        refine x_l2i hx hb dX9_like_258 ?_
                                        refine lv_lload hx hb dX9_like_259 (lv_at hl 0 rfl) ?_
                                        refine x_l2i hx hb dX9_like_261 ?_
                                        refine gos_i (run_V (As := [.int (jI (X 56 0 ((5 * (Xc 90 0 q)) + k))), .int (jI (X 56 0 ((5 * (Xc 86 0 (Xc 90 0 q))) + k)))]) (rest := []) hx hb hml hown hts (c_X9_rowsMeet l D tc base ad cnt Xd Y ln hRXd hFx hMIXd (X 56 0 ((5 * (Xc 90 0 q)) + k)) (X 56 0 ((5 * (Xc 86 0 (Xc 90 0 q))) + k)) (by omega) (by omega)) (cwV 2 hts gX9_like_X9_rowsMeet rfl rfl rfl (by first | exact hd_X9_rowsMeet | decide +kernel) ⟨Nat.le_of_ble_eq_true rfl, Nat.le_of_ble_eq_true rfl⟩) hK hw (by first | exact Int.le_refl 0 | omega) (by first | exact zlt hc40 | omega) sl_40_0 rfl rfl hl.1 rfl (Nat.le_of_ble_eq_true rfl) dX9_like_262 ⟨Nat.le_of_ble_eq_true rfl, Nat.le_of_ble_eq_true rfl⟩) hS (fun z67 u68 H locs p69 hw hS => ?_)
                                        obtain ⟨X70, eu68, hRX70, hG71, hMIX70, p69⟩ := p69
                                        subst eu68
                                        have hFX70 : Frm [4001, 8600, 8700, 9000, 4051, 8800, 8900] X X70 := Frm.tr hFXd (Frm.mono hG71 (by first | exact nls_of rfl | decide))
                                        refine lv_istore (lv' := [(11, .int (jI z67)), (9, .long (jL (X 56 0 ((5 * (Xc 86 0 (Xc 90 0 q))) + k)))), (7, .long (jL (X 56 0 ((5 * (Xc 90 0 q)) + k)))), (0, .ref (ad 40 0)), (1, .int (jI x)), (2, .int (jI y)), (3, .int (jI q)), (4, .int (jI (Xc 90 0 q))), (5, .int (jI (Xc 86 0 (Xc 90 0 q)))), (6, .int (jI k))]) hx hb dX9_like_265 hl (by decide) rfl (fun ls hl => ?_)
                                        refine lv_iload hx hb dX9_like_267 (lv_at hl 0 rfl) ?_
                                        refine x_if_ne (tgt := 274) hx hb (by omega) dX9_like_269 (by decide) (fun c72 => ?_) (fun c72 => ?_)
                                        · refine lv_iinc (v := jI (k + 1)) (lv' := [(6, .int (jI (k + 1))), (11, .int (jI z67)), (9, .long (jL (X 56 0 ((5 * (Xc 86 0 (Xc 90 0 q))) + k)))), (7, .long (jL (X 56 0 ((5 * (Xc 90 0 q)) + k)))), (0, .ref (ad 40 0)), (1, .int (jI x)), (2, .int (jI y)), (3, .int (jI q)), (4, .int (jI (Xc 90 0 q))), (5, .int (jI (Xc 86 0 (Xc 90 0 q))))]) hx hb dX9_like_274 hl (k := 9) rfl (jI_add _ _) (by decide) rfl (fun ls hl => ?_)
                                          refine lv_goto (tgt := 141) hx hb dX9_like_277 (by decide) ?_
                                          have q74 : Frm [8600, 8700, 9000, 4051, 8800, 8900] Xc X70 := Frm.tr q900008 (Frm.mono hG71 (by first | exact nls_of rfl | decide))
                                          have q75 : Frm [8800, 8900] Xd X70 := Frm.tr Frm.rf (Frm.mono hG71 (by first | exact nls_of rfl | decide))
                                          have hO76 : qOK X70 := qOK.of hQd q75 (by decide)
                                          exact ih141 (k + 1) X70 _ _ _ (by omega) hRX70 q74 (by omega) (hMIX70) (hO76) hw hS (lv_sub hl [4, 5, 6, 7, 8, 9, 0] rfl)
                                        · refine lv_iconst (v := jI 0) hx hb dX9_like_272 rfl ?_
                                          rw [hQ9]
                                          refine ret_i (mc := 0) (ms := 0) hx hb hr hlocks hw hS (by first | exact Nat.le_of_ble_eq_true rfl | omega) (by first | exact Nat.le_of_ble_eq_true rfl | omega) dX9_like_273 ?_
                                          exact ⟨X70, rfl, hRX70, hFX70, hMIX70, by omega⟩
                                      · refine lv_aload_n hx hb dX9_like_242 rfl (lv_at hl 2 rfl) ?_
                                        refine lv_lload hx hb dX9_like_243 (lv_at hl 1 rfl) ?_
                                        refine x_l2i hx hb dX9_like_245 ?_
                                        refine lv_lload hx hb dX9_like_246 (lv_at hl 0 rfl) ?_
                                        refine x_l2i hx hb dX9_like_248 ?_
                                        have e77 : Xd 40 0 13 = X 40 0 13 := by rw [hGXd 40 0 13 (show 4014 ∉ [8600, 8700, 9000, 4051, 8800, 8900] by first | exact nlm_ni rfl | decide), hGXc 40 0 13 (show 4014 ∉ [8600, 8700, 9000, 4051, 8800, 8900] by first | exact nlm_ni rfl | decide), hG23 40 0 13 (show 4014 ∉ [8600, 8700, 9000, 4051] by first | exact nlm_ni rfl | decide), hX12, u3_j _ _ _ _ (by decide), hGXb 40 0 13 (show 4014 ∉ [8800, 8900] by first | exact nlm_ni rfl | decide), hGXa 40 0 13 (show 4014 ∉ [8600, 8700] by first | exact nlm_ni rfl | decide), hX1, u3_j _ _ _ _ (by decide)]
                                        refine gos_i (run_V (As := [.int (jI (X 56 0 ((5 * (Xc 90 0 q)) + k))), .int (jI (X 56 0 ((5 * (Xc 86 0 (Xc 90 0 q))) + k)))]) (rest := []) hx hb hml hown hts (c_X9_meets l D tc base ad cnt Xd Y ln hRXd hFx hMIXd (X 56 0 ((5 * (Xc 90 0 q)) + k)) (X 56 0 ((5 * (Xc 86 0 (Xc 90 0 q))) + k)) (by omega) (by omega) (by simp only [e77]; omega) (by simp only [e77]; omega) hQd) (cwV 2 hts gX9_like_X9_meets rfl rfl rfl (by first | exact hd_X9_meets | decide +kernel) ⟨Nat.le_of_ble_eq_true rfl, Nat.le_of_ble_eq_true rfl⟩) hK hw (by first | exact Int.le_refl 0 | omega) (by first | exact zlt hc40 | omega) sl_40_0 rfl rfl hl.1 rfl (Nat.le_of_ble_eq_true rfl) dX9_like_249 ⟨Nat.le_of_ble_eq_true rfl, Nat.le_of_ble_eq_true rfl⟩) hS (fun z78 u79 H locs p80 hw hS => ?_)
                                        obtain ⟨X81, eu79, hRX81, hG82, hMIX81, hQX81, p80⟩ := p80
                                        subst eu79
                                        have hFX81 : Frm [4001, 8600, 8700, 9000, 4051, 8800, 8900] X X81 := Frm.tr hFXd (Frm.mono hG82 (by first | exact nls_of rfl | decide))
                                        refine lv_goto (tgt := 265) hx hb dX9_like_252 (by decide) ?_
                                        refine lv_istore (lv' := [(11, .int (jI z78)), (9, .long (jL (X 56 0 ((5 * (Xc 86 0 (Xc 90 0 q))) + k)))), (7, .long (jL (X 56 0 ((5 * (Xc 90 0 q)) + k)))), (0, .ref (ad 40 0)), (1, .int (jI x)), (2, .int (jI y)), (3, .int (jI q)), (4, .int (jI (Xc 90 0 q))), (5, .int (jI (Xc 86 0 (Xc 90 0 q)))), (6, .int (jI k))]) hx hb dX9_like_265 hl (by decide) rfl (fun ls hl => ?_)
                                        refine lv_iload hx hb dX9_like_267 (lv_at hl 0 rfl) ?_
                                        refine x_if_ne (tgt := 274) hx hb (by omega) dX9_like_269 (by decide) (fun c83 => ?_) (fun c83 => ?_)
                                        · refine lv_iinc (v := jI (k + 1)) (lv' := [(6, .int (jI (k + 1))), (11, .int (jI z78)), (9, .long (jL (X 56 0 ((5 * (Xc 86 0 (Xc 90 0 q))) + k)))), (7, .long (jL (X 56 0 ((5 * (Xc 90 0 q)) + k)))), (0, .ref (ad 40 0)), (1, .int (jI x)), (2, .int (jI y)), (3, .int (jI q)), (4, .int (jI (Xc 90 0 q))), (5, .int (jI (Xc 86 0 (Xc 90 0 q))))]) hx hb dX9_like_274 hl (k := 9) rfl (jI_add _ _) (by decide) rfl (fun ls hl => ?_)
                                          refine lv_goto (tgt := 141) hx hb dX9_like_277 (by decide) ?_
                                          have q85 : Frm [8600, 8700, 9000, 4051, 8800, 8900] Xc X81 := Frm.tr q900008 (Frm.mono hG82 (by first | exact nls_of rfl | decide))
                                          exact ih141 (k + 1) X81 _ _ _ (by omega) hRX81 q85 (by omega) (hMIX81) (hQX81) hw hS (lv_sub hl [4, 5, 6, 7, 8, 9, 0] rfl)
                                        · refine lv_iconst (v := jI 0) hx hb dX9_like_272 rfl ?_
                                          rw [hQ9]
                                          refine ret_i (mc := 0) (ms := 0) hx hb hr hlocks hw hS (by first | exact Nat.le_of_ble_eq_true rfl | omega) (by first | exact Nat.le_of_ble_eq_true rfl | omega) dX9_like_273 ?_
                                          exact ⟨X81, rfl, hRX81, hFX81, hMIX81, by omega⟩
                                    · replace c60 := cz_geF gz59 c60
                                      clear gz59
                                      refine lv_lload hx hb dX9_like_212 (lv_at hl 1 rfl) ?_
                                      refine lv_lload hx hb dX9_like_214 (lv_at hl 0 rfl) ?_
                                      refine x_lcmp hx hb (by omega) (by omega) dX9_like_216 ?_
                                      obtain ⟨z86, ez86⟩ : ∃ y : Int, y = cmpZ (X 56 0 ((5 * (Xc 90 0 q)) + k)) (X 56 0 ((5 * (Xc 86 0 (Xc 90 0 q))) + k)) := ⟨_, rfl⟩
                                      rw [← ez86]
                                      have gz86 : (z86 < 0 ↔ ((X 56 0 ((5 * (Xc 90 0 q)) + k)) : Int) < (X 56 0 ((5 * (Xc 86 0 (Xc 90 0 q))) + k))) ∧ (z86 = 0 ↔ ((X 56 0 ((5 * (Xc 90 0 q)) + k)) : Int) = (X 56 0 ((5 * (Xc 86 0 (Xc 90 0 q))) + k))) ∧ -1 ≤ z86 ∧ z86 ≤ 1 := by rw [ez86]; exact ⟨cmpZ_lt, cmpZ_eq, (cmpZ_r _ _).1, (cmpZ_r _ _).2⟩
                                      clear ez86
                                      refine x_if_ne (tgt := 224) hx hb (by omega) dX9_like_217 (by decide) (fun c87 => ?_) (fun c87 => ?_)
                                      · replace c87 := cz_neT gz86 c87
                                        clear gz86
                                        refine lv_iconst (v := jI 0) hx hb dX9_like_224 rfl ?_
                                        refine lv_istore (lv' := [(11, .int (jI 0)), (9, .long (jL (X 56 0 ((5 * (Xc 86 0 (Xc 90 0 q))) + k)))), (7, .long (jL (X 56 0 ((5 * (Xc 90 0 q)) + k)))), (0, .ref (ad 40 0)), (1, .int (jI x)), (2, .int (jI y)), (3, .int (jI q)), (4, .int (jI (Xc 90 0 q))), (5, .int (jI (Xc 86 0 (Xc 90 0 q)))), (6, .int (jI k))]) hx hb dX9_like_225 hl (by decide) rfl (fun ls hl => ?_)
                                        refine lv_goto (tgt := 267) hx hb dX9_like_227 (by decide) ?_
                                        refine lv_iload hx hb dX9_like_267 (lv_at hl 0 rfl) ?_
                                        refine x_if_neF (tgt := 274) hx hb (by omega) (by decide) dX9_like_269 (by decide) ?_
                                        refine lv_iconst (v := jI 0) hx hb dX9_like_272 rfl ?_
                                        rw [hQ9]
                                        refine ret_i (mc := 0) (ms := 0) hx hb hr hlocks hw hS (by first | exact Nat.le_of_ble_eq_true rfl | omega) (by first | exact Nat.le_of_ble_eq_true rfl | omega) dX9_like_273 ?_
                                        exact ⟨Xd, rfl, hRXd, hFXd, hMIXd, by omega⟩
                                      · replace c87 := cz_neF gz86 c87
                                        clear gz86
                                        refine lv_iconst (v := jI 1) hx hb dX9_like_220 rfl ?_
                                        refine lv_goto (tgt := 225) hx hb dX9_like_221 (by decide) ?_
                                        refine lv_istore (lv' := [(11, .int (jI 1)), (9, .long (jL (X 56 0 ((5 * (Xc 86 0 (Xc 90 0 q))) + k)))), (7, .long (jL (X 56 0 ((5 * (Xc 90 0 q)) + k)))), (0, .ref (ad 40 0)), (1, .int (jI x)), (2, .int (jI y)), (3, .int (jI q)), (4, .int (jI (Xc 90 0 q))), (5, .int (jI (Xc 86 0 (Xc 90 0 q)))), (6, .int (jI k))]) hx hb dX9_like_225 hl (by decide) rfl (fun ls hl => ?_)
                                        refine lv_goto (tgt := 267) hx hb dX9_like_227 (by decide) ?_
                                        refine lv_iload hx hb dX9_like_267 (lv_at hl 0 rfl) ?_
                                        refine x_if_neT (tgt := 274) hx hb (by omega) (by decide) dX9_like_269 (by decide) ?_
                                        refine lv_iinc (v := jI (k + 1)) (lv' := [(6, .int (jI (k + 1))), (11, .int (jI 1)), (9, .long (jL (X 56 0 ((5 * (Xc 86 0 (Xc 90 0 q))) + k)))), (7, .long (jL (X 56 0 ((5 * (Xc 90 0 q)) + k)))), (0, .ref (ad 40 0)), (1, .int (jI x)), (2, .int (jI y)), (3, .int (jI q)), (4, .int (jI (Xc 90 0 q))), (5, .int (jI (Xc 86 0 (Xc 90 0 q))))]) hx hb dX9_like_274 hl (k := 9) rfl (jI_add _ _) (by decide) rfl (fun ls hl => ?_)
                                        refine lv_goto (tgt := 141) hx hb dX9_like_277 (by decide) ?_
                                        exact ih141 (k + 1) Xd _ _ _ (by omega) hRXd q900008 (by omega) (hMIXd) (hQd) hw hS (lv_sub hl [4, 5, 6, 7, 8, 9, 0] rfl)
                          exact lp141 (5 - 0 : Int).toNat.succ 0 Xc _ _ _ (by omega) hRXc Frm.rf (by omega) (hMIXc) (hQc) hw hS (lv_sub hl [3, 4, 5, 6, 2, 1, 0] rfl)
                        · refine lv_iconst (v := jI 0) hx hb dX9_like_136 rfl ?_
                          rw [hQ9]
                          refine ret_i (mc := 0) (ms := 0) hx hb hr hlocks hw hS (by first | exact Nat.le_of_ble_eq_true rfl | omega) (by first | exact Nat.le_of_ble_eq_true rfl | omega) dX9_like_137 ?_
                          exact ⟨Xc, rfl, hRXc, hFXc, hMIXc, by omega⟩
                  exact lp94 (30 - 0 : Int).toNat.succ 0 X22 _ _ _ (by omega) hRX22 Frm.rf (by omega) (hMIX22) (hQX22) hw hS (lv_sub hl [1, 2, 3, 0] rfl)
                · refine lv_aload_n hx hb dX9_like_60 rfl (lv_at hl 0 rfl) ?_
                  refine x_geto hx hb hf9 hw (by first | exact Int.le_refl 0 | omega) (by first | exact zlt hc40 | omega) sl_40_47 lk136 dX9_like_61 ?_
                  refine lv_iload_n hx hb dX9_like_64 rfl (lv_at hl 3 rfl) ?_
                  refine lv_iconst (v := jI (-1)) hx hb dX9_like_65 rfl ?_
                  refine x_iast hx hb hK.1 hw hS (by first | exact Int.le_refl 0 | omega) (by first | exact zlt hc88 | omega) ar_88 (len_E ar_88 (by first | exact Nat.ne_of_beq_eq_false rfl | decide)) (by omega) (by omega) (by omega) dX9_like_66 (fun H locs hw hS => ?_)
                  obtain ⟨X89, hX89⟩ : ∃ Xq, Xq = u3 Xb 88 0 k (-1) := ⟨_, rfl⟩
                  rw [← hX89] at hw
                  have hRX89 : Rng X89 := by rw [hX89]; exact rng_set hRXb (show (-1) ≤ (-1) ∧ (-1) ≤ 399 by omega)
                  have hVX89 : X89 88 0 k = (-1) := by rw [hX89]; exact u3_s _ _ _ _ _
                  have hFX89 : Frm [4001, 8600, 8700, 9000, 4051, 8800, 8900] X X89 := by rw [hX89]; exact Frm.set hFXb (show 8800 ∈ [4001, 8600, 8700, 9000, 4051, 8800, 8900] by first | exact nlm_in rfl | decide)
                  refine lv_aload_n hx hb dX9_like_67 rfl (lv_at hl 0 rfl) ?_
                  refine x_geto hx hb hf9 hw (by first | exact Int.le_refl 0 | omega) (by first | exact zlt hc40 | omega) sl_40_48 lk139 dX9_like_68 ?_
                  refine lv_iload_n hx hb dX9_like_71 rfl (lv_at hl 3 rfl) ?_
                  refine lv_iconst (v := jI (-1)) hx hb dX9_like_72 rfl ?_
                  refine x_iast hx hb hK.1 hw hS (by first | exact Int.le_refl 0 | omega) (by first | exact zlt hc89 | omega) ar_89 (len_E ar_89 (by first | exact Nat.ne_of_beq_eq_false rfl | decide)) (by omega) (by omega) (by omega) dX9_like_73 (fun H locs hw hS => ?_)
                  obtain ⟨X90, hX90⟩ : ∃ Xq, Xq = u3 X89 89 0 k (-1) := ⟨_, rfl⟩
                  rw [← hX90] at hw
                  have hRX90 : Rng X90 := by rw [hX90]; exact rng_set hRX89 (show (-1) ≤ (-1) ∧ (-1) ≤ 399 by omega)
                  have hVX90 : X90 89 0 k = (-1) := by rw [hX90]; exact u3_s _ _ _ _ _
                  have hFX90 : Frm [4001, 8600, 8700, 9000, 4051, 8800, 8900] X X90 := by rw [hX90]; exact Frm.set hFX89 (show 8900 ∈ [4001, 8600, 8700, 9000, 4051, 8800, 8900] by first | exact nlm_in rfl | decide)
                  refine lv_iinc (v := jI (k + 1)) (lv' := [(3, .int (jI (k + 1))), (0, .ref (ad 40 0)), (1, .int (jI x)), (2, .int (jI y))]) hx hb dX9_like_74 hl (k := 3) rfl (jI_add _ _) (by decide) rfl (fun ls hl => ?_)
                  refine lv_goto (tgt := 53) hx hb dX9_like_77 (by decide) ?_
                  have q91 : Frm [8800, 8900] Xa Xb := Frm.tr Frm.rf (Frm.mono hGXb (by first | exact nls_of rfl | decide))
                  have q92 : Frm [8800, 8900] Xa X89 := by rw [hX89]; exact Frm.set q91 (show 8800 ∈ [8800, 8900] by first | exact nlm_in rfl | decide)
                  have q93 : Frm [8800, 8900] Xa X90 := by rw [hX90]; exact Frm.set q92 (show 8900 ∈ [8800, 8900] by first | exact nlm_in rfl | decide)
                  exact ih53 (k + 1) X90 _ _ _ (by omega) hRX90 q93 (by omega) hw hS (lv_sub hl [1, 2, 3, 0] rfl)
            exact lp53 (400 - 0 : Int).toNat.succ 0 Xa _ _ _ (by omega) hRXa Frm.rf (by omega) hw hS (lv_sub hl [1, 2, 3, 0] rfl)
          · refine lv_aload_n hx hb dX9_like_31 rfl (lv_at hl 0 rfl) ?_
            refine x_geto hx hb hf9 hw (by first | exact Int.le_refl 0 | omega) (by first | exact zlt hc40 | omega) sl_40_45 lk130 dX9_like_32 ?_
            refine lv_iload_n hx hb dX9_like_35 rfl (lv_at hl 3 rfl) ?_
            refine lv_iconst (v := jI (-1)) hx hb dX9_like_36 rfl ?_
            refine x_iast hx hb hK.1 hw hS (by first | exact Int.le_refl 0 | omega) (by first | exact zlt hc86 | omega) ar_86 (len_E ar_86 (by first | exact Nat.ne_of_beq_eq_false rfl | decide)) (by omega) (by omega) (by omega) dX9_like_37 (fun H locs hw hS => ?_)
            obtain ⟨X94, hX94⟩ : ∃ Xq, Xq = u3 Xa 86 0 k (-1) := ⟨_, rfl⟩
            rw [← hX94] at hw
            have hRX94 : Rng X94 := by rw [hX94]; exact rng_set hRXa (show (-1) ≤ (-1) ∧ (-1) ≤ 29 by omega)
            have hVX94 : X94 86 0 k = (-1) := by rw [hX94]; exact u3_s _ _ _ _ _
            have hFX94 : Frm [4001, 8600, 8700, 9000, 4051, 8800, 8900] X X94 := by rw [hX94]; exact Frm.set hFXa (show 8600 ∈ [4001, 8600, 8700, 9000, 4051, 8800, 8900] by first | exact nlm_in rfl | decide)
            refine lv_aload_n hx hb dX9_like_38 rfl (lv_at hl 0 rfl) ?_
            refine x_geto hx hb hf9 hw (by first | exact Int.le_refl 0 | omega) (by first | exact zlt hc40 | omega) sl_40_46 lk133 dX9_like_39 ?_
            refine lv_iload_n hx hb dX9_like_42 rfl (lv_at hl 3 rfl) ?_
            refine lv_iconst (v := jI (-1)) hx hb dX9_like_43 rfl ?_
            refine x_iast hx hb hK.1 hw hS (by first | exact Int.le_refl 0 | omega) (by first | exact zlt hc87 | omega) ar_87 (len_E ar_87 (by first | exact Nat.ne_of_beq_eq_false rfl | decide)) (by omega) (by omega) (by omega) dX9_like_44 (fun H locs hw hS => ?_)
            obtain ⟨X95, hX95⟩ : ∃ Xq, Xq = u3 X94 87 0 k (-1) := ⟨_, rfl⟩
            rw [← hX95] at hw
            have hRX95 : Rng X95 := by rw [hX95]; exact rng_set hRX94 (show (-1) ≤ (-1) ∧ (-1) ≤ 29 by omega)
            have hVX95 : X95 87 0 k = (-1) := by rw [hX95]; exact u3_s _ _ _ _ _
            have hFX95 : Frm [4001, 8600, 8700, 9000, 4051, 8800, 8900] X X95 := by rw [hX95]; exact Frm.set hFX94 (show 8700 ∈ [4001, 8600, 8700, 9000, 4051, 8800, 8900] by first | exact nlm_in rfl | decide)
            refine lv_iinc (v := jI (k + 1)) (lv' := [(3, .int (jI (k + 1))), (0, .ref (ad 40 0)), (1, .int (jI x)), (2, .int (jI y))]) hx hb dX9_like_45 hl (k := 3) rfl (jI_add _ _) (by decide) rfl (fun ls hl => ?_)
            refine lv_goto (tgt := 25) hx hb dX9_like_48 (by decide) ?_
            have q96 : Frm [8600, 8700] X1 Xa := Frm.tr Frm.rf (Frm.mono hGXa (by first | exact nls_of rfl | decide))
            have q97 : Frm [8600, 8700] X1 X94 := by rw [hX94]; exact Frm.set q96 (show 8600 ∈ [8600, 8700] by first | exact nlm_in rfl | decide)
            have q98 : Frm [8600, 8700] X1 X95 := by rw [hX95]; exact Frm.set q97 (show 8700 ∈ [8600, 8700] by first | exact nlm_in rfl | decide)
            exact ih25 (k + 1) X95 _ _ _ (by omega) hRX95 q98 (by omega) hw hS (lv_sub hl [1, 2, 3, 0] rfl)
      exact lp25 (30 - 0 : Int).toNat.succ 0 X1 _ _ _ (by omega) hRX1 Frm.rf (by omega) hw hS (lv_sub hl [1, 2, 3, 0] rfl)
    · subst ez6
      refine x_if_neF (tgt := 23) hx hb (by omega) (by decide) dX9_like_18 (by decide) ?_
      refine lv_iconst (v := jI (-1)) hx hb dX9_like_21 rfl ?_
      rw [hQ9]
      refine ret_i (mc := 0) (ms := 0) hx hb hr hlocks hw hS (by first | exact Nat.le_of_ble_eq_true rfl | omega) (by first | exact Nat.le_of_ble_eq_true rfl | omega) dX9_like_22 ?_
      have hMq99 : MInv X1 := minv_frm hMI q900009 (by decide)
      exact ⟨X1, rfl, hRX1, hFX1, hMq99, by omega⟩
  · subst ez2
    refine x_if_eqT (tgt := 21) hx hb (by omega) (by decide) dX9_like_10 (by decide) ?_
    refine lv_iconst (v := jI (-1)) hx hb dX9_like_21 rfl ?_
    rw [hQ9]
    refine ret_i (mc := 0) (ms := 0) hx hb hr hlocks hw hS (by first | exact Nat.le_of_ble_eq_true rfl | omega) (by first | exact Nat.le_of_ble_eq_true rfl | omega) dX9_like_22 ?_
    have hMq101 : MInv X1 := minv_frm hMI q900009 (by decide)
    exact ⟨X1, rfl, hRX1, hFX1, hMq101, by omega⟩
end
section
set_option maxHeartbeats 4000000 in
set_option maxRecDepth 100000 in
theorem c_X9_undo (l : Launch) (D : va_G) (tc : Nat → ClassId) (base : Nat) (ad : Nat → Int → Nat) (cnt : Nat → Int) (X : Nat → Int → Int → Int) (Y : Nat → Int → Int → Option Int) (ln : Int → Int) (hR : Rng X) (hFx : Fx cnt) (hMI : MInv X)  : KI l D tc base yX9_undo wsX9_undo ({ frames := 0, cells := 0, slots := 0, locals := 0 } : Room) [.ref (ad 40 0)] (ad, cnt, X, Y, ln) 0 0 (fun z u => ∃ X1 : Nat → Int → Int → Int, u = (ad, cnt, X1, Y, ln) ∧ Rng X1 ∧ Frm [4001, 4021, 4023, 5600, 5900] X X1 ∧ MInv X1 ∧ (-2147483648 ≤ z ∧ z ≤ 2147483647) ∧ ((X 40 0 20 = 0 ∧ X1 40 0 20 = 0) ∨ (1 ≤ X 40 0 20 ∧ X1 40 0 20 = X 40 0 20 - 1)) ∧ (X 40 0 20 = 0 → Frm [4001] X X1 ∧ z = -3) ∧ (1 ≤ X 40 0 20 → ∃ V : Nat → Int → Int → Int, Frm [4001, 4021] X V ∧ V 40 0 20 = X 40 0 20 - 1 ∧ X1 40 0 22 ≤ X 62 0 (X 40 0 20 - 1) ∧ (X1 40 0 22 = X 40 0 22 ∨ X 62 0 (X 40 0 20 - 1) ≤ X1 40 0 22) ∧ z = X 40 0 22 - X 62 0 (X 40 0 20 - 1) ∧ uTrM (X 40 0 22) ((X 40 0 22 - X1 40 0 22).toNat) V X1)) := by
  refine K_of (cc := cX9_undo) (maxL := 2) (ret := (some .int)) (by decide) rfl (Nat.le_of_ble_eq_true rfl) ?_
  intro p e s m below meth c ls hx hb hr hml hown hts hlocks hl hK hw hS
  have hown : s.vm.findClass RX9 = some m.cls := hown
  obtain ⟨av9, hav9⟩ : ∃ a9 : Array Value, a9 = ([.ref (ad 40 0)] : List Value).toArray := ⟨_, rfl⟩
  rw [← hav9] at hts ⊢
  obtain ⟨Q9, hQ9⟩ : ∃ q9Q : State → Prop, q9Q = MQ below (QI D tc base (fun z u => ∃ X1 : Nat → Int → Int → Int, u = (ad, cnt, X1, Y, ln) ∧ Rng X1 ∧ Frm [4001, 4021, 4023, 5600, 5900] X X1 ∧ MInv X1 ∧ (-2147483648 ≤ z ∧ z ≤ 2147483647) ∧ ((X 40 0 20 = 0 ∧ X1 40 0 20 = 0) ∨ (1 ≤ X 40 0 20 ∧ X1 40 0 20 = X 40 0 20 - 1)) ∧ (X 40 0 20 = 0 → Frm [4001] X X1 ∧ z = -3) ∧ (1 ≤ X 40 0 20 → ∃ V : Nat → Int → Int → Int, Frm [4001, 4021] X V ∧ V 40 0 20 = X 40 0 20 - 1 ∧ X1 40 0 22 ≤ X 62 0 (X 40 0 20 - 1) ∧ (X1 40 0 22 = X 40 0 22 ∨ X 62 0 (X 40 0 20 - 1) ≤ X1 40 0 22) ∧ z = X 40 0 22 - X 62 0 (X 40 0 20 - 1) ∧ uTrM (X 40 0 22) ((X 40 0 22 - X1 40 0 22).toNat) V X1))) av9 s 0 0 (frA base) := ⟨_, rfl⟩
  rw [← hQ9]
  have hi9 : ∀ w ∈ wsX90, w ∈ wsX9_undo := fun w h => List.mem_cons_of_mem _ (List.mem_append_right _ h)
  have hf9 : fctx s m _ RX9 wsX9_undo D tc RX9 TX9 51 9 := ⟨hts, hi9, hown, hK.1, rfl⟩
  have lk48 := hts (.fieldLink RX9 48 (TX9 15).1 (TX9 15).2.1 (TX9 15).2.2.1) (gj_X9_undo_0 _ (gp_4 (gp_1 gp_h)))
  have lk57 := hts (.fieldLink RX9 57 (TX9 18).1 (TX9 18).2.1 (TX9 18).2.2.1) (gj_X9_undo_0 _ (gp_4 (gp_4 (gp_1 gp_h))))
  have lk63 := hts (.fieldLink RX9 63 (TX9 21).1 (TX9 21).2.1 (TX9 21).2.2.1) (gj_X9_undo_0 _ (gp_1 (gp_1 (gp_1 gp_h))))
  have lk66 := hts (.fieldLink RX9 66 (TX9 23).1 (TX9 23).2.1 (TX9 23).2.2.1) (gj_X9_undo_0 _ (gp_4 (gp_1 (gp_1 gp_h))))
  have lk69 := hts (.fieldLink RX9 69 (TX9 24).1 (TX9 24).2.1 (TX9 24).2.2.1) (gj_X9_undo_0 _ (gp_4 (gp_1 (gp_1 (gp_1 gp_h)))))
  have lk72 := hts (.fieldLink RX9 72 (TX9 25).1 (TX9 25).2.1 (TX9 25).2.2.1) (gj_X9_undo_0 _ (gp_4 (gp_4 (gp_1 (gp_1 gp_h)))))
  have lk75 := hts (.fieldLink RX9 75 (TX9 26).1 (TX9 26).2.1 (TX9 26).2.2.1) (gj_X9_undo_0 _ (gp_4 gp_h))
  have lk78 := hts (.fieldLink RX9 78 (TX9 27).1 (TX9 27).2.1 (TX9 27).2.2.1) (gj_X9_undo_0 _ (gp_4 (gp_4 gp_h)))
  have lk145 := hts (.fieldLink RX9 145 (TX9 0).1 (TX9 0).2.1 (TX9 0).2.2.1) (gj_X9_undo_0 _ (gp_h))
  have lk165 := hts (.fieldLink RX9 165 (TX9 20).1 (TX9 20).2.1 (TX9 20).2.2.1) (gj_X9_undo_0 _ (gp_1 gp_h))
  have lk173 := hts (.fieldLink RX9 173 (TX9 22).1 (TX9 22).2.1 (TX9 22).2.2.1) (gj_X9_undo_0 _ (gp_1 (gp_1 gp_h)))
  have hc40 : cnt 40 = 1 := hFx.at 40 1 (by decide)
  have hc56 : cnt 56 = 1 := hFx.at 56 1 (by decide)
  have hc59 : cnt 59 = 1 := hFx.at 59 1 (by decide)
  have hc62 : cnt 62 = 1 := hFx.at 62 1 (by decide)
  have hc64 : cnt 64 = 1 := hFx.at 64 1 (by decide)
  have hc65 : cnt 65 = 1 := hFx.at 65 1 (by decide)
  have hc66 : cnt 66 = 1 := hFx.at 66 1 (by decide)
  have hc67 : cnt 67 = 1 := hFx.at 67 1 (by decide)
  have hc68 : cnt 68 = 1 := hFx.at 68 1 (by decide)
  have hl : lv_has ls 2 [(0, .ref (ad 40 0))] := hl
  have fstypes : 0 ≤ X 40 0 2 ∧ X 40 0 2 ≤ 8 := hR 40 0 2
  have fsthings : 0 ≤ X 40 0 13 ∧ X 40 0 13 ≤ 30 := hR 40 0 13
  have fsmarks : 0 ≤ X 40 0 20 ∧ X 40 0 20 ≤ 4 := hR 40 0 20
  have fsnotes : 0 ≤ X 40 0 22 ∧ X 40 0 22 ≤ 80 := hR 40 0 22
  refine lv_aload_n hx hb dX9_undo_0 rfl (lv_at hl 0 rfl) ?_
  refine lv_iconst (v := jI 0) hx hb dX9_undo_1 rfl ?_
  refine x_puti (jz := 0) hx hb hf9 ⟨tyX9_ok, nmX9⟩ hw hS (by first | exact Int.le_refl 0 | omega) (by first | exact zlt hc40 | omega) sl_40_0 rfl lk145 rfl (tyX9_ok 0 (by decide)) rfl rfl dX9_undo_2 (fun H locs hw hS => ?_)
  obtain ⟨X1, hX1⟩ : ∃ Xq, Xq = u3 X 40 0 0 0 := ⟨_, rfl⟩
  rw [← hX1] at hw
  have hRX1 : Rng X1 := by rw [hX1]; exact rng_set hR (show (-2147483648) ≤ 0 ∧ 0 ≤ 2147483647 by omega)
  have hVX1 : X1 40 0 0 = 0 := by rw [hX1]; exact u3_s _ _ _ _ _
  have hFX1 : Frm [4001, 4021, 4023, 5600, 5900] X X1 := by rw [hX1]; exact Frm.set Frm.rf (show 4001 ∈ [4001, 4021, 4023, 5600, 5900] by first | exact nlm_in rfl | decide)
  refine lv_aload_n hx hb dX9_undo_5 rfl (lv_at hl 0 rfl) ?_
  refine x_geti (jz := 20) hx hb hf9 hw (by first | exact Int.le_refl 0 | omega) (by first | exact zlt hc40 | omega) sl_40_20 rfl lk165 dX9_undo_6 ?_
  have e2 : X1 40 0 20 = X 40 0 20 := by rw [hX1, u3_j _ _ _ _ (by decide)]
  rw [e2]
  have f3 : 0 ≤ X 40 0 20 ∧ X 40 0 20 ≤ 4 := hR 40 0 20
  have q900011 : X1 40 0 20 = X 40 0 20 := by rw [hX1, u3_j _ _ _ _ (by decide)]
  refine x_if_ne (tgt := 15) hx hb (by omega) dX9_undo_9 (by decide) (fun c4 => ?_) (fun c4 => ?_)
  · refine lv_aload_n hx hb dX9_undo_15 rfl (lv_at hl 0 rfl) ?_
    refine lv_dup hx hb dX9_undo_16 rfl ?_
    refine x_geti (jz := 20) hx hb hf9 hw (by first | exact Int.le_refl 0 | omega) (by first | exact zlt hc40 | omega) sl_40_20 rfl lk165 dX9_undo_17 ?_
    have e5 : X1 40 0 20 = X 40 0 20 := by rw [hX1, u3_j _ _ _ _ (by decide)]
    rw [e5]
    have f6 : 0 ≤ X 40 0 20 ∧ X 40 0 20 ≤ 4 := hR 40 0 20
    refine lv_iconst (v := jI 1) hx hb dX9_undo_20 rfl ?_
    refine x_isub hx hb dX9_undo_21 ?_
    refine x_puti (jz := 20) hx hb hf9 ⟨tyX9_ok, nmX9⟩ hw hS (by first | exact Int.le_refl 0 | omega) (by first | exact zlt hc40 | omega) sl_40_20 rfl lk165 rfl (tyX9_ok 20 (by decide)) rfl rfl dX9_undo_22 (fun H locs hw hS => ?_)
    obtain ⟨X7, hX7⟩ : ∃ Xq, Xq = u3 X1 40 0 20 ((X 40 0 20) - 1) := ⟨_, rfl⟩
    rw [← hX7] at hw
    have hRX7 : Rng X7 := by rw [hX7]; exact rng_set hRX1 (show 0 ≤ ((X 40 0 20) - 1) ∧ ((X 40 0 20) - 1) ≤ 4 by omega)
    have hVX7 : X7 40 0 20 = ((X 40 0 20) - 1) := by rw [hX7]; exact u3_s _ _ _ _ _
    have hFX7 : Frm [4001, 4021, 4023, 5600, 5900] X X7 := by rw [hX7]; exact Frm.set hFX1 (show 4021 ∈ [4001, 4021, 4023, 5600, 5900] by first | exact nlm_in rfl | decide)
    refine lv_aload_n hx hb dX9_undo_25 rfl (lv_at hl 0 rfl) ?_
    refine x_geti (jz := 22) hx hb hf9 hw (by first | exact Int.le_refl 0 | omega) (by first | exact zlt hc40 | omega) sl_40_22 rfl lk173 dX9_undo_26 ?_
    have e8 : X7 40 0 22 = X 40 0 22 := by rw [hX7, u3_j _ _ _ _ (by decide), hX1, u3_j _ _ _ _ (by decide)]
    rw [e8]
    have f9 : 0 ≤ X 40 0 22 ∧ X 40 0 22 ≤ 80 := hR 40 0 22
    refine lv_aload_n hx hb dX9_undo_29 rfl (lv_at hl 0 rfl) ?_
    refine x_geto hx hb hf9 hw (by first | exact Int.le_refl 0 | omega) (by first | exact zlt hc40 | omega) sl_40_21 lk63 dX9_undo_30 ?_
    refine lv_aload_n hx hb dX9_undo_33 rfl (lv_at hl 0 rfl) ?_
    refine x_geti (jz := 20) hx hb hf9 hw (by first | exact Int.le_refl 0 | omega) (by first | exact zlt hc40 | omega) sl_40_20 rfl lk165 dX9_undo_34 ?_
    rw [hVX7]
    refine x_iald hx hb hK.1 hw (by first | exact Int.le_refl 0 | omega) (by first | exact zlt hc62 | omega) ar_62 (len_E ar_62 (by first | exact Nat.ne_of_beq_eq_false rfl | decide)) (by omega) (by omega) (by omega) dX9_undo_37 ?_
    have e10 : ∀ p9 q9 : Int, X7 62 p9 q9 = X 62 p9 q9 := fun p9 q9 => by rw [hX7, u3_k _ _ _ _ (by first | exact Nat.ne_of_beq_eq_false rfl | decide), hX1, u3_k _ _ _ _ (by first | exact Nat.ne_of_beq_eq_false rfl | decide)]
    rw [e10 0 ((X 40 0 20) - 1)]
    have f11 : 0 ≤ X 62 0 ((X 40 0 20) - 1) ∧ X 62 0 ((X 40 0 20) - 1) ≤ 80 := hR 62 0 ((X 40 0 20) - 1)
    refine x_isub hx hb dX9_undo_38 ?_
    refine lv_istore_n (lv' := [(1, .int (jI ((X 40 0 22) - (X 62 0 ((X 40 0 20) - 1))))), (0, .ref (ad 40 0))]) hx hb dX9_undo_39 rfl hl (by decide) rfl (fun ls hl => ?_)
    have lp40 : ∀ (nn : Nat)  (Xa : Nat → Int → Int → Int) (H : Heap) (locs : List Loc) (ls : Array Slot), (Xa 40 0 22) < (nn : Int) → (Rng Xa) → (Frm [4023, 5600, 5900] X7 Xa) → (MInv5 Xa) → (uTrM (X 40 0 22) ((X 40 0 22 - Xa 40 0 22).toNat) X7 Xa) → (Xa 40 0 22 ≤ X 40 0 22 ∧ (Xa 40 0 22 = X 40 0 22 ∨ X 62 0 (X 40 0 20 - 1) ≤ Xa 40 0 22)) → wd D tc base (ad, cnt, Xa, Y, ln) H → va_S (frA base) s.heap H locs → lv_has ls 2 [(0, .ref (ad 40 0)), (1, .int (jI ((X 40 0 22) - (X 62 0 ((X 40 0 20) - 1)))))] → W p l e ({ frames := 0, cells := 0, slots := 0, locals := 0 } : Room) s m av9 below meth c H locs 0 0 Q9 (F0 m 40 ls []) := by
      intro nn
      induction nn with
      | zero => intro  Xa H locs ls hm hRXa hGXa hM5 hTr hle hw hS hl; have h9 : 0 ≤ Xa 40 0 22 ∧ Xa 40 0 22 ≤ 80 := hRXa 40 0 22; exfalso; omega
      | succ nn ih40 =>
        intro  Xa H locs ls hm hRXa hGXa hM5 hTr hle hw hS hl
        have hFXa : Frm [4001, 4021, 4023, 5600, 5900] X Xa := Frm.tr hFX7 (Frm.mono hGXa (by first | exact nls_of rfl | decide))
        have e12 : ∀ j : Int, Xa 67 0 j = X 67 0 j := fun j => by rw [hGXa 67 0 j (show 6700 ∉ [4023, 5600, 5900] by first | exact nlm_ni rfl | decide), hX7, u3_k _ _ _ _ (by first | exact Nat.ne_of_beq_eq_false rfl | decide), hX1, u3_k _ _ _ _ (by first | exact Nat.ne_of_beq_eq_false rfl | decide)]
        have e13 : ∀ j : Int, Xa 64 0 j = X 64 0 j := fun j => by rw [hGXa 64 0 j (show 6400 ∉ [4023, 5600, 5900] by first | exact nlm_ni rfl | decide), hX7, u3_k _ _ _ _ (by first | exact Nat.ne_of_beq_eq_false rfl | decide), hX1, u3_k _ _ _ _ (by first | exact Nat.ne_of_beq_eq_false rfl | decide)]
        have e14 : ∀ j : Int, Xa 65 0 j = X 65 0 j := fun j => by rw [hGXa 65 0 j (show 6500 ∉ [4023, 5600, 5900] by first | exact nlm_ni rfl | decide), hX7, u3_k _ _ _ _ (by first | exact Nat.ne_of_beq_eq_false rfl | decide), hX1, u3_k _ _ _ _ (by first | exact Nat.ne_of_beq_eq_false rfl | decide)]
        have e15 : ∀ j : Int, Xa 66 0 j = X 66 0 j := fun j => by rw [hGXa 66 0 j (show 6600 ∉ [4023, 5600, 5900] by first | exact nlm_ni rfl | decide), hX7, u3_k _ _ _ _ (by first | exact Nat.ne_of_beq_eq_false rfl | decide), hX1, u3_k _ _ _ _ (by first | exact Nat.ne_of_beq_eq_false rfl | decide)]
        have e16 : ∀ j : Int, Xa 68 0 j = X 68 0 j := fun j => by rw [hGXa 68 0 j (show 6800 ∉ [4023, 5600, 5900] by first | exact nlm_ni rfl | decide), hX7, u3_k _ _ _ _ (by first | exact Nat.ne_of_beq_eq_false rfl | decide), hX1, u3_k _ _ _ _ (by first | exact Nat.ne_of_beq_eq_false rfl | decide)]
        have e17 : ∀ j : Int, Xa 44 0 j = X 44 0 j := fun j => by rw [hGXa 44 0 j (show 4400 ∉ [4023, 5600, 5900] by first | exact nlm_ni rfl | decide), hX7, u3_k _ _ _ _ (by first | exact Nat.ne_of_beq_eq_false rfl | decide), hX1, u3_k _ _ _ _ (by first | exact Nat.ne_of_beq_eq_false rfl | decide)]
        have e18 : ∀ j : Int, Xa 55 0 j = X 55 0 j := fun j => by rw [hGXa 55 0 j (show 5500 ∉ [4023, 5600, 5900] by first | exact nlm_ni rfl | decide), hX7, u3_k _ _ _ _ (by first | exact Nat.ne_of_beq_eq_false rfl | decide), hX1, u3_k _ _ _ _ (by first | exact Nat.ne_of_beq_eq_false rfl | decide)]
        have e19 : ∀ j : Int, Xa 46 0 j = X 46 0 j := fun j => by rw [hGXa 46 0 j (show 4600 ∉ [4023, 5600, 5900] by first | exact nlm_ni rfl | decide), hX7, u3_k _ _ _ _ (by first | exact Nat.ne_of_beq_eq_false rfl | decide), hX1, u3_k _ _ _ _ (by first | exact Nat.ne_of_beq_eq_false rfl | decide)]
        have e20 : Xa 40 0 13 = X 40 0 13 := by rw [hGXa 40 0 13 (show 4014 ∉ [4023, 5600, 5900] by first | exact nlm_ni rfl | decide), hX7, u3_j _ _ _ _ (by decide), hX1, u3_j _ _ _ _ (by decide)]
        have hD5 := hM5.2.2.2.1
        unfold mD at hD5
        simp only [e12, e13, e14, e15, e16, e17, e18, e19, e20] at hD5
        have hN5 : 0 ≤ Xa 40 0 22 ∧ Xa 40 0 22 ≤ 80 := hRXa 40 0 22
        refine lv_aload_n hx hb dX9_undo_40 rfl (lv_at hl 0 rfl) ?_
        refine x_geti (jz := 22) hx hb hf9 hw (by first | exact Int.le_refl 0 | omega) (by first | exact zlt hc40 | omega) sl_40_22 rfl lk173 dX9_undo_41 ?_
        have f21 : 0 ≤ Xa 40 0 22 ∧ Xa 40 0 22 ≤ 80 := hRXa 40 0 22
        refine lv_aload_n hx hb dX9_undo_44 rfl (lv_at hl 0 rfl) ?_
        refine x_geto hx hb hf9 hw (by first | exact Int.le_refl 0 | omega) (by first | exact zlt hc40 | omega) sl_40_21 lk63 dX9_undo_45 ?_
        refine lv_aload_n hx hb dX9_undo_48 rfl (lv_at hl 0 rfl) ?_
        refine x_geti (jz := 20) hx hb hf9 hw (by first | exact Int.le_refl 0 | omega) (by first | exact zlt hc40 | omega) sl_40_20 rfl lk165 dX9_undo_49 ?_
        have e22 : Xa 40 0 20 = X7 40 0 20 := by rw [hGXa 40 0 20 (show 4021 ∉ [4023, 5600, 5900] by first | exact nlm_ni rfl | decide)]
        rw [e22]
        rw [hVX7]
        refine x_iald hx hb hK.1 hw (by first | exact Int.le_refl 0 | omega) (by first | exact zlt hc62 | omega) ar_62 (len_E ar_62 (by first | exact Nat.ne_of_beq_eq_false rfl | decide)) (by omega) (by omega) (by omega) dX9_undo_52 ?_
        have e23 : ∀ p9 q9 : Int, Xa 62 p9 q9 = X 62 p9 q9 := fun p9 q9 => by rw [hGXa 62 p9 q9 (show 6200 ∉ [4023, 5600, 5900] by first | exact nlm_ni rfl | decide), hX7, u3_k _ _ _ _ (by first | exact Nat.ne_of_beq_eq_false rfl | decide), hX1, u3_k _ _ _ _ (by first | exact Nat.ne_of_beq_eq_false rfl | decide)]
        rw [e23 0 ((X 40 0 20) - 1)]
        have f24 : 0 ≤ X 62 0 ((X 40 0 20) - 1) ∧ X 62 0 ((X 40 0 20) - 1) ≤ 80 := hR 62 0 ((X 40 0 20) - 1)
        refine x_icmp_le (tgt := 155) hx hb (by omega) (by omega) dX9_undo_53 (by decide) (fun c25 => ?_) (fun c25 => ?_)
        · refine lv_iload_n hx hb dX9_undo_155 rfl (lv_at hl 1 rfl) ?_
          rw [hQ9]
          refine ret_i (mc := 0) (ms := 0) hx hb hr hlocks hw hS (by first | exact Nat.le_of_ble_eq_true rfl | omega) (by first | exact Nat.le_of_ble_eq_true rfl | omega) dX9_undo_156 ?_
          have q26 : Frm [4001, 4021] X X1 := by rw [hX1]; exact Frm.set Frm.rf (show 4001 ∈ [4001, 4021] by first | exact nlm_in rfl | decide)
          have q27 : Frm [4001, 4021] X X7 := by rw [hX7]; exact Frm.set q26 (show 4021 ∈ [4001, 4021] by first | exact nlm_in rfl | decide)
          have e28 : Xa 40 0 20 = ((X 40 0 20) - 1) := (by rw [hGXa 40 0 20 (show 4021 ∉ [4023, 5600, 5900] by first | exact nlm_ni rfl | decide)]; exact hVX7)
          exact ⟨Xa, rfl, hRXa, hFXa, minv_undo_end (m := X 40 0 20 - 1) hMI hM5 (by rw [hGXa 40 0 20 (show 4021 ∉ [4023, 5600, 5900] by first | exact nlm_ni rfl | decide)]; exact hVX7) (by omega) (by omega) (fun j => (by rw [hGXa 62 0 j (show 6200 ∉ [4023, 5600, 5900] by first | exact nlm_ni rfl | decide), hX7, u3_k _ _ _ _ (by first | exact Nat.ne_of_beq_eq_false rfl | decide), hX1, u3_k _ _ _ _ (by first | exact Nat.ne_of_beq_eq_false rfl | decide)])) (by omega) (by omega), by omega, (by (try delta Hid at *); omega), fun q => (by exfalso; omega), fun _ => ⟨X7, q27, (by exact hVX7), by omega, by omega, by omega, hTr⟩⟩
        · refine lv_aload_n hx hb dX9_undo_56 rfl (lv_at hl 0 rfl) ?_
          refine lv_dup hx hb dX9_undo_57 rfl ?_
          refine x_geti (jz := 22) hx hb hf9 hw (by first | exact Int.le_refl 0 | omega) (by first | exact zlt hc40 | omega) sl_40_22 rfl lk173 dX9_undo_58 ?_
          have f29 : 0 ≤ Xa 40 0 22 ∧ Xa 40 0 22 ≤ 80 := hRXa 40 0 22
          refine lv_iconst (v := jI 1) hx hb dX9_undo_61 rfl ?_
          refine x_isub hx hb dX9_undo_62 ?_
          refine x_puti (jz := 22) hx hb hf9 ⟨tyX9_ok, nmX9⟩ hw hS (by first | exact Int.le_refl 0 | omega) (by first | exact zlt hc40 | omega) sl_40_22 rfl lk173 rfl (tyX9_ok 22 (by decide)) rfl rfl dX9_undo_63 (fun H locs hw hS => ?_)
          obtain ⟨X30, hX30⟩ : ∃ Xq, Xq = u3 Xa 40 0 22 ((Xa 40 0 22) - 1) := ⟨_, rfl⟩
          rw [← hX30] at hw
          have hRX30 : Rng X30 := by rw [hX30]; exact rng_set hRXa (show 0 ≤ ((Xa 40 0 22) - 1) ∧ ((Xa 40 0 22) - 1) ≤ 80 by omega)
          have hVX30 : X30 40 0 22 = ((Xa 40 0 22) - 1) := by rw [hX30]; exact u3_s _ _ _ _ _
          have hFX30 : Frm [4001, 4021, 4023, 5600, 5900] X X30 := by rw [hX30]; exact Frm.set hFXa (show 4023 ∈ [4001, 4021, 4023, 5600, 5900] by first | exact nlm_in rfl | decide)
          have hD6 := hD5 (Xa 40 0 22 - 1) (by omega) (by omega)
          refine lv_aload_n hx hb dX9_undo_66 rfl (lv_at hl 0 rfl) ?_
          refine x_geto hx hb hf9 hw (by first | exact Int.le_refl 0 | omega) (by first | exact zlt hc40 | omega) sl_40_26 lk75 dX9_undo_67 ?_
          refine lv_aload_n hx hb dX9_undo_70 rfl (lv_at hl 0 rfl) ?_
          refine x_geti (jz := 22) hx hb hf9 hw (by first | exact Int.le_refl 0 | omega) (by first | exact zlt hc40 | omega) sl_40_22 rfl lk173 dX9_undo_71 ?_
          rw [hVX30]
          refine x_iald hx hb hK.1 hw (by first | exact Int.le_refl 0 | omega) (by first | exact zlt hc67 | omega) ar_67 (len_E ar_67 (by first | exact Nat.ne_of_beq_eq_false rfl | decide)) (by omega) (by omega) (by omega) dX9_undo_74 ?_
          have e31 : ∀ p9 q9 : Int, X30 67 p9 q9 = X 67 p9 q9 := fun p9 q9 => by rw [hX30, u3_k _ _ _ _ (by first | exact Nat.ne_of_beq_eq_false rfl | decide), hGXa 67 p9 q9 (show 6700 ∉ [4023, 5600, 5900] by first | exact nlm_ni rfl | decide), hX7, u3_k _ _ _ _ (by first | exact Nat.ne_of_beq_eq_false rfl | decide), hX1, u3_k _ _ _ _ (by first | exact Nat.ne_of_beq_eq_false rfl | decide)]
          rw [e31 0 ((Xa 40 0 22) - 1)]
          have f32 : (-1) ≤ X 67 0 ((Xa 40 0 22) - 1) ∧ X 67 0 ((Xa 40 0 22) - 1) ≤ 11 := hR 67 0 ((Xa 40 0 22) - 1)
          have q900010 : Frm [4001, 4021, 4023, 5600, 5900] X X1 := by rw [hX1]; exact Frm.set Frm.rf (show 4001 ∈ [4001, 4021, 4023, 5600, 5900] by first | exact nlm_in rfl | decide)
          have q900012 : Frm [4001, 4021, 4023, 5600, 5900] X X7 := by rw [hX7]; exact Frm.set q900010 (show 4021 ∈ [4001, 4021, 4023, 5600, 5900] by first | exact nlm_in rfl | decide)
          have q900013 : Frm [4001, 4021, 4023, 5600, 5900] X Xa := Frm.tr q900012 (Frm.mono hGXa (by first | exact nls_of rfl | decide))
          have q900014 : Frm [4023, 5600, 5900] X7 Xa := Frm.tr Frm.rf (Frm.mono hGXa (by first | exact nls_of rfl | decide))
          have q900015 : Frm [4023, 5600, 5900] X7 X30 := by rw [hX30]; exact Frm.set q900014 (show 4023 ∈ [4023, 5600, 5900] by first | exact nlm_in rfl | decide)
          refine x_if_ge (tgt := 116) hx hb (by omega) dX9_undo_75 (by decide) (fun c33 => ?_) (fun c33 => ?_)
          · refine lv_aload_n hx hb dX9_undo_116 rfl (lv_at hl 0 rfl) ?_
            refine x_geto hx hb hf9 hw (by first | exact Int.le_refl 0 | omega) (by first | exact zlt hc40 | omega) sl_40_18 lk57 dX9_undo_117 ?_
            refine lv_bipush (v := jI 12) hx hb dX9_undo_120 (by decide) ?_
            refine lv_aload_n hx hb dX9_undo_122 rfl (lv_at hl 0 rfl) ?_
            refine x_geto hx hb hf9 hw (by first | exact Int.le_refl 0 | omega) (by first | exact zlt hc40 | omega) sl_40_25 lk72 dX9_undo_123 ?_
            refine lv_aload_n hx hb dX9_undo_126 rfl (lv_at hl 0 rfl) ?_
            refine x_geti (jz := 22) hx hb hf9 hw (by first | exact Int.le_refl 0 | omega) (by first | exact zlt hc40 | omega) sl_40_22 rfl lk173 dX9_undo_127 ?_
            rw [hVX30]
            refine x_iald hx hb hK.1 hw (by first | exact Int.le_refl 0 | omega) (by first | exact zlt hc66 | omega) ar_66 (len_E ar_66 (by first | exact Nat.ne_of_beq_eq_false rfl | decide)) (by omega) (by omega) (by omega) dX9_undo_130 ?_
            have e34 : ∀ p9 q9 : Int, X30 66 p9 q9 = X 66 p9 q9 := fun p9 q9 => by rw [hX30, u3_k _ _ _ _ (by first | exact Nat.ne_of_beq_eq_false rfl | decide), hGXa 66 p9 q9 (show 6600 ∉ [4023, 5600, 5900] by first | exact nlm_ni rfl | decide), hX7, u3_k _ _ _ _ (by first | exact Nat.ne_of_beq_eq_false rfl | decide), hX1, u3_k _ _ _ _ (by first | exact Nat.ne_of_beq_eq_false rfl | decide)]
            rw [e34 0 ((Xa 40 0 22) - 1)]
            have f35 : (-1) ≤ X 66 0 ((Xa 40 0 22) - 1) ∧ X 66 0 ((Xa 40 0 22) - 1) ≤ 399 := hR 66 0 ((Xa 40 0 22) - 1)
            refine x_imul hx hb dX9_undo_131 ?_
            refine lv_aload_n hx hb dX9_undo_132 rfl (lv_at hl 0 rfl) ?_
            refine x_geto hx hb hf9 hw (by first | exact Int.le_refl 0 | omega) (by first | exact zlt hc40 | omega) sl_40_26 lk75 dX9_undo_133 ?_
            refine lv_aload_n hx hb dX9_undo_136 rfl (lv_at hl 0 rfl) ?_
            refine x_geti (jz := 22) hx hb hf9 hw (by first | exact Int.le_refl 0 | omega) (by first | exact zlt hc40 | omega) sl_40_22 rfl lk173 dX9_undo_137 ?_
            rw [hVX30]
            refine x_iald hx hb hK.1 hw (by first | exact Int.le_refl 0 | omega) (by first | exact zlt hc67 | omega) ar_67 (len_E ar_67 (by first | exact Nat.ne_of_beq_eq_false rfl | decide)) (by omega) (by omega) (by omega) dX9_undo_140 ?_
            have e36 : ∀ p9 q9 : Int, X30 67 p9 q9 = X 67 p9 q9 := fun p9 q9 => by rw [hX30, u3_k _ _ _ _ (by first | exact Nat.ne_of_beq_eq_false rfl | decide), hGXa 67 p9 q9 (show 6700 ∉ [4023, 5600, 5900] by first | exact nlm_ni rfl | decide), hX7, u3_k _ _ _ _ (by first | exact Nat.ne_of_beq_eq_false rfl | decide), hX1, u3_k _ _ _ _ (by first | exact Nat.ne_of_beq_eq_false rfl | decide)]
            rw [e36 0 ((Xa 40 0 22) - 1)]
            have f37 : (-1) ≤ X 67 0 ((Xa 40 0 22) - 1) ∧ X 67 0 ((Xa 40 0 22) - 1) ≤ 11 := hR 67 0 ((Xa 40 0 22) - 1)
            refine x_iadd hx hb dX9_undo_141 ?_
            refine lv_aload_n hx hb dX9_undo_142 rfl (lv_at hl 0 rfl) ?_
            refine x_geto hx hb hf9 hw (by first | exact Int.le_refl 0 | omega) (by first | exact zlt hc40 | omega) sl_40_27 lk78 dX9_undo_143 ?_
            refine lv_aload_n hx hb dX9_undo_146 rfl (lv_at hl 0 rfl) ?_
            refine x_geti (jz := 22) hx hb hf9 hw (by first | exact Int.le_refl 0 | omega) (by first | exact zlt hc40 | omega) sl_40_22 rfl lk173 dX9_undo_147 ?_
            rw [hVX30]
            refine x_lald hx hb hK.1 hw (by first | exact Int.le_refl 0 | omega) (by first | exact zlt hc68 | omega) ar_68 (len_E ar_68 (by first | exact Nat.ne_of_beq_eq_false rfl | decide)) (by omega) (by omega) (by omega) dX9_undo_150 ?_
            have e38 : ∀ p9 q9 : Int, X30 68 p9 q9 = X 68 p9 q9 := fun p9 q9 => by rw [hX30, u3_k _ _ _ _ (by first | exact Nat.ne_of_beq_eq_false rfl | decide), hGXa 68 p9 q9 (show 6800 ∉ [4023, 5600, 5900] by first | exact nlm_ni rfl | decide), hX7, u3_k _ _ _ _ (by first | exact Nat.ne_of_beq_eq_false rfl | decide), hX1, u3_k _ _ _ _ (by first | exact Nat.ne_of_beq_eq_false rfl | decide)]
            rw [e38 0 ((Xa 40 0 22) - 1)]
            have f39 : (-9223372036854775808) ≤ X 68 0 ((Xa 40 0 22) - 1) ∧ X 68 0 ((Xa 40 0 22) - 1) ≤ 9223372036854775807 := hR 68 0 ((Xa 40 0 22) - 1)
            refine x_last hx hb hK.1 hw hS (by first | exact Int.le_refl 0 | omega) (by first | exact zlt hc59 | omega) ar_59 (len_E ar_59 (by first | exact Nat.ne_of_beq_eq_false rfl | decide)) (by omega) (by omega) (by omega) dX9_undo_151 (fun H locs hw hS => ?_)
            obtain ⟨X40, hX40⟩ : ∃ Xq, Xq = u3 X30 59 0 ((12 * (X 66 0 ((Xa 40 0 22) - 1))) + (X 67 0 ((Xa 40 0 22) - 1))) (X 68 0 ((Xa 40 0 22) - 1)) := ⟨_, rfl⟩
            rw [← hX40] at hw
            have hRX40 : Rng X40 := by rw [hX40]; exact rng_set hRX30 (show (-9223372036854775808) ≤ (X 68 0 ((Xa 40 0 22) - 1)) ∧ (X 68 0 ((Xa 40 0 22) - 1)) ≤ 9223372036854775807 by omega)
            have hVX40 : X40 59 0 ((12 * (X 66 0 ((Xa 40 0 22) - 1))) + (X 67 0 ((Xa 40 0 22) - 1))) = (X 68 0 ((Xa 40 0 22) - 1)) := by rw [hX40]; exact u3_s _ _ _ _ _
            have hFX40 : Frm [4001, 4021, 4023, 5600, 5900] X X40 := by rw [hX40]; exact Frm.set hFX30 (show 5900 ∈ [4001, 4021, 4023, 5600, 5900] by first | exact nlm_in rfl | decide)
            refine lv_goto (tgt := 40) hx hb dX9_undo_152 (by decide) ?_
            have q43 : Frm [4023, 5600, 5900] X7 X40 := by rw [hX40]; exact Frm.set q900015 (show 5900 ∈ [4023, 5600, 5900] by first | exact nlm_in rfl | decide)
            have e44 : X40 40 0 22 = X30 40 0 22 := by rw [hX40, u3_k _ _ _ _ (by first | exact Nat.ne_of_beq_eq_false rfl | decide)]
            have f48 : Xa 64 = X 64 := Frm.arr q900013 64 (by decide +kernel) (by decide)
            have f49 : Xa 65 = X 65 := Frm.arr q900013 65 (by decide +kernel) (by decide)
            have f50 : Xa 66 = X 66 := Frm.arr q900013 66 (by decide +kernel) (by decide)
            have f51 : Xa 67 = X 67 := Frm.arr q900013 67 (by decide +kernel) (by decide)
            have f52 : Xa 68 = X 68 := Frm.arr q900013 68 (by decide +kernel) (by decide)
            exact ih40  X40 _ _ _ (by omega) hRX40 q43 (minv5_undo_r hM5 (by omega) hX30 hX40) (uTrM.push hTr (by omega) ⟨by omega, Or.inr ⟨(by rw [f51]; omega), (by rw [f50, f51, f52, hX40, hX30])⟩⟩ (by rw [hX40, u3_k _ _ _ _ (by first | exact Nat.ne_of_beq_eq_false rfl | decide), hX30, u3_s])) (by first | omega | (simp only [e44]; omega)) hw hS (lv_sub hl [0, 1] rfl)
          · refine lv_aload_n hx hb dX9_undo_78 rfl (lv_at hl 0 rfl) ?_
            refine x_geto hx hb hf9 hw (by first | exact Int.le_refl 0 | omega) (by first | exact zlt hc40 | omega) sl_40_15 lk48 dX9_undo_79 ?_
            refine lv_iconst (v := jI 5) hx hb dX9_undo_82 rfl ?_
            refine lv_aload_n hx hb dX9_undo_83 rfl (lv_at hl 0 rfl) ?_
            refine x_geto hx hb hf9 hw (by first | exact Int.le_refl 0 | omega) (by first | exact zlt hc40 | omega) sl_40_23 lk66 dX9_undo_84 ?_
            refine lv_aload_n hx hb dX9_undo_87 rfl (lv_at hl 0 rfl) ?_
            refine x_geti (jz := 22) hx hb hf9 hw (by first | exact Int.le_refl 0 | omega) (by first | exact zlt hc40 | omega) sl_40_22 rfl lk173 dX9_undo_88 ?_
            rw [hVX30]
            refine x_iald hx hb hK.1 hw (by first | exact Int.le_refl 0 | omega) (by first | exact zlt hc64 | omega) ar_64 (len_E ar_64 (by first | exact Nat.ne_of_beq_eq_false rfl | decide)) (by omega) (by omega) (by omega) dX9_undo_91 ?_
            have e53 : ∀ p9 q9 : Int, X30 64 p9 q9 = X 64 p9 q9 := fun p9 q9 => by rw [hX30, u3_k _ _ _ _ (by first | exact Nat.ne_of_beq_eq_false rfl | decide), hGXa 64 p9 q9 (show 6400 ∉ [4023, 5600, 5900] by first | exact nlm_ni rfl | decide), hX7, u3_k _ _ _ _ (by first | exact Nat.ne_of_beq_eq_false rfl | decide), hX1, u3_k _ _ _ _ (by first | exact Nat.ne_of_beq_eq_false rfl | decide)]
            rw [e53 0 ((Xa 40 0 22) - 1)]
            have f54 : 0 ≤ X 64 0 ((Xa 40 0 22) - 1) ∧ X 64 0 ((Xa 40 0 22) - 1) ≤ 29 := hR 64 0 ((Xa 40 0 22) - 1)
            refine x_imul hx hb dX9_undo_92 ?_
            refine lv_aload_n hx hb dX9_undo_93 rfl (lv_at hl 0 rfl) ?_
            refine x_geto hx hb hf9 hw (by first | exact Int.le_refl 0 | omega) (by first | exact zlt hc40 | omega) sl_40_24 lk69 dX9_undo_94 ?_
            refine lv_aload_n hx hb dX9_undo_97 rfl (lv_at hl 0 rfl) ?_
            refine x_geti (jz := 22) hx hb hf9 hw (by first | exact Int.le_refl 0 | omega) (by first | exact zlt hc40 | omega) sl_40_22 rfl lk173 dX9_undo_98 ?_
            rw [hVX30]
            refine x_iald hx hb hK.1 hw (by first | exact Int.le_refl 0 | omega) (by first | exact zlt hc65 | omega) ar_65 (len_E ar_65 (by first | exact Nat.ne_of_beq_eq_false rfl | decide)) (by omega) (by omega) (by omega) dX9_undo_101 ?_
            have e55 : ∀ p9 q9 : Int, X30 65 p9 q9 = X 65 p9 q9 := fun p9 q9 => by rw [hX30, u3_k _ _ _ _ (by first | exact Nat.ne_of_beq_eq_false rfl | decide), hGXa 65 p9 q9 (show 6500 ∉ [4023, 5600, 5900] by first | exact nlm_ni rfl | decide), hX7, u3_k _ _ _ _ (by first | exact Nat.ne_of_beq_eq_false rfl | decide), hX1, u3_k _ _ _ _ (by first | exact Nat.ne_of_beq_eq_false rfl | decide)]
            rw [e55 0 ((Xa 40 0 22) - 1)]
            have f56 : 0 ≤ X 65 0 ((Xa 40 0 22) - 1) ∧ X 65 0 ((Xa 40 0 22) - 1) ≤ 4 := hR 65 0 ((Xa 40 0 22) - 1)
            refine x_iadd hx hb dX9_undo_102 ?_
            refine lv_aload_n hx hb dX9_undo_103 rfl (lv_at hl 0 rfl) ?_
            refine x_geto hx hb hf9 hw (by first | exact Int.le_refl 0 | omega) (by first | exact zlt hc40 | omega) sl_40_27 lk78 dX9_undo_104 ?_
            refine lv_aload_n hx hb dX9_undo_107 rfl (lv_at hl 0 rfl) ?_
            refine x_geti (jz := 22) hx hb hf9 hw (by first | exact Int.le_refl 0 | omega) (by first | exact zlt hc40 | omega) sl_40_22 rfl lk173 dX9_undo_108 ?_
            rw [hVX30]
            refine x_lald hx hb hK.1 hw (by first | exact Int.le_refl 0 | omega) (by first | exact zlt hc68 | omega) ar_68 (len_E ar_68 (by first | exact Nat.ne_of_beq_eq_false rfl | decide)) (by omega) (by omega) (by omega) dX9_undo_111 ?_
            have e57 : ∀ p9 q9 : Int, X30 68 p9 q9 = X 68 p9 q9 := fun p9 q9 => by rw [hX30, u3_k _ _ _ _ (by first | exact Nat.ne_of_beq_eq_false rfl | decide), hGXa 68 p9 q9 (show 6800 ∉ [4023, 5600, 5900] by first | exact nlm_ni rfl | decide), hX7, u3_k _ _ _ _ (by first | exact Nat.ne_of_beq_eq_false rfl | decide), hX1, u3_k _ _ _ _ (by first | exact Nat.ne_of_beq_eq_false rfl | decide)]
            rw [e57 0 ((Xa 40 0 22) - 1)]
            have f58 : (-9223372036854775808) ≤ X 68 0 ((Xa 40 0 22) - 1) ∧ X 68 0 ((Xa 40 0 22) - 1) ≤ 9223372036854775807 := hR 68 0 ((Xa 40 0 22) - 1)
            refine x_last hx hb hK.1 hw hS (by first | exact Int.le_refl 0 | omega) (by first | exact zlt hc56 | omega) ar_56 (len_E ar_56 (by first | exact Nat.ne_of_beq_eq_false rfl | decide)) (by omega) (by omega) (by omega) dX9_undo_112 (fun H locs hw hS => ?_)
            obtain ⟨X59, hX59⟩ : ∃ Xq, Xq = u3 X30 56 0 ((5 * (X 64 0 ((Xa 40 0 22) - 1))) + (X 65 0 ((Xa 40 0 22) - 1))) (X 68 0 ((Xa 40 0 22) - 1)) := ⟨_, rfl⟩
            rw [← hX59] at hw
            have hRX59 : Rng X59 := by rw [hX59]; exact rng_set hRX30 (show (-9223372036854775808) ≤ (X 68 0 ((Xa 40 0 22) - 1)) ∧ (X 68 0 ((Xa 40 0 22) - 1)) ≤ 9223372036854775807 by omega)
            have hVX59 : X59 56 0 ((5 * (X 64 0 ((Xa 40 0 22) - 1))) + (X 65 0 ((Xa 40 0 22) - 1))) = (X 68 0 ((Xa 40 0 22) - 1)) := by rw [hX59]; exact u3_s _ _ _ _ _
            have hFX59 : Frm [4001, 4021, 4023, 5600, 5900] X X59 := by rw [hX59]; exact Frm.set hFX30 (show 5600 ∈ [4001, 4021, 4023, 5600, 5900] by first | exact nlm_in rfl | decide)
            refine lv_goto (tgt := 40) hx hb dX9_undo_113 (by decide) ?_
            have q62 : Frm [4023, 5600, 5900] X7 X59 := by rw [hX59]; exact Frm.set q900015 (show 5600 ∈ [4023, 5600, 5900] by first | exact nlm_in rfl | decide)
            have e63 : X59 40 0 22 = X30 40 0 22 := by rw [hX59, u3_k _ _ _ _ (by first | exact Nat.ne_of_beq_eq_false rfl | decide)]
            have f67 : Xa 64 = X 64 := Frm.arr q900013 64 (by decide +kernel) (by decide)
            have f68 : Xa 65 = X 65 := Frm.arr q900013 65 (by decide +kernel) (by decide)
            have f69 : Xa 66 = X 66 := Frm.arr q900013 66 (by decide +kernel) (by decide)
            have f70 : Xa 67 = X 67 := Frm.arr q900013 67 (by decide +kernel) (by decide)
            have f71 : Xa 68 = X 68 := Frm.arr q900013 68 (by decide +kernel) (by decide)
            exact ih40  X59 _ _ _ (by omega) hRX59 q62 (minv5_undo_x hM5 hRX30 (by omega) (by omega) (by rw [hGXa 67 0 (Xa 40 0 22 - 1) (show 6700 ∉ [4023, 5600, 5900] by first | exact nlm_ni rfl | decide), hX7, u3_k _ _ _ _ (by first | exact Nat.ne_of_beq_eq_false rfl | decide), hX1, u3_k _ _ _ _ (by first | exact Nat.ne_of_beq_eq_false rfl | decide)]; omega) hX30 (by rw [hGXa 64 0 (Xa 40 0 22 - 1) (show 6400 ∉ [4023, 5600, 5900] by first | exact nlm_ni rfl | decide), hX7, u3_k _ _ _ _ (by first | exact Nat.ne_of_beq_eq_false rfl | decide), hX1, u3_k _ _ _ _ (by first | exact Nat.ne_of_beq_eq_false rfl | decide)]) (by rw [hGXa 65 0 (Xa 40 0 22 - 1) (show 6500 ∉ [4023, 5600, 5900] by first | exact nlm_ni rfl | decide), hX7, u3_k _ _ _ _ (by first | exact Nat.ne_of_beq_eq_false rfl | decide), hX1, u3_k _ _ _ _ (by first | exact Nat.ne_of_beq_eq_false rfl | decide)]) (by rw [hGXa 68 0 (Xa 40 0 22 - 1) (show 6800 ∉ [4023, 5600, 5900] by first | exact nlm_ni rfl | decide), hX7, u3_k _ _ _ _ (by first | exact Nat.ne_of_beq_eq_false rfl | decide), hX1, u3_k _ _ _ _ (by first | exact Nat.ne_of_beq_eq_false rfl | decide)]) (hR 64 0 _).1 (hR 65 0 _).1 hX59) (uTrM.push hTr (by omega) ⟨by omega, Or.inl ⟨(by rw [f70]; omega), (by rw [f67, f68, f71, hX59, hX30])⟩⟩ (by rw [hX59, u3_k _ _ _ _ (by first | exact Nat.ne_of_beq_eq_false rfl | decide), hX30, u3_s])) (by first | omega | (simp only [e63]; omega)) hw hS (lv_sub hl [0, 1] rfl)
    have e72 : X7 40 0 22 = X 40 0 22 := by rw [hX7, u3_j _ _ _ _ (by decide), hX1, u3_j _ _ _ _ (by decide)]
    have q73 : Frm [4001, 4021] X X1 := by rw [hX1]; exact Frm.set Frm.rf (show 4001 ∈ [4001, 4021] by first | exact nlm_in rfl | decide)
    have q74 : Frm [4001, 4021] X X7 := by rw [hX7]; exact Frm.set q73 (show 4021 ∈ [4001, 4021] by first | exact nlm_in rfl | decide)
    exact lp40 (X7 40 0 22 : Int).toNat.succ  X7 _ _ _ (by omega) hRX7 Frm.rf (minv5_frm ⟨hMI.1, hMI.2.1, hMI.2.2.1, hMI.2.2.2.1, hMI.2.2.2.2.2⟩ q74 (by decide)) ((by rw [show (X 40 0 22 - X7 40 0 22).toNat = 0 by (rw [show X7 40 0 22 = X 40 0 22 from (by rw [hX7, u3_j _ _ _ _ (by decide), hX1, u3_j _ _ _ _ (by decide)])]; omega)]; rfl)) (by first | omega | (simp only [e72]; omega)) hw hS (lv_sub hl [1, 0] rfl)
  · refine lv_bipush (v := jI (-3)) hx hb dX9_undo_12 (by decide) ?_
    rw [hQ9]
    refine ret_i (mc := 0) (ms := 0) hx hb hr hlocks hw hS (by first | exact Nat.le_of_ble_eq_true rfl | omega) (by first | exact Nat.le_of_ble_eq_true rfl | omega) dX9_undo_14 ?_
    have q76 : Frm [4001] X X1 := by rw [hX1]; exact Frm.set Frm.rf (show 4001 ∈ [4001] by first | exact nlm_in rfl | decide)
    have hMq75 : MInv X1 := minv_frm hMI q76 (by decide)
    exact ⟨X1, rfl, hRX1, hFX1, hMq75, by omega, (by (try delta Hid at *); omega), fun _ => ⟨q76, by omega⟩, fun q => (by exfalso; omega)⟩
end
section
set_option maxHeartbeats 4000000 in
set_option maxRecDepth 100000 in
theorem c_X9_save (l : Launch) (D : va_G) (tc : Nat → ClassId) (base : Nat) (ad : Nat → Int → Nat) (cnt : Nat → Int) (X : Nat → Int → Int → Int) (Y : Nat → Int → Int → Option Int) (ln : Int → Int) (hR : Rng X) (hFx : Fx cnt) (hMI : MInv X) (sv x : Int) (hsv : -2147483648 ≤ sv ∧ sv ≤ 2147483647) (hx : -2147483648 ≤ x ∧ x ≤ 2147483647) : KI l D tc base yX9_save wsX9_save ({ frames := 2, cells := 0, slots := 0, locals := 53 } : Room) [.ref (ad 40 0), .int (jI sv), .int (jI x)] (ad, cnt, X, Y, ln) 0 0 (fun z u => ∃ X1 : Nat → Int → Int → Int, u = (ad, cnt, X1, Y, ln) ∧ Rng X1 ∧ Frm [4001, 7100, 7200, 7300, 7400, 7500, 8000, 7000, 8100, 7700, 7800, 7900, 7600, 4042, 4043, 4044] X X1 ∧ MInv X1 ∧ (-2147483648 ≤ z ∧ z ≤ 2147483647) ∧ ((¬ ((0 ≤ sv ∧ sv < 4) ∧ (0 ≤ x ∧ x < X 40 0 13)) ∧ z = -1 ∧ Frm [4001] X X1) ∨ (((0 ≤ sv ∧ sv < 4) ∧ (0 ≤ x ∧ x < X 40 0 13)) ∧ z = -20 ∧ (∃ r k, 0 ≤ r ∧ r < recR (fcM X) (lnM X) (mRid X) (mRid X) x 30 0 0 ∧ 0 ≤ k ∧ k < fcM X (recR (fcM X) (lnM X) (mRid X) (mRid X) x 30 1 r) ∧ X 48 0 (5 * X 55 0 (recR (fcM X) (lnM X) (mRid X) (mRid X) x 30 1 r) + k) ≠ 0) ∧ S4 X X1 ∧ S5 X X1) ∨ (((0 ≤ sv ∧ sv < 4) ∧ (0 ≤ x ∧ x < X 40 0 13)) ∧ z = recR (fcM X) (lnM X) (mRid X) (mRid X) x 30 0 0 ∧ 0 ≤ z ∧ (∀ r k, 0 ≤ r → r < recR (fcM X) (lnM X) (mRid X) (mRid X) x 30 0 0 → 0 ≤ k → k < fcM X (recR (fcM X) (lnM X) (mRid X) (mRid X) x 30 1 r) → X 48 0 (5 * X 55 0 (recR (fcM X) (lnM X) (mRid X) (mRid X) x 30 1 r) + k) = 0) ∧ ∃ E : Nat → Int → Int → Int, rmT E (recR (fcM X) (lnM X) (mRid X) (mRid X) x 30) ∧ rmR E (recR (fcM X) (lnM X) (mRid X) (mRid X) x 30) ∧ rmV E (recR (fcM X) (lnM X) (mRid X) (mRid X) x 30) (recR (fcM X) (lnM X) (mRid X) (mRid X) x 30 0 0) 0 ∧ S4 X E ∧ S5 X E ∧ mSt X E ∧ E 57 = X 57 ∧ E 58 = X 58 ∧ E 59 = X 59 ∧ E 56 = X 56 ∧ svC E X1 sv))) := by
  refine K_of (cc := cX9_save) (maxL := 6) (ret := (some .int)) (by decide) rfl (Nat.le_of_ble_eq_true rfl) ?_
  intro p e s m below meth c ls hx hb hr hml hown hts hlocks hl hK hw hS
  have hown : s.vm.findClass RX9 = some m.cls := hown
  obtain ⟨av9, hav9⟩ : ∃ a9 : Array Value, a9 = ([.ref (ad 40 0), .int (jI sv), .int (jI x)] : List Value).toArray := ⟨_, rfl⟩
  rw [← hav9] at hts ⊢
  obtain ⟨Q9, hQ9⟩ : ∃ q9Q : State → Prop, q9Q = MQ below (QI D tc base (fun z u => ∃ X1 : Nat → Int → Int → Int, u = (ad, cnt, X1, Y, ln) ∧ Rng X1 ∧ Frm [4001, 7100, 7200, 7300, 7400, 7500, 8000, 7000, 8100, 7700, 7800, 7900, 7600, 4042, 4043, 4044] X X1 ∧ MInv X1 ∧ (-2147483648 ≤ z ∧ z ≤ 2147483647) ∧ ((¬ ((0 ≤ sv ∧ sv < 4) ∧ (0 ≤ x ∧ x < X 40 0 13)) ∧ z = -1 ∧ Frm [4001] X X1) ∨ (((0 ≤ sv ∧ sv < 4) ∧ (0 ≤ x ∧ x < X 40 0 13)) ∧ z = -20 ∧ (∃ r k, 0 ≤ r ∧ r < recR (fcM X) (lnM X) (mRid X) (mRid X) x 30 0 0 ∧ 0 ≤ k ∧ k < fcM X (recR (fcM X) (lnM X) (mRid X) (mRid X) x 30 1 r) ∧ X 48 0 (5 * X 55 0 (recR (fcM X) (lnM X) (mRid X) (mRid X) x 30 1 r) + k) ≠ 0) ∧ S4 X X1 ∧ S5 X X1) ∨ (((0 ≤ sv ∧ sv < 4) ∧ (0 ≤ x ∧ x < X 40 0 13)) ∧ z = recR (fcM X) (lnM X) (mRid X) (mRid X) x 30 0 0 ∧ 0 ≤ z ∧ (∀ r k, 0 ≤ r → r < recR (fcM X) (lnM X) (mRid X) (mRid X) x 30 0 0 → 0 ≤ k → k < fcM X (recR (fcM X) (lnM X) (mRid X) (mRid X) x 30 1 r) → X 48 0 (5 * X 55 0 (recR (fcM X) (lnM X) (mRid X) (mRid X) x 30 1 r) + k) = 0) ∧ ∃ E : Nat → Int → Int → Int, rmT E (recR (fcM X) (lnM X) (mRid X) (mRid X) x 30) ∧ rmR E (recR (fcM X) (lnM X) (mRid X) (mRid X) x 30) ∧ rmV E (recR (fcM X) (lnM X) (mRid X) (mRid X) x 30) (recR (fcM X) (lnM X) (mRid X) (mRid X) x 30 0 0) 0 ∧ S4 X E ∧ S5 X E ∧ mSt X E ∧ E 57 = X 57 ∧ E 58 = X 58 ∧ E 59 = X 59 ∧ E 56 = X 56 ∧ svC E X1 sv)))) av9 s 0 0 (frA base) := ⟨_, rfl⟩
  rw [← hQ9]
  have hi9 : ∀ w ∈ wsX90, w ∈ wsX9_save := fun w h => List.mem_cons_of_mem _ (List.mem_append_right _ h)
  have hf9 : fctx s m _ RX9 wsX9_save D tc RX9 TX9 51 9 := ⟨hts, hi9, hown, hK.1, rfl⟩
  have lk81 := hts (.fieldLink RX9 81 (TX9 29).1 (TX9 29).2.1 (TX9 29).2.2.1) (gj_X9_save_0 _ (gp_1 gp_h))
  have lk84 := hts (.fieldLink RX9 84 (TX9 30).1 (TX9 30).2.1 (TX9 30).2.2.1) (gj_X9_save_0 _ (gp_1 (gp_1 (gp_1 gp_h))))
  have lk87 := hts (.fieldLink RX9 87 (TX9 31).1 (TX9 31).2.1 (TX9 31).2.2.1) (gj_X9_save_0 _ (gp_4 gp_h))
  have lk90 := hts (.fieldLink RX9 90 (TX9 32).1 (TX9 32).2.1 (TX9 32).2.2.1) (gj_X9_save_0 _ (gp_4 (gp_1 gp_h)))
  have lk93 := hts (.fieldLink RX9 93 (TX9 33).1 (TX9 33).2.1 (TX9 33).2.2.1) (gj_X9_save_0 _ (gp_4 (gp_1 (gp_1 gp_h))))
  have lk96 := hts (.fieldLink RX9 96 (TX9 34).1 (TX9 34).2.1 (TX9 34).2.2.1) (gj_X9_save_0 _ (gp_4 (gp_1 (gp_1 (gp_1 gp_h)))))
  have lk99 := hts (.fieldLink RX9 99 (TX9 35).1 (TX9 35).2.1 (TX9 35).2.2.1) (gj_X9_save_0 _ (gp_1 (gp_1 gp_h)))
  have lk102 := hts (.fieldLink RX9 102 (TX9 36).1 (TX9 36).2.1 (TX9 36).2.2.1) (gj_X9_save_0 _ (gp_4 (gp_4 gp_h)))
  have lk105 := hts (.fieldLink RX9 105 (TX9 37).1 (TX9 37).2.1 (TX9 37).2.2.1) (gj_X9_save_0 _ (gp_4 (gp_4 (gp_1 gp_h))))
  have lk108 := hts (.fieldLink RX9 108 (TX9 38).1 (TX9 38).2.1 (TX9 38).2.2.1) (gj_X9_save_0 _ (gp_4 (gp_4 (gp_1 (gp_1 gp_h)))))
  have lk145 := hts (.fieldLink RX9 145 (TX9 0).1 (TX9 0).2.1 (TX9 0).2.2.1) (gj_X9_save_0 _ (gp_h))
  have hc40 : cnt 40 = 1 := hFx.at 40 1 (by decide)
  have hc70 : cnt 70 = 1 := hFx.at 70 1 (by decide)
  have hc71 : cnt 71 = 1 := hFx.at 71 1 (by decide)
  have hc72 : cnt 72 = 1 := hFx.at 72 1 (by decide)
  have hc73 : cnt 73 = 1 := hFx.at 73 1 (by decide)
  have hc74 : cnt 74 = 1 := hFx.at 74 1 (by decide)
  have hc75 : cnt 75 = 1 := hFx.at 75 1 (by decide)
  have hc76 : cnt 76 = 1 := hFx.at 76 1 (by decide)
  have hc77 : cnt 77 = 1 := hFx.at 77 1 (by decide)
  have hc78 : cnt 78 = 1 := hFx.at 78 1 (by decide)
  have hc79 : cnt 79 = 1 := hFx.at 79 1 (by decide)
  have hl : lv_has ls 6 [(0, .ref (ad 40 0)), (1, .int (jI sv)), (2, .int (jI x))] := hl
  have fstypes : 0 ≤ X 40 0 2 ∧ X 40 0 2 ≤ 8 := hR 40 0 2
  have fsthings : 0 ≤ X 40 0 13 ∧ X 40 0 13 ≤ 30 := hR 40 0 13
  have fsmarks : 0 ≤ X 40 0 20 ∧ X 40 0 20 ≤ 4 := hR 40 0 20
  have fsnotes : 0 ≤ X 40 0 22 ∧ X 40 0 22 ≤ 80 := hR 40 0 22
  refine lv_aload_n hx hb dX9_save_0 rfl (lv_at hl 0 rfl) ?_
  refine lv_iconst (v := jI 0) hx hb dX9_save_1 rfl ?_
  refine x_puti (jz := 0) hx hb hf9 ⟨tyX9_ok, nmX9⟩ hw hS (by first | exact Int.le_refl 0 | omega) (by first | exact zlt hc40 | omega) sl_40_0 rfl lk145 rfl (tyX9_ok 0 (by decide)) rfl rfl dX9_save_2 (fun H locs hw hS => ?_)
  obtain ⟨X1, hX1⟩ : ∃ Xq, Xq = u3 X 40 0 0 0 := ⟨_, rfl⟩
  rw [← hX1] at hw
  have hRX1 : Rng X1 := by rw [hX1]; exact rng_set hR (show (-2147483648) ≤ 0 ∧ 0 ≤ 2147483647 by omega)
  have hVX1 : X1 40 0 0 = 0 := by rw [hX1]; exact u3_s _ _ _ _ _
  have hFX1 : Frm [4001, 7100, 7200, 7300, 7400, 7500, 8000, 7000, 8100, 7700, 7800, 7900, 7600, 4042, 4043, 4044] X X1 := by rw [hX1]; exact Frm.set Frm.rf (show 4001 ∈ [4001, 7100, 7200, 7300, 7400, 7500, 8000, 7000, 8100, 7700, 7800, 7900, 7600, 4042, 4043, 4044] by first | exact nlm_in rfl | decide)
  refine lv_aload_n hx hb dX9_save_5 rfl (lv_at hl 0 rfl) ?_
  refine lv_iload_n hx hb dX9_save_6 rfl (lv_at hl 1 rfl) ?_
  refine gos_i (run_V (As := [.int (jI sv)]) (rest := []) hx hb hml hown hts (c_X9_isSave l D tc base ad cnt X1 Y ln hRX1 hFx sv (by omega)) (cwV 1 hts gX9_save_X9_isSave rfl rfl rfl (by first | exact hd_X9_isSave | decide +kernel) ⟨Nat.le_of_ble_eq_true rfl, Nat.le_of_ble_eq_true rfl⟩) hK hw (by first | exact Int.le_refl 0 | omega) (by first | exact zlt hc40 | omega) sl_40_0 rfl rfl hl.1 rfl (Nat.le_of_ble_eq_true rfl) dX9_save_7 ⟨Nat.le_of_ble_eq_true rfl, Nat.le_of_ble_eq_true rfl⟩) hS (fun z2 u3 H locs p4 hw hS => ?_)
  obtain ⟨eu3, p4⟩ := p4
  subst eu3
  have q900018 : Frm [4001] X X1 := by rw [hX1]; exact Frm.set Frm.rf (show 4001 ∈ [4001] by first | exact nlm_in rfl | decide)
  rcases p4 with ⟨ez2, p4⟩ | ⟨ez2, p4⟩
  · subst ez2
    refine x_if_eqF (tgt := 21) hx hb (by omega) (by decide) dX9_save_10 (by decide) ?_
    refine lv_aload_n hx hb dX9_save_13 rfl (lv_at hl 0 rfl) ?_
    refine lv_iload_n hx hb dX9_save_14 rfl (lv_at hl 2 rfl) ?_
    refine gos_i (run_V (As := [.int (jI x)]) (rest := []) hx hb hml hown hts (c_X9_isThing l D tc base ad cnt X1 Y ln hRX1 hFx x (by omega)) (cwV 1 hts gX9_save_X9_isThing rfl rfl rfl (by first | exact hd_X9_isThing | decide +kernel) ⟨Nat.le_of_ble_eq_true rfl, Nat.le_of_ble_eq_true rfl⟩) hK hw (by first | exact Int.le_refl 0 | omega) (by first | exact zlt hc40 | omega) sl_40_0 rfl rfl hl.1 rfl (Nat.le_of_ble_eq_true rfl) dX9_save_15 ⟨Nat.le_of_ble_eq_true rfl, Nat.le_of_ble_eq_true rfl⟩) hS (fun z5 u6 H locs p7 hw hS => ?_)
    obtain ⟨eu6, p7⟩ := p7
    subst eu6
    have e8 : X1 40 0 13 = X 40 0 13 := by rw [hX1, u3_j _ _ _ _ (by decide)]
    simp only [e8] at p7
    rcases p7 with ⟨ez5, p7⟩ | ⟨ez5, p7⟩
    · subst ez5
      refine x_if_neT (tgt := 23) hx hb (by omega) (by decide) dX9_save_18 (by decide) ?_
      refine lv_aload_n hx hb dX9_save_23 rfl (lv_at hl 0 rfl) ?_
      refine lv_iload_n hx hb dX9_save_24 rfl (lv_at hl 2 rfl) ?_
      refine lv_iconst (v := jI 1) hx hb dX9_save_25 rfl ?_
      have q10 : Frm [4001] X X1 := by rw [hX1]; exact Frm.set Frm.rf (show 4001 ∈ [4001] by first | exact nlm_in rfl | decide)
      have hMq9 : MInv X1 := minv_frm hMI q10 (by decide)
      have e11 : X1 40 0 13 = X 40 0 13 := by rw [hX1, u3_j _ _ _ _ (by decide)]
      refine gos_i (run_V (As := [.int (jI x), .int (jI 1)]) (rest := []) hx hb hml hown hts (c_X9_saves l D tc base ad cnt X1 Y ln hRX1 hFx hMq9 x 1 (by omega) (by simp only [e11]; omega) (by omega)) (cwV 2 hts gX9_save_X9_saves rfl rfl rfl (by first | exact hd_X9_saves | decide +kernel) ⟨Nat.le_of_ble_eq_true rfl, Nat.le_of_ble_eq_true rfl⟩) hK hw (by first | exact Int.le_refl 0 | omega) (by first | exact zlt hc40 | omega) sl_40_0 rfl rfl hl.1 rfl (Nat.le_of_ble_eq_true rfl) dX9_save_26 ⟨Nat.le_of_ble_eq_true rfl, Nat.le_of_ble_eq_true rfl⟩) hS (fun z12 u13 H locs p14 hw hS => ?_)
      obtain ⟨X15, eu13, hRX15, hG16, hMIX15, p14, h4X15, hcX15, hsvX15, h5X15, hm20X15⟩ := p14
      subst eu13
      have hFX15 : Frm [4001, 7100, 7200, 7300, 7400, 7500, 8000, 7000, 8100, 7700, 7800, 7900, 7600, 4042, 4043, 4044] X X15 := Frm.tr hFX1 (Frm.mono hG16 (by first | exact nls_of rfl | decide))
      refine lv_istore_n (lv' := [(3, .int (jI z12)), (0, .ref (ad 40 0)), (1, .int (jI sv)), (2, .int (jI x))]) hx hb dX9_save_29 rfl hl (by decide) rfl (fun ls hl => ?_)
      refine lv_iload_n hx hb dX9_save_30 rfl (lv_at hl 0 rfl) ?_
      refine x_if_ge (tgt := 36) hx hb (by omega) dX9_save_31 (by decide) (fun c17 => ?_) (fun c17 => ?_)
      · refine lv_aload_n hx hb dX9_save_36 rfl (lv_at hl 1 rfl) ?_
        refine x_geto hx hb hf9 hw (by first | exact Int.le_refl 0 | omega) (by first | exact zlt hc40 | omega) sl_40_29 lk81 dX9_save_37 ?_
        refine lv_iload_n hx hb dX9_save_40 rfl (lv_at hl 2 rfl) ?_
        refine lv_iload_n hx hb dX9_save_41 rfl (lv_at hl 0 rfl) ?_
        refine x_iast hx hb hK.1 hw hS (by first | exact Int.le_refl 0 | omega) (by first | exact zlt hc70 | omega) ar_70 (len_E ar_70 (by first | exact Nat.ne_of_beq_eq_false rfl | decide)) (by omega) (by omega) (by omega) dX9_save_42 (fun H locs hw hS => ?_)
        obtain ⟨X18, hX18⟩ : ∃ Xq, Xq = u3 X15 70 0 sv z12 := ⟨_, rfl⟩
        rw [← hX18] at hw
        have hRX18 : Rng X18 := by rw [hX18]; exact rng_set hRX15 (show 0 ≤ z12 ∧ z12 ≤ 30 by omega)
        have hVX18 : X18 70 0 sv = z12 := by rw [hX18]; exact u3_s _ _ _ _ _
        have hFX18 : Frm [4001, 7100, 7200, 7300, 7400, 7500, 8000, 7000, 8100, 7700, 7800, 7900, 7600, 4042, 4043, 4044] X X18 := by rw [hX18]; exact Frm.set hFX15 (show 7000 ∈ [4001, 7100, 7200, 7300, 7400, 7500, 8000, 7000, 8100, 7700, 7800, 7900, 7600, 4042, 4043, 4044] by first | exact nlm_in rfl | decide)
        refine lv_aload_n hx hb dX9_save_43 rfl (lv_at hl 1 rfl) ?_
        refine x_geto hx hb hf9 hw (by first | exact Int.le_refl 0 | omega) (by first | exact zlt hc40 | omega) sl_40_35 lk99 dX9_save_44 ?_
        refine lv_iload_n hx hb dX9_save_47 rfl (lv_at hl 2 rfl) ?_
        refine lv_aload_n hx hb dX9_save_48 rfl (lv_at hl 1 rfl) ?_
        refine x_geto hx hb hf9 hw (by first | exact Int.le_refl 0 | omega) (by first | exact zlt hc40 | omega) sl_40_35 lk99 dX9_save_49 ?_
        refine lv_iconst (v := jI 4) hx hb dX9_save_52 rfl ?_
        refine x_iald hx hb hK.1 hw (by first | exact Int.le_refl 0 | omega) (by first | exact zlt hc76 | omega) ar_76 (len_E ar_76 (by first | exact Nat.ne_of_beq_eq_false rfl | decide)) (by omega) (by omega) (by omega) dX9_save_53 ?_
        have e19 : ∀ p9 q9 : Int, X18 76 p9 q9 = X15 76 p9 q9 := fun p9 q9 => by rw [hX18, u3_k _ _ _ _ (by first | exact Nat.ne_of_beq_eq_false rfl | decide)]
        rw [e19 0 4]
        have f20 : 0 ≤ X15 76 0 4 ∧ X15 76 0 4 ≤ 150 := hRX15 76 0 4
        refine x_iast hx hb hK.1 hw hS (by first | exact Int.le_refl 0 | omega) (by first | exact zlt hc76 | omega) ar_76 (len_E ar_76 (by first | exact Nat.ne_of_beq_eq_false rfl | decide)) (by omega) (by omega) (by omega) dX9_save_54 (fun H locs hw hS => ?_)
        obtain ⟨X21, hX21⟩ : ∃ Xq, Xq = u3 X18 76 0 sv (X15 76 0 4) := ⟨_, rfl⟩
        rw [← hX21] at hw
        have hRX21 : Rng X21 := by rw [hX21]; exact rng_set hRX18 (show 0 ≤ (X15 76 0 4) ∧ (X15 76 0 4) ≤ 150 by omega)
        have hVX21 : X21 76 0 sv = (X15 76 0 4) := by rw [hX21]; exact u3_s _ _ _ _ _
        have hFX21 : Frm [4001, 7100, 7200, 7300, 7400, 7500, 8000, 7000, 8100, 7700, 7800, 7900, 7600, 4042, 4043, 4044] X X21 := by rw [hX21]; exact Frm.set hFX18 (show 7600 ∈ [4001, 7100, 7200, 7300, 7400, 7500, 8000, 7000, 8100, 7700, 7800, 7900, 7600, 4042, 4043, 4044] by first | exact nlm_in rfl | decide)
        refine lv_iconst (v := jI 0) hx hb dX9_save_55 rfl ?_
        refine lv_istore (lv' := [(4, .int (jI 0)), (3, .int (jI z12)), (0, .ref (ad 40 0)), (1, .int (jI sv)), (2, .int (jI x))]) hx hb dX9_save_56 hl (by decide) rfl (fun ls hl => ?_)
        have lp58 : ∀ (nn : Nat) (r : Int) (Xa : Nat → Int → Int → Int) (H : Heap) (locs : List Loc) (ls : Array Slot), (30 - r) < (nn : Int) → (Rng Xa) → (Frm [7100, 7200, 7300, 7400, 7500] X21 Xa) → (0 ≤ r ∧ r ≤ 30) → (Cpy X15 Xa sv r r 0) → (CpK 71 X15 Xa (30 * sv) 120 r) → (CpK 72 X15 Xa (30 * sv) 120 r) → (CpK 73 X15 Xa (150 * sv) 600 (5 * r)) → (CpK 74 X15 Xa (150 * sv) 600 (5 * r)) → (CpK 75 X15 Xa (150 * sv) 600 (5 * r)) → (r ≤ z12) → wd D tc base (ad, cnt, Xa, Y, ln) H → va_S (frA base) s.heap H locs → lv_has ls 6 [(0, .ref (ad 40 0)), (1, .int (jI sv)), (2, .int (jI x)), (3, .int (jI z12)), (4, .int (jI r))] → W p l e ({ frames := 2, cells := 0, slots := 0, locals := 53 } : Room) s m av9 below meth c H locs 0 0 Q9 (F0 m 58 ls []) := by
          intro nn
          induction nn with
          | zero => intro r Xa H locs ls hm hRXa hGXa hr0 hCa c71 c72 c73 c74 c75 hrn hw hS hl; exfalso; omega
          | succ nn ih58 =>
            intro r Xa H locs ls hm hRXa hGXa hr0 hCa c71 c72 c73 c74 c75 hrn hw hS hl
            have hFXa : Frm [4001, 7100, 7200, 7300, 7400, 7500, 8000, 7000, 8100, 7700, 7800, 7900, 7600, 4042, 4043, 4044] X Xa := Frm.tr hFX21 (Frm.mono hGXa (by first | exact nls_of rfl | decide))
            refine lv_iload hx hb dX9_save_58 (lv_at hl 4 rfl) ?_
            refine lv_iload_n hx hb dX9_save_60 rfl (lv_at hl 3 rfl) ?_
            refine x_icmp_ge (tgt := 225) hx hb (by omega) (by omega) dX9_save_61 (by decide) (fun c22 => ?_) (fun c22 => ?_)
            · refine lv_iconst (v := jI 0) hx hb dX9_save_225 rfl ?_
              refine lv_istore (lv' := [(4, .int (jI 0)), (0, .ref (ad 40 0)), (1, .int (jI sv)), (2, .int (jI x)), (3, .int (jI z12))]) hx hb dX9_save_226 hl (by decide) rfl (fun ls hl => ?_)
              have lp228 : ∀ (nn : Nat) (r : Int) (Xc : Nat → Int → Int → Int) (H : Heap) (locs : List Loc) (ls : Array Slot), (150 - r) < (nn : Int) → (Rng Xc) → (Frm [7700, 7800, 7900] Xa Xc) → (0 ≤ r ∧ r ≤ 150) → (CpK 77 X15 Xc (150 * sv) 600 r) → (CpK 78 X15 Xc (150 * sv) 600 r) → (CpK 79 X15 Xc (1800 * sv) 7200 (12 * r)) → (r ≤ X15 76 0 4) → wd D tc base (ad, cnt, Xc, Y, ln) H → va_S (frA base) s.heap H locs → lv_has ls 6 [(0, .ref (ad 40 0)), (1, .int (jI sv)), (2, .int (jI x)), (3, .int (jI z12)), (4, .int (jI r))] → W p l e ({ frames := 2, cells := 0, slots := 0, locals := 53 } : Room) s m av9 below meth c H locs 0 0 Q9 (F0 m 228 ls []) := by
                intro nn
                induction nn with
                | zero => intro r Xc H locs ls hm hRXc hGXc hr0 c77 c78 c79 hrw9 hw hS hl; exfalso; omega
                | succ nn ih228 =>
                  intro r Xc H locs ls hm hRXc hGXc hr0 c77 c78 c79 hrw9 hw hS hl
                  have hFXc : Frm [4001, 7100, 7200, 7300, 7400, 7500, 8000, 7000, 8100, 7700, 7800, 7900, 7600, 4042, 4043, 4044] X Xc := Frm.tr hFXa (Frm.mono hGXc (by first | exact nls_of rfl | decide))
                  have e76s : X21 76 0 4 = X15 76 0 4 := by rw [hX21, u3_j _ _ _ _ (by omega), hX18, u3_k _ _ _ _ (by first | exact Nat.ne_of_beq_eq_false rfl | decide)]
                  refine lv_iload hx hb dX9_save_228 (lv_at hl 4 rfl) ?_
                  refine lv_aload_n hx hb dX9_save_230 rfl (lv_at hl 0 rfl) ?_
                  refine x_geto hx hb hf9 hw (by first | exact Int.le_refl 0 | omega) (by first | exact zlt hc40 | omega) sl_40_35 lk99 dX9_save_231 ?_
                  refine lv_iconst (v := jI 4) hx hb dX9_save_234 rfl ?_
                  refine x_iald hx hb hK.1 hw (by first | exact Int.le_refl 0 | omega) (by first | exact zlt hc76 | omega) ar_76 (len_E ar_76 (by first | exact Nat.ne_of_beq_eq_false rfl | decide)) (by omega) (by omega) (by omega) dX9_save_235 ?_
                  have e23 : ∀ p9 q9 : Int, Xc 76 p9 q9 = X21 76 p9 q9 := fun p9 q9 => by rw [hGXc 76 p9 q9 (show 7600 ∉ [7700, 7800, 7900] by first | exact nlm_ni rfl | decide), hGXa 76 p9 q9 (show 7600 ∉ [7100, 7200, 7300, 7400, 7500] by first | exact nlm_ni rfl | decide)]
                  rw [e23 0 4]
                  have f24 : 0 ≤ X21 76 0 4 ∧ X21 76 0 4 ≤ 150 := hRX21 76 0 4
                  have q900019 : Frm [7700, 7800, 7900] Xa Xc := Frm.tr Frm.rf (Frm.mono hGXc (by first | exact nls_of rfl | decide))
                  refine x_icmp_ge (tgt := 345) hx hb (by omega) (by omega) dX9_save_236 (by decide) (fun c25 => ?_) (fun c25 => ?_)
                  · refine lv_iload_n hx hb dX9_save_345 rfl (lv_at hl 3 rfl) ?_
                    rw [hQ9]
                    refine ret_i (mc := 0) (ms := 0) hx hb hr hlocks hw hS (by first | exact Nat.le_of_ble_eq_true rfl | omega) (by first | exact Nat.le_of_ble_eq_true rfl | omega) dX9_save_346 ?_
                    have q26 : Frm [7000, 7100, 7200, 7300, 7400, 7500, 7600, 7700, 7800, 7900] X15 X18 := by rw [hX18]; exact Frm.set Frm.rf (show 7000 ∈ [7000, 7100, 7200, 7300, 7400, 7500, 7600, 7700, 7800, 7900] by first | exact nlm_in rfl | decide)
                    have q27 : Frm [7000, 7100, 7200, 7300, 7400, 7500, 7600, 7700, 7800, 7900] X15 X21 := by rw [hX21]; exact Frm.set q26 (show 7600 ∈ [7000, 7100, 7200, 7300, 7400, 7500, 7600, 7700, 7800, 7900] by first | exact nlm_in rfl | decide)
                    have q28 : Frm [7000, 7100, 7200, 7300, 7400, 7500, 7600, 7700, 7800, 7900] X15 Xa := Frm.tr q27 (Frm.mono hGXa (by first | exact nls_of rfl | decide))
                    have hrd30 := rdr_eq (L := [4001]) q900018 (by decide)
                    have hsx31 := hsvX15
                    rw [hrd30.1, hrd30.2.1, hrd30.2.2, Frm.arr q900018 48 (by decide +kernel) (by decide), Frm.arr q900018 55 (by decide +kernel) (by decide)] at hsx31
                    have q32 : Frm [4001, 4042, 4043, 4044, 7000, 7100, 7200, 7300, 7400, 7500, 7600, 7700, 7800, 7900, 8000, 8100] X X1 := by rw [hX1]; exact Frm.set Frm.rf (show 4001 ∈ [4001, 4042, 4043, 4044, 7000, 7100, 7200, 7300, 7400, 7500, 7600, 7700, 7800, 7900, 8000, 8100] by first | exact nlm_in rfl | decide)
                    have q33 : Frm [4001, 4042, 4043, 4044, 7000, 7100, 7200, 7300, 7400, 7500, 7600, 7700, 7800, 7900, 8000, 8100] X X15 := Frm.tr q32 (Frm.mono hG16 (by first | exact nls_of rfl | decide))
                    have hn34 : X15 70 0 4 = z12 := ((hcX15 (by omega)).1).symm
                    exact ⟨Xc, rfl, hRXc, hFXc, minv_frm (minv_save (n := z12) hMIX15 hRX15 (hcX15 (by omega)).2 ((hcX15 (by omega)).1).symm (by omega) q28 (fun j hj => (by rw [hGXa 70 0 j (show 7000 ∉ [7100, 7200, 7300, 7400, 7500] by first | exact nlm_ni rfl | decide), hX21, u3_k _ _ _ _ (by first | exact Nat.ne_of_beq_eq_false rfl | decide), hX18, u3_j _ _ _ _ hj])) (by rw [hGXa 70 0 sv (show 7000 ∉ [7100, 7200, 7300, 7400, 7500] by first | exact nlm_ni rfl | decide), hX21, u3_k _ _ _ _ (by first | exact Nat.ne_of_beq_eq_false rfl | decide)]; exact hVX18) (hCa.le (by omega)) (by omega)) hGXc (by decide), by omega, (by rcases hsx31 with ⟨q, -, -⟩ | ⟨q1, q2, q3, q4, q5⟩; exfalso; omega; exact Or.inr (Or.inr ⟨(by (try delta Hid at *); omega), q1, by omega, q2 rfl, X15, q3, q4, q5, S4.tr (S4.frm q900018 (by decide)) h4X15, S5.tr (S5.frm q900018 (by decide)) h5X15, mSt.of q33 (by decide), Frm.arr q33 57 (by decide +kernel) (by decide), Frm.arr q33 58 (by decide +kernel) (by decide), Frm.arr q33 59 (by decide +kernel) (by decide), Frm.arr q33 56 (by decide +kernel) (by decide), (by rw [hGXc 70 0 sv (show 7000 ∉ [7700, 7800, 7900] by first | exact nlm_ni rfl | decide), hGXa 70 0 sv (show 7000 ∉ [7100, 7200, 7300, 7400, 7500] by first | exact nlm_ni rfl | decide), hX21, u3_k _ _ _ _ (by first | exact Nat.ne_of_beq_eq_false rfl | decide)]; rw [hVX18]; omega), (by rw [hGXc 76 0 sv (show 7600 ∉ [7700, 7800, 7900] by first | exact nlm_ni rfl | decide), hGXa 76 0 sv (show 7600 ∉ [7100, 7200, 7300, 7400, 7500] by first | exact nlm_ni rfl | decide)]; exact hVX21), fun j hj => ⟨(by rw [hGXc 70 0 j (show 7000 ∉ [7700, 7800, 7900] by first | exact nlm_ni rfl | decide), hGXa 70 0 j (show 7000 ∉ [7100, 7200, 7300, 7400, 7500] by first | exact nlm_ni rfl | decide), hX21, u3_k _ _ _ _ (by first | exact Nat.ne_of_beq_eq_false rfl | decide), hX18, u3_j _ _ _ _ hj]), (by rw [hGXc 76 0 j (show 7600 ∉ [7700, 7800, 7900] by first | exact nlm_ni rfl | decide), hGXa 76 0 j (show 7600 ∉ [7100, 7200, 7300, 7400, 7500] by first | exact nlm_ni rfl | decide), hX21, u3_j _ _ _ _ hj, hX18, u3_k _ _ _ _ (by first | exact Nat.ne_of_beq_eq_false rfl | decide)])⟩, (CpK.len (CpK.of c71 (Frm.arr q900019 71 (by decide +kernel) (by decide))) (by omega)), (CpK.len (CpK.of c72 (Frm.arr q900019 72 (by decide +kernel) (by decide))) (by omega)), (CpK.len (CpK.of c73 (Frm.arr q900019 73 (by decide +kernel) (by decide))) (by omega)), (CpK.len (CpK.of c74 (Frm.arr q900019 74 (by decide +kernel) (by decide))) (by omega)), (CpK.len (CpK.of c75 (Frm.arr q900019 75 (by decide +kernel) (by decide))) (by omega)), (CpK.len (CpK.of c77 rfl) (by omega)), (CpK.len (CpK.of c78 rfl) (by omega)), (CpK.len (CpK.of c79 rfl) (by omega))⟩))⟩
                  · refine lv_aload_n hx hb dX9_save_239 rfl (lv_at hl 0 rfl) ?_
                    refine x_geto hx hb hf9 hw (by first | exact Int.le_refl 0 | omega) (by first | exact zlt hc40 | omega) sl_40_36 lk102 dX9_save_240 ?_
                    refine lv_sipush (v := jI 150) hx hb dX9_save_243 (by decide) ?_
                    refine lv_iload_n hx hb dX9_save_246 rfl (lv_at hl 1 rfl) ?_
                    refine x_imul hx hb dX9_save_247 ?_
                    refine lv_iload hx hb dX9_save_248 (lv_at hl 4 rfl) ?_
                    refine x_iadd hx hb dX9_save_250 ?_
                    refine lv_aload_n hx hb dX9_save_251 rfl (lv_at hl 0 rfl) ?_
                    refine x_geto hx hb hf9 hw (by first | exact Int.le_refl 0 | omega) (by first | exact zlt hc40 | omega) sl_40_36 lk102 dX9_save_252 ?_
                    refine lv_sipush (v := jI 600) hx hb dX9_save_255 (by decide) ?_
                    refine lv_iload hx hb dX9_save_258 (lv_at hl 4 rfl) ?_
                    refine x_iadd hx hb dX9_save_260 ?_
                    refine x_iald hx hb hK.1 hw (by first | exact Int.le_refl 0 | omega) (by first | exact zlt hc77 | omega) ar_77 (len_E ar_77 (by first | exact Nat.ne_of_beq_eq_false rfl | decide)) (by omega) (by omega) (by omega) dX9_save_261 ?_
                    have f40 : 0 ≤ Xc 77 0 (600 + r) ∧ Xc 77 0 (600 + r) ≤ 5 := hRXc 77 0 (600 + r)
                    refine x_iast hx hb hK.1 hw hS (by first | exact Int.le_refl 0 | omega) (by first | exact zlt hc77 | omega) ar_77 (len_E ar_77 (by first | exact Nat.ne_of_beq_eq_false rfl | decide)) (by omega) (by omega) (by omega) dX9_save_262 (fun H locs hw hS => ?_)
                    obtain ⟨X41, hX41⟩ : ∃ Xq, Xq = u3 Xc 77 0 ((150 * sv) + r) (Xc 77 0 (600 + r)) := ⟨_, rfl⟩
                    rw [← hX41] at hw
                    have hRX41 : Rng X41 := by rw [hX41]; exact rng_set hRXc (show 0 ≤ (Xc 77 0 (600 + r)) ∧ (Xc 77 0 (600 + r)) ≤ 5 by omega)
                    have hVX41 : X41 77 0 ((150 * sv) + r) = (Xc 77 0 (600 + r)) := by rw [hX41]; exact u3_s _ _ _ _ _
                    have hFX41 : Frm [4001, 7100, 7200, 7300, 7400, 7500, 8000, 7000, 8100, 7700, 7800, 7900, 7600, 4042, 4043, 4044] X X41 := by rw [hX41]; exact Frm.set hFXc (show 7700 ∈ [4001, 7100, 7200, 7300, 7400, 7500, 8000, 7000, 8100, 7700, 7800, 7900, 7600, 4042, 4043, 4044] by first | exact nlm_in rfl | decide)
                    refine lv_aload_n hx hb dX9_save_263 rfl (lv_at hl 0 rfl) ?_
                    refine x_geto hx hb hf9 hw (by first | exact Int.le_refl 0 | omega) (by first | exact zlt hc40 | omega) sl_40_37 lk105 dX9_save_264 ?_
                    refine lv_sipush (v := jI 150) hx hb dX9_save_267 (by decide) ?_
                    refine lv_iload_n hx hb dX9_save_270 rfl (lv_at hl 1 rfl) ?_
                    refine x_imul hx hb dX9_save_271 ?_
                    refine lv_iload hx hb dX9_save_272 (lv_at hl 4 rfl) ?_
                    refine x_iadd hx hb dX9_save_274 ?_
                    refine lv_aload_n hx hb dX9_save_275 rfl (lv_at hl 0 rfl) ?_
                    refine x_geto hx hb hf9 hw (by first | exact Int.le_refl 0 | omega) (by first | exact zlt hc40 | omega) sl_40_37 lk105 dX9_save_276 ?_
                    refine lv_sipush (v := jI 600) hx hb dX9_save_279 (by decide) ?_
                    refine lv_iload hx hb dX9_save_282 (lv_at hl 4 rfl) ?_
                    refine x_iadd hx hb dX9_save_284 ?_
                    refine x_iald hx hb hK.1 hw (by first | exact Int.le_refl 0 | omega) (by first | exact zlt hc78 | omega) ar_78 (len_E ar_78 (by first | exact Nat.ne_of_beq_eq_false rfl | decide)) (by omega) (by omega) (by omega) dX9_save_285 ?_
                    have e42 : ∀ p9 q9 : Int, X41 78 p9 q9 = Xc 78 p9 q9 := fun p9 q9 => by rw [hX41, u3_k _ _ _ _ (by first | exact Nat.ne_of_beq_eq_false rfl | decide)]
                    rw [e42 0 (600 + r)]
                    have f43 : 0 ≤ Xc 78 0 (600 + r) ∧ Xc 78 0 (600 + r) ≤ 12 := hRXc 78 0 (600 + r)
                    refine x_iast hx hb hK.1 hw hS (by first | exact Int.le_refl 0 | omega) (by first | exact zlt hc78 | omega) ar_78 (len_E ar_78 (by first | exact Nat.ne_of_beq_eq_false rfl | decide)) (by omega) (by omega) (by omega) dX9_save_286 (fun H locs hw hS => ?_)
                    obtain ⟨X44, hX44⟩ : ∃ Xq, Xq = u3 X41 78 0 ((150 * sv) + r) (Xc 78 0 (600 + r)) := ⟨_, rfl⟩
                    rw [← hX44] at hw
                    have hRX44 : Rng X44 := by rw [hX44]; exact rng_set hRX41 (show 0 ≤ (Xc 78 0 (600 + r)) ∧ (Xc 78 0 (600 + r)) ≤ 12 by omega)
                    have hVX44 : X44 78 0 ((150 * sv) + r) = (Xc 78 0 (600 + r)) := by rw [hX44]; exact u3_s _ _ _ _ _
                    have hFX44 : Frm [4001, 7100, 7200, 7300, 7400, 7500, 8000, 7000, 8100, 7700, 7800, 7900, 7600, 4042, 4043, 4044] X X44 := by rw [hX44]; exact Frm.set hFX41 (show 7800 ∈ [4001, 7100, 7200, 7300, 7400, 7500, 8000, 7000, 8100, 7700, 7800, 7900, 7600, 4042, 4043, 4044] by first | exact nlm_in rfl | decide)
                    refine lv_iconst (v := jI 0) hx hb dX9_save_287 rfl ?_
                    refine lv_istore (lv' := [(5, .int (jI 0)), (0, .ref (ad 40 0)), (1, .int (jI sv)), (2, .int (jI x)), (3, .int (jI z12)), (4, .int (jI r))]) hx hb dX9_save_288 hl (by decide) rfl (fun ls hl => ?_)
                    have lp290 : ∀ (nn : Nat) (k : Int) (Xd : Nat → Int → Int → Int) (H : Heap) (locs : List Loc) (ls : Array Slot), (12 - k) < (nn : Int) → (Rng Xd) → (Frm [7900] X44 Xd) → (0 ≤ k ∧ k ≤ 12) → (CpK 77 X15 Xd (150 * sv) 600 (r + 1)) → (CpK 78 X15 Xd (150 * sv) 600 (r + 1)) → (CpK 79 X15 Xd (1800 * sv) 7200 (12 * r + k)) → wd D tc base (ad, cnt, Xd, Y, ln) H → va_S (frA base) s.heap H locs → lv_has ls 6 [(0, .ref (ad 40 0)), (1, .int (jI sv)), (2, .int (jI x)), (3, .int (jI z12)), (4, .int (jI r)), (5, .int (jI k))] → W p l e ({ frames := 2, cells := 0, slots := 0, locals := 53 } : Room) s m av9 below meth c H locs 0 0 Q9 (F0 m 290 ls []) := by
                      intro nn
                      induction nn with
                      | zero => intro k Xd H locs ls hm hRXd hGXd hk d77 d78 d79 hw hS hl; exfalso; omega
                      | succ nn ih290 =>
                        intro k Xd H locs ls hm hRXd hGXd hk d77 d78 d79 hw hS hl
                        have hFXd : Frm [4001, 7100, 7200, 7300, 7400, 7500, 8000, 7000, 8100, 7700, 7800, 7900, 7600, 4042, 4043, 4044] X Xd := Frm.tr hFX44 (Frm.mono hGXd (by first | exact nls_of rfl | decide))
                        refine lv_iload hx hb dX9_save_290 (lv_at hl 5 rfl) ?_
                        refine lv_bipush (v := jI 12) hx hb dX9_save_292 (by decide) ?_
                        refine x_icmp_ge (tgt := 339) hx hb (by omega) (by omega) dX9_save_294 (by decide) (fun c45 => ?_) (fun c45 => ?_)
                        · refine lv_iinc (v := jI (r + 1)) (lv' := [(4, .int (jI (r + 1))), (0, .ref (ad 40 0)), (1, .int (jI sv)), (2, .int (jI x)), (3, .int (jI z12)), (5, .int (jI k))]) hx hb dX9_save_339 hl (k := 4) rfl (jI_add _ _) (by decide) rfl (fun ls hl => ?_)
                          refine lv_goto (tgt := 228) hx hb dX9_save_342 (by decide) ?_
                          have q47 : Frm [7700, 7800, 7900] Xa X41 := by rw [hX41]; exact Frm.set q900019 (show 7700 ∈ [7700, 7800, 7900] by first | exact nlm_in rfl | decide)
                          have q48 : Frm [7700, 7800, 7900] Xa X44 := by rw [hX44]; exact Frm.set q47 (show 7800 ∈ [7700, 7800, 7900] by first | exact nlm_in rfl | decide)
                          have q49 : Frm [7700, 7800, 7900] Xa Xd := Frm.tr q48 (Frm.mono hGXd (by first | exact nls_of rfl | decide))
                          have e50 : Xd 76 0 4 = X21 76 0 4 := by rw [hGXd 76 0 4 (show 7600 ∉ [7900] by first | exact nlm_ni rfl | decide), hX44, u3_k _ _ _ _ (by first | exact Nat.ne_of_beq_eq_false rfl | decide), hX41, u3_k _ _ _ _ (by first | exact Nat.ne_of_beq_eq_false rfl | decide), hGXc 76 0 4 (show 7600 ∉ [7700, 7800, 7900] by first | exact nlm_ni rfl | decide), hGXa 76 0 4 (show 7600 ∉ [7100, 7200, 7300, 7400, 7500] by first | exact nlm_ni rfl | decide)]
                          exact ih228 (r + 1) Xd _ _ _ (by omega) hRXd q49 (by first | omega | (simp only [e50]; omega)) (d77) (d78) (CpK.len d79 (by omega)) (by first | omega | (simp only [e50]; omega)) hw hS (lv_sub hl [1, 2, 3, 4, 0] rfl)
                        · refine lv_aload_n hx hb dX9_save_297 rfl (lv_at hl 0 rfl) ?_
                          refine x_geto hx hb hf9 hw (by first | exact Int.le_refl 0 | omega) (by first | exact zlt hc40 | omega) sl_40_38 lk108 dX9_save_298 ?_
                          refine lv_bipush (v := jI 12) hx hb dX9_save_301 (by decide) ?_
                          refine lv_sipush (v := jI 150) hx hb dX9_save_303 (by decide) ?_
                          refine lv_iload_n hx hb dX9_save_306 rfl (lv_at hl 1 rfl) ?_
                          refine x_imul hx hb dX9_save_307 ?_
                          refine lv_iload hx hb dX9_save_308 (lv_at hl 4 rfl) ?_
                          refine x_iadd hx hb dX9_save_310 ?_
                          refine x_imul hx hb dX9_save_311 ?_
                          refine lv_iload hx hb dX9_save_312 (lv_at hl 5 rfl) ?_
                          refine x_iadd hx hb dX9_save_314 ?_
                          refine lv_aload_n hx hb dX9_save_315 rfl (lv_at hl 0 rfl) ?_
                          refine x_geto hx hb hf9 hw (by first | exact Int.le_refl 0 | omega) (by first | exact zlt hc40 | omega) sl_40_38 lk108 dX9_save_316 ?_
                          refine lv_bipush (v := jI 12) hx hb dX9_save_319 (by decide) ?_
                          refine lv_sipush (v := jI 600) hx hb dX9_save_321 (by decide) ?_
                          refine lv_iload hx hb dX9_save_324 (lv_at hl 4 rfl) ?_
                          refine x_iadd hx hb dX9_save_326 ?_
                          refine x_imul hx hb dX9_save_327 ?_
                          refine lv_iload hx hb dX9_save_328 (lv_at hl 5 rfl) ?_
                          refine x_iadd hx hb dX9_save_330 ?_
                          refine x_lald hx hb hK.1 hw (by first | exact Int.le_refl 0 | omega) (by first | exact zlt hc79 | omega) ar_79 (len_E ar_79 (by first | exact Nat.ne_of_beq_eq_false rfl | decide)) (by omega) (by omega) (by omega) dX9_save_331 ?_
                          have f51 : (-9223372036854775808) ≤ Xd 79 0 ((12 * (600 + r)) + k) ∧ Xd 79 0 ((12 * (600 + r)) + k) ≤ 9223372036854775807 := hRXd 79 0 ((12 * (600 + r)) + k)
                          refine x_last hx hb hK.1 hw hS (by first | exact Int.le_refl 0 | omega) (by first | exact zlt hc79 | omega) ar_79 (len_E ar_79 (by first | exact Nat.ne_of_beq_eq_false rfl | decide)) (by omega) (by omega) (by omega) dX9_save_332 (fun H locs hw hS => ?_)
                          obtain ⟨X52, hX52⟩ : ∃ Xq, Xq = u3 Xd 79 0 ((12 * ((150 * sv) + r)) + k) (Xd 79 0 ((12 * (600 + r)) + k)) := ⟨_, rfl⟩
                          rw [← hX52] at hw
                          have hRX52 : Rng X52 := by rw [hX52]; exact rng_set hRXd (show (-9223372036854775808) ≤ (Xd 79 0 ((12 * (600 + r)) + k)) ∧ (Xd 79 0 ((12 * (600 + r)) + k)) ≤ 9223372036854775807 by omega)
                          have hVX52 : X52 79 0 ((12 * ((150 * sv) + r)) + k) = (Xd 79 0 ((12 * (600 + r)) + k)) := by rw [hX52]; exact u3_s _ _ _ _ _
                          have hFX52 : Frm [4001, 7100, 7200, 7300, 7400, 7500, 8000, 7000, 8100, 7700, 7800, 7900, 7600, 4042, 4043, 4044] X X52 := by rw [hX52]; exact Frm.set hFXd (show 7900 ∈ [4001, 7100, 7200, 7300, 7400, 7500, 8000, 7000, 8100, 7700, 7800, 7900, 7600, 4042, 4043, 4044] by first | exact nlm_in rfl | decide)
                          refine lv_iinc (v := jI (k + 1)) (lv' := [(5, .int (jI (k + 1))), (0, .ref (ad 40 0)), (1, .int (jI sv)), (2, .int (jI x)), (3, .int (jI z12)), (4, .int (jI r))]) hx hb dX9_save_333 hl (k := 5) rfl (jI_add _ _) (by decide) rfl (fun ls hl => ?_)
                          refine lv_goto (tgt := 290) hx hb dX9_save_336 (by decide) ?_
                          have q53 : Frm [7900] X44 Xd := Frm.tr Frm.rf (Frm.mono hGXd (by first | exact nls_of rfl | decide))
                          have q54 : Frm [7900] X44 X52 := by rw [hX52]; exact Frm.set q53 (show 7900 ∈ [7900] by first | exact nlm_in rfl | decide)
                          have q55 : Frm [7900] Xd X52 := by rw [hX52]; exact Frm.set Frm.rf (show 7900 ∈ [7900] by first | exact nlm_in rfl | decide)
                          exact ih290 (k + 1) X52 _ _ _ (by omega) hRX52 q54 (by omega) (CpK.of d77 (Frm.arr q55 77 (by decide +kernel) (by decide))) (CpK.of d78 (Frm.arr q55 78 (by decide +kernel) (by decide))) (CpK.len (CpK.step (Xc := Xd) (a := 12 * (150 * sv + r) + k) (b := 12 * (600 + r) + k) d79 (by omega) (by omega) rfl (by rw [hX52]) (by omega) rfl (by omega)) (by omega)) hw hS (lv_sub hl [1, 2, 3, 4, 5, 0] rfl)
                    have q57 : Frm [7700, 7800] Xc X41 := by rw [hX41]; exact Frm.set Frm.rf (show 7700 ∈ [7700, 7800] by first | exact nlm_in rfl | decide)
                    have q58 : Frm [7700, 7800] Xc X44 := by rw [hX44]; exact Frm.set q57 (show 7800 ∈ [7700, 7800] by first | exact nlm_in rfl | decide)
                    exact lp290 (12 - 0 : Int).toNat.succ 0 X44 _ _ _ (by omega) hRX44 Frm.rf (by omega) (CpK.step (Xc := Xc) (a := 150 * sv + r) (b := 600 + r) c77 (by omega) (by omega) rfl (by rw [hX44, u3_k _ _ _ _ (by first | exact Nat.ne_of_beq_eq_false rfl | decide), hX41]) (by omega) rfl (by omega)) (CpK.step (Xc := X41) (a := 150 * sv + r) (b := 600 + r) c78 (by omega) (by omega) (by rw [hX41, u3_k _ _ _ _ (by first | exact Nat.ne_of_beq_eq_false rfl | decide)]) (by rw [hX44]) (by omega) rfl (by omega)) (CpK.len (CpK.of c79 (Frm.arr q58 79 (by decide +kernel) (by decide))) (by omega)) hw hS (lv_sub hl [1, 2, 3, 4, 5, 0] rfl)
              have e59 : Xa 76 0 4 = X21 76 0 4 := by rw [hGXa 76 0 4 (show 7600 ∉ [7100, 7200, 7300, 7400, 7500] by first | exact nlm_ni rfl | decide)]
              have q60 : Frm [7000, 7100, 7200, 7300, 7400, 7500, 7600] X15 X18 := by rw [hX18]; exact Frm.set Frm.rf (show 7000 ∈ [7000, 7100, 7200, 7300, 7400, 7500, 7600] by first | exact nlm_in rfl | decide)
              have q61 : Frm [7000, 7100, 7200, 7300, 7400, 7500, 7600] X15 X21 := by rw [hX21]; exact Frm.set q60 (show 7600 ∈ [7000, 7100, 7200, 7300, 7400, 7500, 7600] by first | exact nlm_in rfl | decide)
              have q62 : Frm [7000, 7100, 7200, 7300, 7400, 7500, 7600] X15 Xa := Frm.tr q61 (Frm.mono hGXa (by first | exact nls_of rfl | decide))
              exact lp228 (150 - 0 : Int).toNat.succ 0 Xa _ _ _ (by omega) hRXa Frm.rf (by first | omega | (simp only [e59]; omega)) (CpK.len (CpK.in_ (Frm.arr q62 77 (by decide +kernel) (by decide))) (by omega)) (CpK.len (CpK.in_ (Frm.arr q62 78 (by decide +kernel) (by decide))) (by omega)) (CpK.len (CpK.in_ (Frm.arr q62 79 (by decide +kernel) (by decide))) (by omega)) (by first | omega | (simp only [e59]; omega)) hw hS (lv_sub hl [1, 2, 3, 4, 0] rfl)
            · refine lv_aload_n hx hb dX9_save_64 rfl (lv_at hl 0 rfl) ?_
              refine x_geto hx hb hf9 hw (by first | exact Int.le_refl 0 | omega) (by first | exact zlt hc40 | omega) sl_40_30 lk84 dX9_save_65 ?_
              refine lv_bipush (v := jI 30) hx hb dX9_save_68 (by decide) ?_
              refine lv_iload_n hx hb dX9_save_70 rfl (lv_at hl 1 rfl) ?_
              refine x_imul hx hb dX9_save_71 ?_
              refine lv_iload hx hb dX9_save_72 (lv_at hl 4 rfl) ?_
              refine x_iadd hx hb dX9_save_74 ?_
              refine lv_aload_n hx hb dX9_save_75 rfl (lv_at hl 0 rfl) ?_
              refine x_geto hx hb hf9 hw (by first | exact Int.le_refl 0 | omega) (by first | exact zlt hc40 | omega) sl_40_30 lk84 dX9_save_76 ?_
              refine lv_bipush (v := jI 120) hx hb dX9_save_79 (by decide) ?_
              refine lv_iload hx hb dX9_save_81 (lv_at hl 4 rfl) ?_
              refine x_iadd hx hb dX9_save_83 ?_
              refine x_iald hx hb hK.1 hw (by first | exact Int.le_refl 0 | omega) (by first | exact zlt hc71 | omega) ar_71 (len_E ar_71 (by first | exact Nat.ne_of_beq_eq_false rfl | decide)) (by omega) (by omega) (by omega) dX9_save_84 ?_
              have f69 : 0 ≤ Xa 71 0 (120 + r) ∧ Xa 71 0 (120 + r) ≤ 7 := hRXa 71 0 (120 + r)
              refine x_iast hx hb hK.1 hw hS (by first | exact Int.le_refl 0 | omega) (by first | exact zlt hc71 | omega) ar_71 (len_E ar_71 (by first | exact Nat.ne_of_beq_eq_false rfl | decide)) (by omega) (by omega) (by omega) dX9_save_85 (fun H locs hw hS => ?_)
              obtain ⟨X70, hX70⟩ : ∃ Xq, Xq = u3 Xa 71 0 ((30 * sv) + r) (Xa 71 0 (120 + r)) := ⟨_, rfl⟩
              rw [← hX70] at hw
              have hRX70 : Rng X70 := by rw [hX70]; exact rng_set hRXa (show 0 ≤ (Xa 71 0 (120 + r)) ∧ (Xa 71 0 (120 + r)) ≤ 7 by omega)
              have hVX70 : X70 71 0 ((30 * sv) + r) = (Xa 71 0 (120 + r)) := by rw [hX70]; exact u3_s _ _ _ _ _
              have hFX70 : Frm [4001, 7100, 7200, 7300, 7400, 7500, 8000, 7000, 8100, 7700, 7800, 7900, 7600, 4042, 4043, 4044] X X70 := by rw [hX70]; exact Frm.set hFXa (show 7100 ∈ [4001, 7100, 7200, 7300, 7400, 7500, 8000, 7000, 8100, 7700, 7800, 7900, 7600, 4042, 4043, 4044] by first | exact nlm_in rfl | decide)
              refine lv_aload_n hx hb dX9_save_86 rfl (lv_at hl 0 rfl) ?_
              refine x_geto hx hb hf9 hw (by first | exact Int.le_refl 0 | omega) (by first | exact zlt hc40 | omega) sl_40_31 lk87 dX9_save_87 ?_
              refine lv_bipush (v := jI 30) hx hb dX9_save_90 (by decide) ?_
              refine lv_iload_n hx hb dX9_save_92 rfl (lv_at hl 1 rfl) ?_
              refine x_imul hx hb dX9_save_93 ?_
              refine lv_iload hx hb dX9_save_94 (lv_at hl 4 rfl) ?_
              refine x_iadd hx hb dX9_save_96 ?_
              refine lv_aload_n hx hb dX9_save_97 rfl (lv_at hl 0 rfl) ?_
              refine x_geto hx hb hf9 hw (by first | exact Int.le_refl 0 | omega) (by first | exact zlt hc40 | omega) sl_40_31 lk87 dX9_save_98 ?_
              refine lv_bipush (v := jI 120) hx hb dX9_save_101 (by decide) ?_
              refine lv_iload hx hb dX9_save_103 (lv_at hl 4 rfl) ?_
              refine x_iadd hx hb dX9_save_105 ?_
              refine x_iald hx hb hK.1 hw (by first | exact Int.le_refl 0 | omega) (by first | exact zlt hc72 | omega) ar_72 (len_E ar_72 (by first | exact Nat.ne_of_beq_eq_false rfl | decide)) (by omega) (by omega) (by omega) dX9_save_106 ?_
              have e71 : ∀ p9 q9 : Int, X70 72 p9 q9 = Xa 72 p9 q9 := fun p9 q9 => by rw [hX70, u3_k _ _ _ _ (by first | exact Nat.ne_of_beq_eq_false rfl | decide)]
              rw [e71 0 (120 + r)]
              have f72 : 0 ≤ Xa 72 0 (120 + r) ∧ Xa 72 0 (120 + r) ≤ 5 := hRXa 72 0 (120 + r)
              refine x_iast hx hb hK.1 hw hS (by first | exact Int.le_refl 0 | omega) (by first | exact zlt hc72 | omega) ar_72 (len_E ar_72 (by first | exact Nat.ne_of_beq_eq_false rfl | decide)) (by omega) (by omega) (by omega) dX9_save_107 (fun H locs hw hS => ?_)
              obtain ⟨X73, hX73⟩ : ∃ Xq, Xq = u3 X70 72 0 ((30 * sv) + r) (Xa 72 0 (120 + r)) := ⟨_, rfl⟩
              rw [← hX73] at hw
              have hRX73 : Rng X73 := by rw [hX73]; exact rng_set hRX70 (show 0 ≤ (Xa 72 0 (120 + r)) ∧ (Xa 72 0 (120 + r)) ≤ 5 by omega)
              have hVX73 : X73 72 0 ((30 * sv) + r) = (Xa 72 0 (120 + r)) := by rw [hX73]; exact u3_s _ _ _ _ _
              have hFX73 : Frm [4001, 7100, 7200, 7300, 7400, 7500, 8000, 7000, 8100, 7700, 7800, 7900, 7600, 4042, 4043, 4044] X X73 := by rw [hX73]; exact Frm.set hFX70 (show 7200 ∈ [4001, 7100, 7200, 7300, 7400, 7500, 8000, 7000, 8100, 7700, 7800, 7900, 7600, 4042, 4043, 4044] by first | exact nlm_in rfl | decide)
              refine lv_iconst (v := jI 0) hx hb dX9_save_108 rfl ?_
              refine lv_istore (lv' := [(5, .int (jI 0)), (0, .ref (ad 40 0)), (1, .int (jI sv)), (2, .int (jI x)), (3, .int (jI z12)), (4, .int (jI r))]) hx hb dX9_save_109 hl (by decide) rfl (fun ls hl => ?_)
              have lp111 : ∀ (nn : Nat) (k : Int) (Xb : Nat → Int → Int → Int) (H : Heap) (locs : List Loc) (ls : Array Slot), (5 - k) < (nn : Int) → (Rng Xb) → (Frm [7300, 7400, 7500] X73 Xb) → (0 ≤ k ∧ k ≤ 5) → (Cpy X15 Xb sv (r + 1) r k) → (CpK 71 X15 Xb (30 * sv) 120 (r + 1)) → (CpK 72 X15 Xb (30 * sv) 120 (r + 1)) → (CpK 73 X15 Xb (150 * sv) 600 (5 * r + k)) → (CpK 74 X15 Xb (150 * sv) 600 (5 * r + k)) → (CpK 75 X15 Xb (150 * sv) 600 (5 * r + k)) → wd D tc base (ad, cnt, Xb, Y, ln) H → va_S (frA base) s.heap H locs → lv_has ls 6 [(0, .ref (ad 40 0)), (1, .int (jI sv)), (2, .int (jI x)), (3, .int (jI z12)), (4, .int (jI r)), (5, .int (jI k))] → W p l e ({ frames := 2, cells := 0, slots := 0, locals := 53 } : Room) s m av9 below meth c H locs 0 0 Q9 (F0 m 111 ls []) := by
                intro nn
                induction nn with
                | zero => intro k Xb H locs ls hm hRXb hGXb hk hCb d71 d72 d73 d74 d75 hw hS hl; exfalso; omega
                | succ nn ih111 =>
                  intro k Xb H locs ls hm hRXb hGXb hk hCb d71 d72 d73 d74 d75 hw hS hl
                  have hFXb : Frm [4001, 7100, 7200, 7300, 7400, 7500, 8000, 7000, 8100, 7700, 7800, 7900, 7600, 4042, 4043, 4044] X Xb := Frm.tr hFX73 (Frm.mono hGXb (by first | exact nls_of rfl | decide))
                  refine lv_iload hx hb dX9_save_111 (lv_at hl 5 rfl) ?_
                  refine lv_iconst (v := jI 5) hx hb dX9_save_113 rfl ?_
                  refine x_icmp_ge (tgt := 219) hx hb (by omega) (by omega) dX9_save_114 (by decide) (fun c74 => ?_) (fun c74 => ?_)
                  · refine lv_iinc (v := jI (r + 1)) (lv' := [(4, .int (jI (r + 1))), (0, .ref (ad 40 0)), (1, .int (jI sv)), (2, .int (jI x)), (3, .int (jI z12)), (5, .int (jI k))]) hx hb dX9_save_219 hl (k := 4) rfl (jI_add _ _) (by decide) rfl (fun ls hl => ?_)
                    refine lv_goto (tgt := 58) hx hb dX9_save_222 (by decide) ?_
                    have q75 : Frm [7100, 7200, 7300, 7400, 7500] X21 Xa := Frm.tr Frm.rf (Frm.mono hGXa (by first | exact nls_of rfl | decide))
                    have q76 : Frm [7100, 7200, 7300, 7400, 7500] X21 X70 := by rw [hX70]; exact Frm.set q75 (show 7100 ∈ [7100, 7200, 7300, 7400, 7500] by first | exact nlm_in rfl | decide)
                    have q77 : Frm [7100, 7200, 7300, 7400, 7500] X21 X73 := by rw [hX73]; exact Frm.set q76 (show 7200 ∈ [7100, 7200, 7300, 7400, 7500] by first | exact nlm_in rfl | decide)
                    have q78 : Frm [7100, 7200, 7300, 7400, 7500] X21 Xb := Frm.tr q77 (Frm.mono hGXb (by first | exact nls_of rfl | decide))
                    exact ih58 (r + 1) Xb _ _ _ (by omega) hRXb q78 (by omega) (hCb.next (by omega)) (d71) (d72) (CpK.len d73 (by omega)) (CpK.len d74 (by omega)) (CpK.len d75 (by omega)) (by omega) hw hS (lv_sub hl [1, 2, 3, 4, 0] rfl)
                  · refine lv_aload_n hx hb dX9_save_117 rfl (lv_at hl 0 rfl) ?_
                    refine x_geto hx hb hf9 hw (by first | exact Int.le_refl 0 | omega) (by first | exact zlt hc40 | omega) sl_40_32 lk90 dX9_save_118 ?_
                    refine lv_iconst (v := jI 5) hx hb dX9_save_121 rfl ?_
                    refine lv_bipush (v := jI 30) hx hb dX9_save_122 (by decide) ?_
                    refine lv_iload_n hx hb dX9_save_124 rfl (lv_at hl 1 rfl) ?_
                    refine x_imul hx hb dX9_save_125 ?_
                    refine lv_iload hx hb dX9_save_126 (lv_at hl 4 rfl) ?_
                    refine x_iadd hx hb dX9_save_128 ?_
                    refine x_imul hx hb dX9_save_129 ?_
                    refine lv_iload hx hb dX9_save_130 (lv_at hl 5 rfl) ?_
                    refine x_iadd hx hb dX9_save_132 ?_
                    refine lv_aload_n hx hb dX9_save_133 rfl (lv_at hl 0 rfl) ?_
                    refine x_geto hx hb hf9 hw (by first | exact Int.le_refl 0 | omega) (by first | exact zlt hc40 | omega) sl_40_32 lk90 dX9_save_134 ?_
                    refine lv_iconst (v := jI 5) hx hb dX9_save_137 rfl ?_
                    refine lv_bipush (v := jI 120) hx hb dX9_save_138 (by decide) ?_
                    refine lv_iload hx hb dX9_save_140 (lv_at hl 4 rfl) ?_
                    refine x_iadd hx hb dX9_save_142 ?_
                    refine x_imul hx hb dX9_save_143 ?_
                    refine lv_iload hx hb dX9_save_144 (lv_at hl 5 rfl) ?_
                    refine x_iadd hx hb dX9_save_146 ?_
                    refine x_iald hx hb hK.1 hw (by first | exact Int.le_refl 0 | omega) (by first | exact zlt hc73 | omega) ar_73 (len_E ar_73 (by first | exact Nat.ne_of_beq_eq_false rfl | decide)) (by omega) (by omega) (by omega) dX9_save_147 ?_
                    have f79 : 0 ≤ Xb 73 0 ((5 * (120 + r)) + k) ∧ Xb 73 0 ((5 * (120 + r)) + k) ≤ 19 := hRXb 73 0 ((5 * (120 + r)) + k)
                    refine x_iast hx hb hK.1 hw hS (by first | exact Int.le_refl 0 | omega) (by first | exact zlt hc73 | omega) ar_73 (len_E ar_73 (by first | exact Nat.ne_of_beq_eq_false rfl | decide)) (by omega) (by omega) (by omega) dX9_save_148 (fun H locs hw hS => ?_)
                    obtain ⟨X80, hX80⟩ : ∃ Xq, Xq = u3 Xb 73 0 ((5 * ((30 * sv) + r)) + k) (Xb 73 0 ((5 * (120 + r)) + k)) := ⟨_, rfl⟩
                    rw [← hX80] at hw
                    have hRX80 : Rng X80 := by rw [hX80]; exact rng_set hRXb (show 0 ≤ (Xb 73 0 ((5 * (120 + r)) + k)) ∧ (Xb 73 0 ((5 * (120 + r)) + k)) ≤ 19 by omega)
                    have hVX80 : X80 73 0 ((5 * ((30 * sv) + r)) + k) = (Xb 73 0 ((5 * (120 + r)) + k)) := by rw [hX80]; exact u3_s _ _ _ _ _
                    have hFX80 : Frm [4001, 7100, 7200, 7300, 7400, 7500, 8000, 7000, 8100, 7700, 7800, 7900, 7600, 4042, 4043, 4044] X X80 := by rw [hX80]; exact Frm.set hFXb (show 7300 ∈ [4001, 7100, 7200, 7300, 7400, 7500, 8000, 7000, 8100, 7700, 7800, 7900, 7600, 4042, 4043, 4044] by first | exact nlm_in rfl | decide)
                    refine lv_aload_n hx hb dX9_save_149 rfl (lv_at hl 0 rfl) ?_
                    refine x_geto hx hb hf9 hw (by first | exact Int.le_refl 0 | omega) (by first | exact zlt hc40 | omega) sl_40_33 lk93 dX9_save_150 ?_
                    refine lv_iconst (v := jI 5) hx hb dX9_save_153 rfl ?_
                    refine lv_bipush (v := jI 30) hx hb dX9_save_154 (by decide) ?_
                    refine lv_iload_n hx hb dX9_save_156 rfl (lv_at hl 1 rfl) ?_
                    refine x_imul hx hb dX9_save_157 ?_
                    refine lv_iload hx hb dX9_save_158 (lv_at hl 4 rfl) ?_
                    refine x_iadd hx hb dX9_save_160 ?_
                    refine x_imul hx hb dX9_save_161 ?_
                    refine lv_iload hx hb dX9_save_162 (lv_at hl 5 rfl) ?_
                    refine x_iadd hx hb dX9_save_164 ?_
                    refine lv_aload_n hx hb dX9_save_165 rfl (lv_at hl 0 rfl) ?_
                    refine x_geto hx hb hf9 hw (by first | exact Int.le_refl 0 | omega) (by first | exact zlt hc40 | omega) sl_40_33 lk93 dX9_save_166 ?_
                    refine lv_iconst (v := jI 5) hx hb dX9_save_169 rfl ?_
                    refine lv_bipush (v := jI 120) hx hb dX9_save_170 (by decide) ?_
                    refine lv_iload hx hb dX9_save_172 (lv_at hl 4 rfl) ?_
                    refine x_iadd hx hb dX9_save_174 ?_
                    refine x_imul hx hb dX9_save_175 ?_
                    refine lv_iload hx hb dX9_save_176 (lv_at hl 5 rfl) ?_
                    refine x_iadd hx hb dX9_save_178 ?_
                    refine x_iald hx hb hK.1 hw (by first | exact Int.le_refl 0 | omega) (by first | exact zlt hc74 | omega) ar_74 (len_E ar_74 (by first | exact Nat.ne_of_beq_eq_false rfl | decide)) (by omega) (by omega) (by omega) dX9_save_179 ?_
                    have e81 : ∀ p9 q9 : Int, X80 74 p9 q9 = Xb 74 p9 q9 := fun p9 q9 => by rw [hX80, u3_k _ _ _ _ (by first | exact Nat.ne_of_beq_eq_false rfl | decide)]
                    rw [e81 0 ((5 * (120 + r)) + k)]
                    have f82 : 0 ≤ Xb 74 0 ((5 * (120 + r)) + k) ∧ Xb 74 0 ((5 * (120 + r)) + k) ≤ 5 := hRXb 74 0 ((5 * (120 + r)) + k)
                    refine x_iast hx hb hK.1 hw hS (by first | exact Int.le_refl 0 | omega) (by first | exact zlt hc74 | omega) ar_74 (len_E ar_74 (by first | exact Nat.ne_of_beq_eq_false rfl | decide)) (by omega) (by omega) (by omega) dX9_save_180 (fun H locs hw hS => ?_)
                    obtain ⟨X83, hX83⟩ : ∃ Xq, Xq = u3 X80 74 0 ((5 * ((30 * sv) + r)) + k) (Xb 74 0 ((5 * (120 + r)) + k)) := ⟨_, rfl⟩
                    rw [← hX83] at hw
                    have hRX83 : Rng X83 := by rw [hX83]; exact rng_set hRX80 (show 0 ≤ (Xb 74 0 ((5 * (120 + r)) + k)) ∧ (Xb 74 0 ((5 * (120 + r)) + k)) ≤ 5 by omega)
                    have hVX83 : X83 74 0 ((5 * ((30 * sv) + r)) + k) = (Xb 74 0 ((5 * (120 + r)) + k)) := by rw [hX83]; exact u3_s _ _ _ _ _
                    have hFX83 : Frm [4001, 7100, 7200, 7300, 7400, 7500, 8000, 7000, 8100, 7700, 7800, 7900, 7600, 4042, 4043, 4044] X X83 := by rw [hX83]; exact Frm.set hFX80 (show 7400 ∈ [4001, 7100, 7200, 7300, 7400, 7500, 8000, 7000, 8100, 7700, 7800, 7900, 7600, 4042, 4043, 4044] by first | exact nlm_in rfl | decide)
                    refine lv_aload_n hx hb dX9_save_181 rfl (lv_at hl 0 rfl) ?_
                    refine x_geto hx hb hf9 hw (by first | exact Int.le_refl 0 | omega) (by first | exact zlt hc40 | omega) sl_40_34 lk96 dX9_save_182 ?_
                    refine lv_iconst (v := jI 5) hx hb dX9_save_185 rfl ?_
                    refine lv_bipush (v := jI 30) hx hb dX9_save_186 (by decide) ?_
                    refine lv_iload_n hx hb dX9_save_188 rfl (lv_at hl 1 rfl) ?_
                    refine x_imul hx hb dX9_save_189 ?_
                    refine lv_iload hx hb dX9_save_190 (lv_at hl 4 rfl) ?_
                    refine x_iadd hx hb dX9_save_192 ?_
                    refine x_imul hx hb dX9_save_193 ?_
                    refine lv_iload hx hb dX9_save_194 (lv_at hl 5 rfl) ?_
                    refine x_iadd hx hb dX9_save_196 ?_
                    refine lv_aload_n hx hb dX9_save_197 rfl (lv_at hl 0 rfl) ?_
                    refine x_geto hx hb hf9 hw (by first | exact Int.le_refl 0 | omega) (by first | exact zlt hc40 | omega) sl_40_34 lk96 dX9_save_198 ?_
                    refine lv_iconst (v := jI 5) hx hb dX9_save_201 rfl ?_
                    refine lv_bipush (v := jI 120) hx hb dX9_save_202 (by decide) ?_
                    refine lv_iload hx hb dX9_save_204 (lv_at hl 4 rfl) ?_
                    refine x_iadd hx hb dX9_save_206 ?_
                    refine x_imul hx hb dX9_save_207 ?_
                    refine lv_iload hx hb dX9_save_208 (lv_at hl 5 rfl) ?_
                    refine x_iadd hx hb dX9_save_210 ?_
                    refine x_lald hx hb hK.1 hw (by first | exact Int.le_refl 0 | omega) (by first | exact zlt hc75 | omega) ar_75 (len_E ar_75 (by first | exact Nat.ne_of_beq_eq_false rfl | decide)) (by omega) (by omega) (by omega) dX9_save_211 ?_
                    have e84 : ∀ p9 q9 : Int, X83 75 p9 q9 = Xb 75 p9 q9 := fun p9 q9 => by rw [hX83, u3_k _ _ _ _ (by first | exact Nat.ne_of_beq_eq_false rfl | decide), hX80, u3_k _ _ _ _ (by first | exact Nat.ne_of_beq_eq_false rfl | decide)]
                    rw [e84 0 ((5 * (120 + r)) + k)]
                    have f85 : (-9223372036854775808) ≤ Xb 75 0 ((5 * (120 + r)) + k) ∧ Xb 75 0 ((5 * (120 + r)) + k) ≤ 9223372036854775807 := hRXb 75 0 ((5 * (120 + r)) + k)
                    refine x_last hx hb hK.1 hw hS (by first | exact Int.le_refl 0 | omega) (by first | exact zlt hc75 | omega) ar_75 (len_E ar_75 (by first | exact Nat.ne_of_beq_eq_false rfl | decide)) (by omega) (by omega) (by omega) dX9_save_212 (fun H locs hw hS => ?_)
                    obtain ⟨X86, hX86⟩ : ∃ Xq, Xq = u3 X83 75 0 ((5 * ((30 * sv) + r)) + k) (Xb 75 0 ((5 * (120 + r)) + k)) := ⟨_, rfl⟩
                    rw [← hX86] at hw
                    have hRX86 : Rng X86 := by rw [hX86]; exact rng_set hRX83 (show (-9223372036854775808) ≤ (Xb 75 0 ((5 * (120 + r)) + k)) ∧ (Xb 75 0 ((5 * (120 + r)) + k)) ≤ 9223372036854775807 by omega)
                    have hVX86 : X86 75 0 ((5 * ((30 * sv) + r)) + k) = (Xb 75 0 ((5 * (120 + r)) + k)) := by rw [hX86]; exact u3_s _ _ _ _ _
                    have hFX86 : Frm [4001, 7100, 7200, 7300, 7400, 7500, 8000, 7000, 8100, 7700, 7800, 7900, 7600, 4042, 4043, 4044] X X86 := by rw [hX86]; exact Frm.set hFX83 (show 7500 ∈ [4001, 7100, 7200, 7300, 7400, 7500, 8000, 7000, 8100, 7700, 7800, 7900, 7600, 4042, 4043, 4044] by first | exact nlm_in rfl | decide)
                    refine lv_iinc (v := jI (k + 1)) (lv' := [(5, .int (jI (k + 1))), (0, .ref (ad 40 0)), (1, .int (jI sv)), (2, .int (jI x)), (3, .int (jI z12)), (4, .int (jI r))]) hx hb dX9_save_213 hl (k := 5) rfl (jI_add _ _) (by decide) rfl (fun ls hl => ?_)
                    refine lv_goto (tgt := 111) hx hb dX9_save_216 (by decide) ?_
                    have q87 : Frm [7300, 7400, 7500] X73 Xb := Frm.tr Frm.rf (Frm.mono hGXb (by first | exact nls_of rfl | decide))
                    have q88 : Frm [7300, 7400, 7500] X73 X80 := by rw [hX80]; exact Frm.set q87 (show 7300 ∈ [7300, 7400, 7500] by first | exact nlm_in rfl | decide)
                    have q89 : Frm [7300, 7400, 7500] X73 X83 := by rw [hX83]; exact Frm.set q88 (show 7400 ∈ [7300, 7400, 7500] by first | exact nlm_in rfl | decide)
                    have q90 : Frm [7300, 7400, 7500] X73 X86 := by rw [hX86]; exact Frm.set q89 (show 7500 ∈ [7300, 7400, 7500] by first | exact nlm_in rfl | decide)
                    have q91 : Frm [7300, 7400, 7500] Xb X80 := by rw [hX80]; exact Frm.set Frm.rf (show 7300 ∈ [7300, 7400, 7500] by first | exact nlm_in rfl | decide)
                    have q92 : Frm [7300, 7400, 7500] Xb X83 := by rw [hX83]; exact Frm.set q91 (show 7400 ∈ [7300, 7400, 7500] by first | exact nlm_in rfl | decide)
                    have q93 : Frm [7300, 7400, 7500] Xb X86 := by rw [hX86]; exact Frm.set q92 (show 7500 ∈ [7300, 7400, 7500] by first | exact nlm_in rfl | decide)
                    exact ih111 (k + 1) X86 _ _ _ (by omega) hRX86 q90 (by omega) (hCb.s5 (by omega) (by omega) (by omega) hX80 hX83 hX86) (CpK.of d71 (Frm.arr q93 71 (by decide +kernel) (by decide))) (CpK.of d72 (Frm.arr q93 72 (by decide +kernel) (by decide))) (CpK.len (CpK.step (Xc := Xb) (a := 5 * (30 * sv + r) + k) (b := 5 * (120 + r) + k) d73 (by omega) (by omega) rfl (by rw [hX86, u3_k _ _ _ _ (by first | exact Nat.ne_of_beq_eq_false rfl | decide), hX83, u3_k _ _ _ _ (by first | exact Nat.ne_of_beq_eq_false rfl | decide), hX80]) (by omega) rfl (by omega)) (by omega)) (CpK.len (CpK.step (Xc := X80) (a := 5 * (30 * sv + r) + k) (b := 5 * (120 + r) + k) d74 (by omega) (by omega) (by rw [hX80, u3_k _ _ _ _ (by first | exact Nat.ne_of_beq_eq_false rfl | decide)]) (by rw [hX86, u3_k _ _ _ _ (by first | exact Nat.ne_of_beq_eq_false rfl | decide), hX83]) (by omega) rfl (by omega)) (by omega)) (CpK.len (CpK.step (Xc := X83) (a := 5 * (30 * sv + r) + k) (b := 5 * (120 + r) + k) d75 (by omega) (by omega) (by rw [hX83, u3_k _ _ _ _ (by first | exact Nat.ne_of_beq_eq_false rfl | decide), hX80, u3_k _ _ _ _ (by first | exact Nat.ne_of_beq_eq_false rfl | decide)]) (by rw [hX86]) (by omega) rfl (by omega)) (by omega)) hw hS (lv_sub hl [1, 2, 3, 4, 5, 0] rfl)
              have q97 : Frm [7100, 7200] Xa X70 := by rw [hX70]; exact Frm.set Frm.rf (show 7100 ∈ [7100, 7200] by first | exact nlm_in rfl | decide)
              have q98 : Frm [7100, 7200] Xa X73 := by rw [hX73]; exact Frm.set q97 (show 7200 ∈ [7100, 7200] by first | exact nlm_in rfl | decide)
              exact lp111 (5 - 0 : Int).toNat.succ 0 X73 _ _ _ (by omega) hRX73 Frm.rf (by omega) (hCa.s7 (by omega) (by omega) hX70 hX73) (CpK.step (Xc := Xa) (a := 30 * sv + r) (b := 120 + r) c71 (by omega) (by omega) rfl (by rw [hX73, u3_k _ _ _ _ (by first | exact Nat.ne_of_beq_eq_false rfl | decide), hX70]) (by omega) rfl (by omega)) (CpK.step (Xc := X70) (a := 30 * sv + r) (b := 120 + r) c72 (by omega) (by omega) (by rw [hX70, u3_k _ _ _ _ (by first | exact Nat.ne_of_beq_eq_false rfl | decide)]) (by rw [hX73]) (by omega) rfl (by omega)) (CpK.len (CpK.of c73 (Frm.arr q98 73 (by decide +kernel) (by decide))) (by omega)) (CpK.len (CpK.of c74 (Frm.arr q98 74 (by decide +kernel) (by decide))) (by omega)) (CpK.len (CpK.of c75 (Frm.arr q98 75 (by decide +kernel) (by decide))) (by omega)) hw hS (lv_sub hl [1, 2, 3, 4, 5, 0] rfl)
        have q103 : Frm [7000, 7600] X15 X18 := by rw [hX18]; exact Frm.set Frm.rf (show 7000 ∈ [7000, 7600] by first | exact nlm_in rfl | decide)
        have q104 : Frm [7000, 7600] X15 X21 := by rw [hX21]; exact Frm.set q103 (show 7600 ∈ [7000, 7600] by first | exact nlm_in rfl | decide)
        exact lp58 (30 - 0 : Int).toNat.succ 0 X21 _ _ _ (by omega) hRX21 Frm.rf (by omega) (Cpy.in_ (fun j => ⟨(by rw [hX21, u3_k _ _ _ _ (by first | exact Nat.ne_of_beq_eq_false rfl | decide), hX18, u3_k _ _ _ _ (by first | exact Nat.ne_of_beq_eq_false rfl | decide)]), (by rw [hX21, u3_k _ _ _ _ (by first | exact Nat.ne_of_beq_eq_false rfl | decide), hX18, u3_k _ _ _ _ (by first | exact Nat.ne_of_beq_eq_false rfl | decide)]), (by rw [hX21, u3_k _ _ _ _ (by first | exact Nat.ne_of_beq_eq_false rfl | decide), hX18, u3_k _ _ _ _ (by first | exact Nat.ne_of_beq_eq_false rfl | decide)]), (by rw [hX21, u3_k _ _ _ _ (by first | exact Nat.ne_of_beq_eq_false rfl | decide), hX18, u3_k _ _ _ _ (by first | exact Nat.ne_of_beq_eq_false rfl | decide)])⟩)) (CpK.in_ (Frm.arr q104 71 (by decide +kernel) (by decide))) (CpK.in_ (Frm.arr q104 72 (by decide +kernel) (by decide))) (CpK.len (CpK.in_ (Frm.arr q104 73 (by decide +kernel) (by decide))) (by omega)) (CpK.len (CpK.in_ (Frm.arr q104 74 (by decide +kernel) (by decide))) (by omega)) (CpK.len (CpK.in_ (Frm.arr q104 75 (by decide +kernel) (by decide))) (by omega)) (by omega) hw hS (lv_sub hl [2, 3, 4, 1, 0] rfl)
      · refine lv_iload_n hx hb dX9_save_34 rfl (lv_at hl 0 rfl) ?_
        rw [hQ9]
        refine ret_i (mc := 0) (ms := 0) hx hb hr hlocks hw hS (by first | exact Nat.le_of_ble_eq_true rfl | omega) (by first | exact Nat.le_of_ble_eq_true rfl | omega) dX9_save_35 ?_
        have hrd114 := rdr_eq (L := [4001]) q900018 (by decide)
        have hsx115 := hsvX15
        rw [hrd114.1, hrd114.2.1, hrd114.2.2, Frm.arr q900018 48 (by decide +kernel) (by decide), Frm.arr q900018 55 (by decide +kernel) (by decide)] at hsx115
        exact ⟨X15, rfl, hRX15, hFX15, hMIX15, by omega, Or.inr (Or.inl ⟨(by (try delta Hid at *); omega), hm20X15 (by omega), (by rcases hsx115 with ⟨-, -, q⟩ | ⟨q, -⟩; exact q; exfalso; have h9 := recR_pos (fc := fcM X) (la := lnM X) (vl := mRid X) (rid := mRid X) (x := x) 30; omega), S4.tr (S4.frm q900018 (by decide)) h4X15, S5.tr (S5.frm q900018 (by decide)) h5X15⟩)⟩
    · subst ez5
      refine x_if_neF (tgt := 23) hx hb (by omega) (by decide) dX9_save_18 (by decide) ?_
      refine lv_iconst (v := jI (-1)) hx hb dX9_save_21 rfl ?_
      rw [hQ9]
      refine ret_i (mc := 0) (ms := 0) hx hb hr hlocks hw hS (by first | exact Nat.le_of_ble_eq_true rfl | omega) (by first | exact Nat.le_of_ble_eq_true rfl | omega) dX9_save_22 ?_
      have hMq116 : MInv X1 := minv_frm hMI q900018 (by decide)
      exact ⟨X1, rfl, hRX1, hFX1, hMq116, by omega, Or.inl ⟨(fun q => by (try delta Hid at *); omega), by omega, q900018⟩⟩
  · subst ez2
    refine x_if_eqT (tgt := 21) hx hb (by omega) (by decide) dX9_save_10 (by decide) ?_
    refine lv_iconst (v := jI (-1)) hx hb dX9_save_21 rfl ?_
    rw [hQ9]
    refine ret_i (mc := 0) (ms := 0) hx hb hr hlocks hw hS (by first | exact Nat.le_of_ble_eq_true rfl | omega) (by first | exact Nat.le_of_ble_eq_true rfl | omega) dX9_save_22 ?_
    have hMq119 : MInv X1 := minv_frm hMI q900018 (by decide)
    exact ⟨X1, rfl, hRX1, hFX1, hMq119, by omega, Or.inl ⟨(fun q => by (try delta Hid at *); omega), by omega, q900018⟩⟩
end
section
set_option maxHeartbeats 4000000 in
set_option maxRecDepth 100000 in
theorem c_X9_rowBack (l : Launch) (D : va_G) (tc : Nat → ClassId) (base : Nat) (ad : Nat → Int → Nat) (cnt : Nat → Int) (X : Nat → Int → Int → Int) (Y : Nat → Int → Int → Option Int) (ln : Int → Int) (hR : Rng X) (hFx : Fx cnt) (hMI : MInv X) (sv r lane : Int) (hsv : 0 ≤ sv ∧ sv ≤ 3) (hr0 : 0 ≤ r ∧ r ≤ 149) (hlane : 3 ≤ lane ∧ lane ≤ 5) : KI l D tc base yX9_rowBack wsX9_rowBack ({ frames := 2, cells := 0, slots := 0, locals := 46 } : Room) [.ref (ad 40 0), .int (jI sv), .int (jI r), .int (jI lane)] (ad, cnt, X, Y, ln) 0 0 (fun z u => ∃ X1 : Nat → Int → Int → Int, u = (ad, cnt, X1, Y, ln) ∧ Rng X1 ∧ Frm [6000, 5700, 5800, 5900, 8500] X X1 ∧ MInv X1 ∧ (-1 ≤ z ∧ z ≤ 399) ∧ rbM sv r lane X X1 z) := by
  refine K_of (cc := cX9_rowBack) (maxL := 8) (ret := (some .int)) (by decide) rfl (Nat.le_of_ble_eq_true rfl) ?_
  intro p e s m below meth c ls hx hb hr hml hown hts hlocks hl hK hw hS
  have hown : s.vm.findClass RX9 = some m.cls := hown
  obtain ⟨av9, hav9⟩ : ∃ a9 : Array Value, a9 = ([.ref (ad 40 0), .int (jI sv), .int (jI r), .int (jI lane)] : List Value).toArray := ⟨_, rfl⟩
  rw [← hav9] at hts ⊢
  obtain ⟨Q9, hQ9⟩ : ∃ q9Q : State → Prop, q9Q = MQ below (QI D tc base (fun z u => ∃ X1 : Nat → Int → Int → Int, u = (ad, cnt, X1, Y, ln) ∧ Rng X1 ∧ Frm [6000, 5700, 5800, 5900, 8500] X X1 ∧ MInv X1 ∧ (-1 ≤ z ∧ z ≤ 399) ∧ rbM sv r lane X X1 z)) av9 s 0 0 (frA base) := ⟨_, rfl⟩
  rw [← hQ9]
  have hi9 : ∀ w ∈ wsX90, w ∈ wsX9_rowBack := fun w h => List.mem_cons_of_mem _ (List.mem_append_right _ h)
  have hf9 : fctx s m _ RX9 wsX9_rowBack D tc RX9 TX9 51 9 := ⟨hts, hi9, hown, hK.1, rfl⟩
  have lk57 := hts (.fieldLink RX9 57 (TX9 18).1 (TX9 18).2.1 (TX9 18).2.2.1) (gj_X9_rowBack_0 _ (gp_1 (gp_1 gp_h)))
  have lk105 := hts (.fieldLink RX9 105 (TX9 37).1 (TX9 37).2.1 (TX9 37).2.2.1) (gj_X9_rowBack_0 _ (gp_1 gp_h))
  have lk108 := hts (.fieldLink RX9 108 (TX9 38).1 (TX9 38).2.1 (TX9 38).2.2.1) (gj_X9_rowBack_0 _ (gp_1 (gp_1 (gp_1 gp_h))))
  have lk127 := hts (.fieldLink RX9 127 (TX9 44).1 (TX9 44).2.1 (TX9 44).2.2.1) (gj_X9_rowBack_0 _ (gp_h))
  have hc40 : cnt 40 = 1 := hFx.at 40 1 (by decide)
  have hc59 : cnt 59 = 1 := hFx.at 59 1 (by decide)
  have hc78 : cnt 78 = 1 := hFx.at 78 1 (by decide)
  have hc79 : cnt 79 = 1 := hFx.at 79 1 (by decide)
  have hc85 : cnt 85 = 1 := hFx.at 85 1 (by decide)
  have hl : lv_has ls 8 [(0, .ref (ad 40 0)), (1, .int (jI sv)), (2, .int (jI r)), (3, .int (jI lane))] := hl
  have fstypes : 0 ≤ X 40 0 2 ∧ X 40 0 2 ≤ 8 := hR 40 0 2
  have fsthings : 0 ≤ X 40 0 13 ∧ X 40 0 13 ≤ 30 := hR 40 0 13
  have fsmarks : 0 ≤ X 40 0 20 ∧ X 40 0 20 ≤ 4 := hR 40 0 20
  have fsnotes : 0 ≤ X 40 0 22 ∧ X 40 0 22 ≤ 80 := hR 40 0 22
  refine lv_iconst (v := jI 3) hx hb dX9_rowBack_0 rfl ?_
  refine lv_iload_n hx hb dX9_rowBack_1 rfl (lv_at hl 2 rfl) ?_
  refine x_imul hx hb dX9_rowBack_2 ?_
  refine lv_iload_n hx hb dX9_rowBack_3 rfl (lv_at hl 3 rfl) ?_
  refine x_iadd hx hb dX9_rowBack_4 ?_
  refine lv_iconst (v := jI 3) hx hb dX9_rowBack_5 rfl ?_
  refine x_isub hx hb dX9_rowBack_6 ?_
  refine lv_istore (lv' := [(4, .int (jI (((3 * r) + lane) - 3))), (0, .ref (ad 40 0)), (1, .int (jI sv)), (2, .int (jI r)), (3, .int (jI lane))]) hx hb dX9_rowBack_7 hl (by decide) rfl (fun ls hl => ?_)
  refine lv_aload_n hx hb dX9_rowBack_9 rfl (lv_at hl 1 rfl) ?_
  refine x_geto hx hb hf9 hw (by first | exact Int.le_refl 0 | omega) (by first | exact zlt hc40 | omega) sl_40_44 lk127 dX9_rowBack_10 ?_
  refine lv_iload hx hb dX9_rowBack_13 (lv_at hl 0 rfl) ?_
  refine x_iald hx hb hK.1 hw (by first | exact Int.le_refl 0 | omega) (by first | exact zlt hc85 | omega) ar_85 (len_E ar_85 (by first | exact Nat.ne_of_beq_eq_false rfl | decide)) (by omega) (by omega) (by omega) dX9_rowBack_15 ?_
  have f1 : (-1) ≤ X 85 0 (((3 * r) + lane) - 3) ∧ X 85 0 (((3 * r) + lane) - 3) ≤ 399 := hR 85 0 (((3 * r) + lane) - 3)
  refine x_if_ge (tgt := 98) hx hb (by omega) dX9_rowBack_16 (by decide) (fun c2 => ?_) (fun c2 => ?_)
  · refine lv_aload_n hx hb dX9_rowBack_98 rfl (lv_at hl 1 rfl) ?_
    refine x_geto hx hb hf9 hw (by first | exact Int.le_refl 0 | omega) (by first | exact zlt hc40 | omega) sl_40_44 lk127 dX9_rowBack_99 ?_
    refine lv_iload hx hb dX9_rowBack_102 (lv_at hl 0 rfl) ?_
    refine x_iald hx hb hK.1 hw (by first | exact Int.le_refl 0 | omega) (by first | exact zlt hc85 | omega) ar_85 (len_E ar_85 (by first | exact Nat.ne_of_beq_eq_false rfl | decide)) (by omega) (by omega) (by omega) dX9_rowBack_104 ?_
    have f3 : (-1) ≤ X 85 0 (((3 * r) + lane) - 3) ∧ X 85 0 (((3 * r) + lane) - 3) ≤ 399 := hR 85 0 (((3 * r) + lane) - 3)
    rw [hQ9]
    refine ret_i (mc := 0) (ms := 0) hx hb hr hlocks hw hS (by first | exact Nat.le_of_ble_eq_true rfl | omega) (by first | exact Nat.le_of_ble_eq_true rfl | omega) dX9_rowBack_105 ?_
    exact ⟨X, rfl, hR, Frm.rf, hMI, by omega, Or.inl ⟨by omega, by omega, rfl⟩⟩
  · refine lv_aload_n hx hb dX9_rowBack_19 rfl (lv_at hl 1 rfl) ?_
    refine x_geto hx hb hf9 hw (by first | exact Int.le_refl 0 | omega) (by first | exact zlt hc40 | omega) sl_40_37 lk105 dX9_rowBack_20 ?_
    refine lv_sipush (v := jI 150) hx hb dX9_rowBack_23 (by decide) ?_
    refine lv_iload_n hx hb dX9_rowBack_26 rfl (lv_at hl 2 rfl) ?_
    refine x_imul hx hb dX9_rowBack_27 ?_
    refine lv_iload_n hx hb dX9_rowBack_28 rfl (lv_at hl 3 rfl) ?_
    refine x_iadd hx hb dX9_rowBack_29 ?_
    refine x_iald hx hb hK.1 hw (by first | exact Int.le_refl 0 | omega) (by first | exact zlt hc78 | omega) ar_78 (len_E ar_78 (by first | exact Nat.ne_of_beq_eq_false rfl | decide)) (by omega) (by omega) (by omega) dX9_rowBack_30 ?_
    have f4 : 0 ≤ X 78 0 ((150 * sv) + r) ∧ X 78 0 ((150 * sv) + r) ≤ 12 := hR 78 0 ((150 * sv) + r)
    refine lv_istore (lv' := [(5, .int (jI (X 78 0 ((150 * sv) + r)))), (4, .int (jI (((3 * r) + lane) - 3))), (0, .ref (ad 40 0)), (1, .int (jI sv)), (2, .int (jI r)), (3, .int (jI lane))]) hx hb dX9_rowBack_31 hl (by decide) rfl (fun ls hl => ?_)
    refine lv_aload_n hx hb dX9_rowBack_33 rfl (lv_at hl 2 rfl) ?_
    refine lv_iload_n hx hb dX9_rowBack_34 rfl (lv_at hl 5 rfl) ?_
    refine lv_iload hx hb dX9_rowBack_35 (lv_at hl 0 rfl) ?_
    refine gos_i (run_V (As := [.int (jI lane), .int (jI (X 78 0 ((150 * sv) + r)))]) (rest := []) hx hb hml hown hts (c_X9_newRow l D tc base ad cnt X Y ln hR hFx hMI lane (X 78 0 ((150 * sv) + r)) (by omega) (by omega)) (cwV 2 hts gX9_rowBack_X9_newRow rfl rfl rfl (by first | exact hd_X9_newRow | decide +kernel) ⟨Nat.le_of_ble_eq_true rfl, Nat.le_of_ble_eq_true rfl⟩) hK hw (by first | exact Int.le_refl 0 | omega) (by first | exact zlt hc40 | omega) sl_40_0 rfl rfl hl.1 rfl (Nat.le_of_ble_eq_true rfl) dX9_rowBack_37 ⟨Nat.le_of_ble_eq_true rfl, Nat.le_of_ble_eq_true rfl⟩) hS (fun z5 u6 H locs p7 hw hS => ?_)
    obtain ⟨X8, eu6, hRX8, hG9, hMIX8, p7, hnwX8⟩ := p7
    subst eu6
    have hFX8 : Frm [6000, 5700, 5800, 5900, 8500] X X8 := Frm.tr Frm.rf (Frm.mono hG9 (by first | exact nls_of rfl | decide))
    refine lv_istore (lv' := [(6, .int (jI z5)), (5, .int (jI (X 78 0 ((150 * sv) + r)))), (4, .int (jI (((3 * r) + lane) - 3))), (0, .ref (ad 40 0)), (1, .int (jI sv)), (2, .int (jI r)), (3, .int (jI lane))]) hx hb dX9_rowBack_40 hl (by decide) rfl (fun ls hl => ?_)
    refine lv_iconst (v := jI 0) hx hb dX9_rowBack_42 rfl ?_
    refine lv_istore (lv' := [(7, .int (jI 0)), (6, .int (jI z5)), (5, .int (jI (X 78 0 ((150 * sv) + r)))), (4, .int (jI (((3 * r) + lane) - 3))), (0, .ref (ad 40 0)), (1, .int (jI sv)), (2, .int (jI r)), (3, .int (jI lane))]) hx hb dX9_rowBack_43 hl (by decide) rfl (fun ls hl => ?_)
    have lp45 : ∀ (nn : Nat) (k : Int) (Xa : Nat → Int → Int → Int) (H : Heap) (locs : List Loc) (ls : Array Slot), (12 - k) < (nn : Int) → (Rng Xa) → (Frm [5900] X8 Xa) → (0 ≤ k ∧ k ≤ 12) → (∀ j, 0 ≤ j → j < k → Xa 59 0 (12 * z5 + j) = X 79 0 (12 * (150 * sv + r) + j)) → (∀ p, ¬ (12 * z5 ≤ p ∧ p < 12 * z5 + 12) → Xa 59 0 p = X 59 0 p) → wd D tc base (ad, cnt, Xa, Y, ln) H → va_S (frA base) s.heap H locs → lv_has ls 8 [(0, .ref (ad 40 0)), (1, .int (jI sv)), (2, .int (jI r)), (3, .int (jI lane)), (4, .int (jI (((3 * r) + lane) - 3))), (5, .int (jI (X 78 0 ((150 * sv) + r)))), (6, .int (jI z5)), (7, .int (jI k))] → W p l e ({ frames := 2, cells := 0, slots := 0, locals := 46 } : Room) s m av9 below meth c H locs 0 0 Q9 (F0 m 45 ls []) := by
      intro nn
      induction nn with
      | zero => intro k Xa H locs ls hm hRXa hGXa hk hrb hro hw hS hl; exfalso; omega
      | succ nn ih45 =>
        intro k Xa H locs ls hm hRXa hGXa hk hrb hro hw hS hl
        have hFXa : Frm [6000, 5700, 5800, 5900, 8500] X Xa := Frm.tr hFX8 (Frm.mono hGXa (by first | exact nls_of rfl | decide))
        refine lv_iload hx hb dX9_rowBack_45 (lv_at hl 7 rfl) ?_
        refine lv_iload hx hb dX9_rowBack_47 (lv_at hl 5 rfl) ?_
        refine x_icmp_ge (tgt := 89) hx hb (by omega) (by omega) dX9_rowBack_49 (by decide) (fun c10 => ?_) (fun c10 => ?_)
        · refine lv_aload_n hx hb dX9_rowBack_89 rfl (lv_at hl 0 rfl) ?_
          refine x_geto hx hb hf9 hw (by first | exact Int.le_refl 0 | omega) (by first | exact zlt hc40 | omega) sl_40_44 lk127 dX9_rowBack_90 ?_
          refine lv_iload hx hb dX9_rowBack_93 (lv_at hl 4 rfl) ?_
          refine lv_iload hx hb dX9_rowBack_95 (lv_at hl 6 rfl) ?_
          refine x_iast hx hb hK.1 hw hS (by first | exact Int.le_refl 0 | omega) (by first | exact zlt hc85 | omega) ar_85 (len_E ar_85 (by first | exact Nat.ne_of_beq_eq_false rfl | decide)) (by omega) (by omega) (by omega) dX9_rowBack_97 (fun H locs hw hS => ?_)
          obtain ⟨X11, hX11⟩ : ∃ Xq, Xq = u3 Xa 85 0 (((3 * r) + lane) - 3) z5 := ⟨_, rfl⟩
          rw [← hX11] at hw
          have hRX11 : Rng X11 := by rw [hX11]; exact rng_set hRXa (show (-1) ≤ z5 ∧ z5 ≤ 399 by omega)
          have hVX11 : X11 85 0 (((3 * r) + lane) - 3) = z5 := by rw [hX11]; exact u3_s _ _ _ _ _
          have hFX11 : Frm [6000, 5700, 5800, 5900, 8500] X X11 := by rw [hX11]; exact Frm.set hFXa (show 8500 ∈ [6000, 5700, 5800, 5900, 8500] by first | exact nlm_in rfl | decide)
          refine lv_aload_n hx hb dX9_rowBack_98 rfl (lv_at hl 0 rfl) ?_
          refine x_geto hx hb hf9 hw (by first | exact Int.le_refl 0 | omega) (by first | exact zlt hc40 | omega) sl_40_44 lk127 dX9_rowBack_99 ?_
          refine lv_iload hx hb dX9_rowBack_102 (lv_at hl 4 rfl) ?_
          refine x_iald hx hb hK.1 hw (by first | exact Int.le_refl 0 | omega) (by first | exact zlt hc85 | omega) ar_85 (len_E ar_85 (by first | exact Nat.ne_of_beq_eq_false rfl | decide)) (by omega) (by omega) (by omega) dX9_rowBack_104 ?_
          rw [hVX11]
          rw [hQ9]
          refine ret_i (mc := 0) (ms := 0) hx hb hr hlocks hw hS (by first | exact Nat.le_of_ble_eq_true rfl | omega) (by first | exact Nat.le_of_ble_eq_true rfl | omega) dX9_rowBack_105 ?_
          have q13 : Frm [5900, 8500] X8 Xa := Frm.tr Frm.rf (Frm.mono hGXa (by first | exact nls_of rfl | decide))
          have q14 : Frm [5900, 8500] X8 X11 := by rw [hX11]; exact Frm.set q13 (show 8500 ∈ [5900, 8500] by first | exact nlm_in rfl | decide)
          have hMq12 : MInv X11 := minv_frm hMIX8 q14 (by decide)
          have q15 : Frm [6000, 5700, 5800, 5900, 8500] X X8 := Frm.tr Frm.rf (Frm.mono hG9 (by first | exact nls_of rfl | decide))
          have q16 : Frm [6000, 5700, 5800, 5900, 8500] X Xa := Frm.tr q15 (Frm.mono hGXa (by first | exact nls_of rfl | decide))
          have q17 : Frm [6000, 5700, 5800, 5900, 8500] X X11 := by rw [hX11]; exact Frm.set q16 (show 8500 ∈ [6000, 5700, 5800, 5900, 8500] by first | exact nlm_in rfl | decide)
          have q18 : Frm [5900, 8500] X8 Xa := Frm.tr Frm.rf (Frm.mono hGXa (by first | exact nls_of rfl | decide))
          have q19 : Frm [5900, 8500] X8 X11 := by rw [hX11]; exact Frm.set q18 (show 8500 ∈ [5900, 8500] by first | exact nlm_in rfl | decide)
          have q20 : Frm [5900, 8500] X8 Xa := Frm.tr Frm.rf (Frm.mono hGXa (by first | exact nls_of rfl | decide))
          have q21 : Frm [5900, 8500] X8 X11 := by rw [hX11]; exact Frm.set q20 (show 8500 ∈ [5900, 8500] by first | exact nlm_in rfl | decide)
          obtain ⟨hn221, hn222, hn223, hn224, hn225, hn226, hn227⟩ := hnwX8
          exact ⟨X11, rfl, hRX11, hFX11, hMq12, by omega, Or.inr ⟨by omega, ⟨by omega, by omega⟩, ⟨hn221, hn222⟩, ⟨(by rw [(Frm.arr q19 57 (by decide +kernel) (by decide))]; exact hn223), (by rw [(Frm.arr q21 58 (by decide +kernel) (by decide))]; exact hn224)⟩, fun y hy => (by rw [(Frm.arr q19 57 (by decide +kernel) (by decide)), (Frm.arr q21 58 (by decide +kernel) (by decide))]; exact hn225 y hy), fun j a b => (by rw [hX11, u3_k _ _ _ _ (by first | exact Nat.ne_of_beq_eq_false rfl | decide)]; exact hrb j a (by omega)), fun p hp9 => (by rw [hX11, u3_k _ _ _ _ (by first | exact Nat.ne_of_beq_eq_false rfl | decide)]; exact hro p hp9), (by rw [hVX11] <;> omega), fun j hj => (by rw [hX11, u3_j _ _ _ _ hj, hGXa 85 0 j (show 8500 ∉ [5900] by first | exact nlm_ni rfl | decide), hG9 85 0 j (show 8500 ∉ [6000, 5700, 5800, 5900] by first | exact nlm_ni rfl | decide)]), q17⟩⟩
        · refine lv_aload_n hx hb dX9_rowBack_52 rfl (lv_at hl 0 rfl) ?_
          refine x_geto hx hb hf9 hw (by first | exact Int.le_refl 0 | omega) (by first | exact zlt hc40 | omega) sl_40_18 lk57 dX9_rowBack_53 ?_
          refine lv_bipush (v := jI 12) hx hb dX9_rowBack_56 (by decide) ?_
          refine lv_iload hx hb dX9_rowBack_58 (lv_at hl 6 rfl) ?_
          refine x_imul hx hb dX9_rowBack_60 ?_
          refine lv_iload hx hb dX9_rowBack_61 (lv_at hl 7 rfl) ?_
          refine x_iadd hx hb dX9_rowBack_63 ?_
          refine lv_aload_n hx hb dX9_rowBack_64 rfl (lv_at hl 0 rfl) ?_
          refine x_geto hx hb hf9 hw (by first | exact Int.le_refl 0 | omega) (by first | exact zlt hc40 | omega) sl_40_38 lk108 dX9_rowBack_65 ?_
          refine lv_bipush (v := jI 12) hx hb dX9_rowBack_68 (by decide) ?_
          refine lv_sipush (v := jI 150) hx hb dX9_rowBack_70 (by decide) ?_
          refine lv_iload_n hx hb dX9_rowBack_73 rfl (lv_at hl 1 rfl) ?_
          refine x_imul hx hb dX9_rowBack_74 ?_
          refine lv_iload_n hx hb dX9_rowBack_75 rfl (lv_at hl 2 rfl) ?_
          refine x_iadd hx hb dX9_rowBack_76 ?_
          refine x_imul hx hb dX9_rowBack_77 ?_
          refine lv_iload hx hb dX9_rowBack_78 (lv_at hl 7 rfl) ?_
          refine x_iadd hx hb dX9_rowBack_80 ?_
          refine x_lald hx hb hK.1 hw (by first | exact Int.le_refl 0 | omega) (by first | exact zlt hc79 | omega) ar_79 (len_E ar_79 (by first | exact Nat.ne_of_beq_eq_false rfl | decide)) (by omega) (by omega) (by omega) dX9_rowBack_81 ?_
          have e23 : ∀ p9 q9 : Int, Xa 79 p9 q9 = X 79 p9 q9 := fun p9 q9 => by rw [hGXa 79 p9 q9 (show 7900 ∉ [5900] by first | exact nlm_ni rfl | decide), hG9 79 p9 q9 (show 7900 ∉ [6000, 5700, 5800, 5900] by first | exact nlm_ni rfl | decide)]
          rw [e23 0 ((12 * ((150 * sv) + r)) + k)]
          have f24 : (-9223372036854775808) ≤ X 79 0 ((12 * ((150 * sv) + r)) + k) ∧ X 79 0 ((12 * ((150 * sv) + r)) + k) ≤ 9223372036854775807 := hR 79 0 ((12 * ((150 * sv) + r)) + k)
          refine x_last hx hb hK.1 hw hS (by first | exact Int.le_refl 0 | omega) (by first | exact zlt hc59 | omega) ar_59 (len_E ar_59 (by first | exact Nat.ne_of_beq_eq_false rfl | decide)) (by omega) (by omega) (by omega) dX9_rowBack_82 (fun H locs hw hS => ?_)
          obtain ⟨X25, hX25⟩ : ∃ Xq, Xq = u3 Xa 59 0 ((12 * z5) + k) (X 79 0 ((12 * ((150 * sv) + r)) + k)) := ⟨_, rfl⟩
          rw [← hX25] at hw
          have hRX25 : Rng X25 := by rw [hX25]; exact rng_set hRXa (show (-9223372036854775808) ≤ (X 79 0 ((12 * ((150 * sv) + r)) + k)) ∧ (X 79 0 ((12 * ((150 * sv) + r)) + k)) ≤ 9223372036854775807 by omega)
          have hVX25 : X25 59 0 ((12 * z5) + k) = (X 79 0 ((12 * ((150 * sv) + r)) + k)) := by rw [hX25]; exact u3_s _ _ _ _ _
          have hFX25 : Frm [6000, 5700, 5800, 5900, 8500] X X25 := by rw [hX25]; exact Frm.set hFXa (show 5900 ∈ [6000, 5700, 5800, 5900, 8500] by first | exact nlm_in rfl | decide)
          refine lv_iinc (v := jI (k + 1)) (lv' := [(7, .int (jI (k + 1))), (0, .ref (ad 40 0)), (1, .int (jI sv)), (2, .int (jI r)), (3, .int (jI lane)), (4, .int (jI (((3 * r) + lane) - 3))), (5, .int (jI (X 78 0 ((150 * sv) + r)))), (6, .int (jI z5))]) hx hb dX9_rowBack_83 hl (k := 7) rfl (jI_add _ _) (by decide) rfl (fun ls hl => ?_)
          refine lv_goto (tgt := 45) hx hb dX9_rowBack_86 (by decide) ?_
          have q26 : Frm [5900] X8 Xa := Frm.tr Frm.rf (Frm.mono hGXa (by first | exact nls_of rfl | decide))
          have q27 : Frm [5900] X8 X25 := by rw [hX25]; exact Frm.set q26 (show 5900 ∈ [5900] by first | exact nlm_in rfl | decide)
          exact ih45 (k + 1) X25 _ _ _ (by omega) hRX25 q27 (by omega) (fun j a b => if hj : j = k then (by rw [hj]; exact hVX25) else (by rw [hX25, u3_j _ _ _ _ (by omega)]; exact hrb j a (by omega))) (fun p hp9 => (by rw [hX25, u3_j _ _ _ _ (by omega)]; exact hro p hp9)) hw hS (lv_sub hl [1, 2, 3, 4, 5, 6, 7, 0] rfl)
    exact lp45 (12 - 0 : Int).toNat.succ 0 X8 _ _ _ (by omega) hRX8 Frm.rf (by omega) (fun j a b => by omega) (fun p hp9 => (hnwX8.2.2.2.2.2.2 p hp9)) hw hS (lv_sub hl [4, 5, 6, 7, 3, 2, 1, 0] rfl)

set_option maxHeartbeats 4000000 in
set_option maxRecDepth 100000 in
theorem c_X9_fieldsBack (l : Launch) (D : va_G) (tc : Nat → ClassId) (base : Nat) (ad : Nat → Int → Nat) (cnt : Nat → Int) (X : Nat → Int → Int → Int) (Y : Nat → Int → Int → Option Int) (ln : Int → Int) (hR : Rng X) (hFx : Fx cnt) (hMI : MInv X) (sv r rule bs : Int) (hsv : 0 ≤ sv ∧ sv ≤ 3) (hr0 : 0 ≤ r ∧ r < X 70 0 sv) (hrule : -2147483648 ≤ rule ∧ rule ≤ 2147483647) (hbs : 0 ≤ bs) (hbt : bs + X 70 0 sv = X 40 0 13) (htt : X 55 0 (bs + r) = X 71 0 (30 * sv + r)) : KI l D tc base yX9_fieldsBack wsX9_fieldsBack ({ frames := 3, cells := 0, slots := 0, locals := 73 } : Room) [.ref (ad 40 0), .int (jI sv), .int (jI r), .int (jI rule), .int (jI bs)] (ad, cnt, X, Y, ln) 0 0 (fun z u => ∃ X1 : Nat → Int → Int → Int, u = (ad, cnt, X1, Y, ln) ∧ Rng X1 ∧ Frm [5600, 6000, 5700, 5800, 5900, 8500, 4042, 4043, 4044] X X1 ∧ MInv X1 ∧ (-20 ≤ z ∧ z ≤ 0) ∧ (∀ j, j < 5 * bs → X1 56 0 j = X 56 0 j) ∧ fEndM sv r rule bs z X X1) := by
  refine K_of (cc := cX9_fieldsBack) (maxL := 13) (ret := (some .int)) (by decide) rfl (Nat.le_of_ble_eq_true rfl) ?_
  intro p e s m below meth c ls hx hb hr hml hown hts hlocks hl hK hw hS
  have hown : s.vm.findClass RX9 = some m.cls := hown
  obtain ⟨av9, hav9⟩ : ∃ a9 : Array Value, a9 = ([.ref (ad 40 0), .int (jI sv), .int (jI r), .int (jI rule), .int (jI bs)] : List Value).toArray := ⟨_, rfl⟩
  rw [← hav9] at hts ⊢
  obtain ⟨Q9, hQ9⟩ : ∃ q9Q : State → Prop, q9Q = MQ below (QI D tc base (fun z u => ∃ X1 : Nat → Int → Int → Int, u = (ad, cnt, X1, Y, ln) ∧ Rng X1 ∧ Frm [5600, 6000, 5700, 5800, 5900, 8500, 4042, 4043, 4044] X X1 ∧ MInv X1 ∧ (-20 ≤ z ∧ z ≤ 0) ∧ (∀ j, j < 5 * bs → X1 56 0 j = X 56 0 j) ∧ fEndM sv r rule bs z X X1)) av9 s 0 0 (frA base) := ⟨_, rfl⟩
  rw [← hQ9]
  have hi9 : ∀ w ∈ wsX90, w ∈ wsX9_fieldsBack := fun w h => List.mem_cons_of_mem _ (List.mem_append_right _ h)
  have hf9 : fctx s m _ RX9 wsX9_fieldsBack D tc RX9 TX9 51 9 := ⟨hts, hi9, hown, hK.1, rfl⟩
  have lk7 := hts (.fieldLink RX9 7 (TX9 1).1 (TX9 1).2.1 (TX9 1).2.2.1) (gj_X9_fieldsBack_0 _ (gp_4 (gp_1 (gp_1 gp_h))))
  have lk20 := hts (.fieldLink RX9 20 (TX9 5).1 (TX9 5).2.1 (TX9 5).2.2.1) (gj_X9_fieldsBack_0 _ (gp_1 (gp_1 (gp_1 gp_h))))
  have lk45 := hts (.fieldLink RX9 45 (TX9 14).1 (TX9 14).2.1 (TX9 14).2.2.1) (gj_X9_fieldsBack_0 _ (gp_h))
  have lk48 := hts (.fieldLink RX9 48 (TX9 15).1 (TX9 15).2.1 (TX9 15).2.2.1) (gj_X9_fieldsBack_0 _ (gp_4 (gp_4 gp_h)))
  have lk87 := hts (.fieldLink RX9 87 (TX9 31).1 (TX9 31).2.1 (TX9 31).2.2.1) (gj_X9_fieldsBack_0 _ (gp_1 gp_h))
  have lk90 := hts (.fieldLink RX9 90 (TX9 32).1 (TX9 32).2.1 (TX9 32).2.2.1) (gj_X9_fieldsBack_0 _ (gp_1 (gp_1 gp_h)))
  have lk93 := hts (.fieldLink RX9 93 (TX9 33).1 (TX9 33).2.1 (TX9 33).2.2.1) (gj_X9_fieldsBack_0 _ (gp_4 gp_h))
  have lk96 := hts (.fieldLink RX9 96 (TX9 34).1 (TX9 34).2.1 (TX9 34).2.2.1) (gj_X9_fieldsBack_0 _ (gp_4 (gp_1 gp_h)))
  have hc40 : cnt 40 = 1 := hFx.at 40 1 (by decide)
  have hc42 : cnt 42 = 1 := hFx.at 42 1 (by decide)
  have hc46 : cnt 46 = 1 := hFx.at 46 1 (by decide)
  have hc55 : cnt 55 = 1 := hFx.at 55 1 (by decide)
  have hc56 : cnt 56 = 1 := hFx.at 56 1 (by decide)
  have hc72 : cnt 72 = 1 := hFx.at 72 1 (by decide)
  have hc73 : cnt 73 = 1 := hFx.at 73 1 (by decide)
  have hc74 : cnt 74 = 1 := hFx.at 74 1 (by decide)
  have hc75 : cnt 75 = 1 := hFx.at 75 1 (by decide)
  have hl : lv_has ls 13 [(0, .ref (ad 40 0)), (1, .int (jI sv)), (2, .int (jI r)), (3, .int (jI rule)), (4, .int (jI bs))] := hl
  have fstypes : 0 ≤ X 40 0 2 ∧ X 40 0 2 ≤ 8 := hR 40 0 2
  have fsthings : 0 ≤ X 40 0 13 ∧ X 40 0 13 ≤ 30 := hR 40 0 13
  have fsmarks : 0 ≤ X 40 0 20 ∧ X 40 0 20 ≤ 4 := hR 40 0 20
  have fsnotes : 0 ≤ X 40 0 22 ∧ X 40 0 22 ≤ 80 := hR 40 0 22
  have fsm : 0 ≤ X 70 0 sv ∧ X 70 0 sv ≤ 30 := hR 70 0 sv
  have fsf : 0 ≤ X 72 0 (30 * sv + r) ∧ X 72 0 (30 * sv + r) ≤ 5 := hR 72 0 _
  refine lv_iload hx hb dX9_fieldsBack_0 (lv_at hl 4 rfl) ?_
  refine lv_iload_n hx hb dX9_fieldsBack_2 rfl (lv_at hl 2 rfl) ?_
  refine x_iadd hx hb dX9_fieldsBack_3 ?_
  refine lv_istore (lv' := [(5, .int (jI (bs + r))), (0, .ref (ad 40 0)), (1, .int (jI sv)), (2, .int (jI r)), (3, .int (jI rule)), (4, .int (jI bs))]) hx hb dX9_fieldsBack_4 hl (by decide) rfl (fun ls hl => ?_)
  refine lv_aload_n hx hb dX9_fieldsBack_6 rfl (lv_at hl 1 rfl) ?_
  refine x_geto hx hb hf9 hw (by first | exact Int.le_refl 0 | omega) (by first | exact zlt hc40 | omega) sl_40_14 lk45 dX9_fieldsBack_7 ?_
  refine lv_iload hx hb dX9_fieldsBack_10 (lv_at hl 0 rfl) ?_
  refine x_iald hx hb hK.1 hw (by first | exact Int.le_refl 0 | omega) (by first | exact zlt hc55 | omega) ar_55 (len_E ar_55 (by first | exact Nat.ne_of_beq_eq_false rfl | decide)) (by omega) (by omega) (by omega) dX9_fieldsBack_12 ?_
  have f1 : 0 ≤ X 55 0 (bs + r) ∧ X 55 0 (bs + r) ≤ 7 := hR 55 0 (bs + r)
  refine lv_istore (lv' := [(6, .int (jI (X 55 0 (bs + r)))), (5, .int (jI (bs + r))), (0, .ref (ad 40 0)), (1, .int (jI sv)), (2, .int (jI r)), (3, .int (jI rule)), (4, .int (jI bs))]) hx hb dX9_fieldsBack_13 hl (by decide) rfl (fun ls hl => ?_)
  refine lv_iconst (v := jI 0) hx hb dX9_fieldsBack_15 rfl ?_
  refine lv_istore (lv' := [(7, .int (jI 0)), (6, .int (jI (X 55 0 (bs + r)))), (5, .int (jI (bs + r))), (0, .ref (ad 40 0)), (1, .int (jI sv)), (2, .int (jI r)), (3, .int (jI rule)), (4, .int (jI bs))]) hx hb dX9_fieldsBack_16 hl (by decide) rfl (fun ls hl => ?_)
  have lp18 : ∀ (nn : Nat) (k : Int) (Xa : Nat → Int → Int → Int) (H : Heap) (locs : List Loc) (ls : Array Slot), (5 - k) < (nn : Int) → (Rng Xa) → (Frm [5600, 6000, 5700, 5800, 5900, 8500] X Xa) → (0 ≤ k ∧ k ≤ 5) → (MInv Xa) → (∀ j, j < 5 * bs → Xa 56 0 j = X 56 0 j) → (fTrM sv r rule bs k.toNat X Xa) → (k ≤ X 72 0 (30 * sv + r)) → wd D tc base (ad, cnt, Xa, Y, ln) H → va_S (frA base) s.heap H locs → lv_has ls 13 [(0, .ref (ad 40 0)), (1, .int (jI sv)), (2, .int (jI r)), (3, .int (jI rule)), (4, .int (jI bs)), (5, .int (jI (bs + r))), (6, .int (jI (X 55 0 (bs + r)))), (7, .int (jI k))] → W p l e ({ frames := 3, cells := 0, slots := 0, locals := 73 } : Room) s m av9 below meth c H locs 0 0 Q9 (F0 m 18 ls []) := by
    intro nn
    induction nn with
    | zero => intro k Xa H locs ls hm hRXa hGXa hk hMIXa hlo hTr hkf hw hS hl; exfalso; omega
    | succ nn ih18 =>
      intro k Xa H locs ls hm hRXa hGXa hk hMIXa hlo hTr hkf hw hS hl
      have hFXa : Frm [5600, 6000, 5700, 5800, 5900, 8500, 4042, 4043, 4044] X Xa := Frm.tr Frm.rf (Frm.mono hGXa (by first | exact nls_of rfl | decide))
      have q2 : Frm [5600, 5700, 5800, 5900, 6000, 8500] X Xa := Frm.tr Frm.rf (Frm.mono hGXa (by first | exact nls_of rfl | decide))
      have hst := stM_eq q2 (by decide)
      refine lv_iload hx hb dX9_fieldsBack_18 (lv_at hl 7 rfl) ?_
      refine lv_aload_n hx hb dX9_fieldsBack_20 rfl (lv_at hl 0 rfl) ?_
      refine x_geto hx hb hf9 hw (by first | exact Int.le_refl 0 | omega) (by first | exact zlt hc40 | omega) sl_40_31 lk87 dX9_fieldsBack_21 ?_
      refine lv_bipush (v := jI 30) hx hb dX9_fieldsBack_24 (by decide) ?_
      refine lv_iload_n hx hb dX9_fieldsBack_26 rfl (lv_at hl 1 rfl) ?_
      refine x_imul hx hb dX9_fieldsBack_27 ?_
      refine lv_iload_n hx hb dX9_fieldsBack_28 rfl (lv_at hl 2 rfl) ?_
      refine x_iadd hx hb dX9_fieldsBack_29 ?_
      refine x_iald hx hb hK.1 hw (by first | exact Int.le_refl 0 | omega) (by first | exact zlt hc72 | omega) ar_72 (len_E ar_72 (by first | exact Nat.ne_of_beq_eq_false rfl | decide)) (by omega) (by omega) (by omega) dX9_fieldsBack_30 ?_
      have e3 : ∀ p9 q9 : Int, Xa 72 p9 q9 = X 72 p9 q9 := fun p9 q9 => by rw [hGXa 72 p9 q9 (show 7200 ∉ [5600, 6000, 5700, 5800, 5900, 8500] by first | exact nlm_ni rfl | decide)]
      rw [e3 0 ((30 * sv) + r)]
      have f4 : 0 ≤ X 72 0 ((30 * sv) + r) ∧ X 72 0 ((30 * sv) + r) ≤ 5 := hR 72 0 ((30 * sv) + r)
      refine x_icmp_ge (tgt := 256) hx hb (by omega) (by omega) dX9_fieldsBack_31 (by decide) (fun c5 => ?_) (fun c5 => ?_)
      · refine lv_iconst (v := jI 0) hx hb dX9_fieldsBack_256 rfl ?_
        rw [hQ9]
        refine ret_i (mc := 0) (ms := 0) hx hb hr hlocks hw hS (by first | exact Nat.le_of_ble_eq_true rfl | omega) (by first | exact Nat.le_of_ble_eq_true rfl | omega) dX9_fieldsBack_257 ?_
        exact ⟨Xa, rfl, hRXa, hFXa, hMIXa, by omega, fun j hj => (by exact hlo j hj), Or.inl ⟨rfl, (by rw [show X 72 0 (30 * sv + r) = k by omega]; exact hTr)⟩⟩
      · refine lv_iconst (v := jI 5) hx hb dX9_fieldsBack_34 rfl ?_
        refine lv_bipush (v := jI 30) hx hb dX9_fieldsBack_35 (by decide) ?_
        refine lv_iload_n hx hb dX9_fieldsBack_37 rfl (lv_at hl 1 rfl) ?_
        refine x_imul hx hb dX9_fieldsBack_38 ?_
        refine lv_iload_n hx hb dX9_fieldsBack_39 rfl (lv_at hl 2 rfl) ?_
        refine x_iadd hx hb dX9_fieldsBack_40 ?_
        refine x_imul hx hb dX9_fieldsBack_41 ?_
        refine lv_iload hx hb dX9_fieldsBack_42 (lv_at hl 7 rfl) ?_
        refine x_iadd hx hb dX9_fieldsBack_44 ?_
        refine lv_istore (lv' := [(8, .int (jI ((5 * ((30 * sv) + r)) + k))), (0, .ref (ad 40 0)), (1, .int (jI sv)), (2, .int (jI r)), (3, .int (jI rule)), (4, .int (jI bs)), (5, .int (jI (bs + r))), (6, .int (jI (X 55 0 (bs + r)))), (7, .int (jI k))]) hx hb dX9_fieldsBack_45 hl (by decide) rfl (fun ls hl => ?_)
        refine lv_aload_n hx hb dX9_fieldsBack_47 rfl (lv_at hl 1 rfl) ?_
        refine lv_iload hx hb dX9_fieldsBack_48 (lv_at hl 7 rfl) ?_
        refine lv_aload_n hx hb dX9_fieldsBack_50 rfl (lv_at hl 1 rfl) ?_
        refine x_geto hx hb hf9 hw (by first | exact Int.le_refl 0 | omega) (by first | exact zlt hc40 | omega) sl_40_32 lk90 dX9_fieldsBack_51 ?_
        refine lv_iload hx hb dX9_fieldsBack_54 (lv_at hl 0 rfl) ?_
        refine x_iald hx hb hK.1 hw (by first | exact Int.le_refl 0 | omega) (by first | exact zlt hc73 | omega) ar_73 (len_E ar_73 (by first | exact Nat.ne_of_beq_eq_false rfl | decide)) (by omega) (by omega) (by omega) dX9_fieldsBack_56 ?_
        have e6 : ∀ p9 q9 : Int, Xa 73 p9 q9 = X 73 p9 q9 := fun p9 q9 => by rw [hGXa 73 p9 q9 (show 7300 ∉ [5600, 6000, 5700, 5800, 5900, 8500] by first | exact nlm_ni rfl | decide)]
        rw [e6 0 ((5 * ((30 * sv) + r)) + k)]
        have f7 : 0 ≤ X 73 0 ((5 * ((30 * sv) + r)) + k) ∧ X 73 0 ((5 * ((30 * sv) + r)) + k) ≤ 19 := hR 73 0 ((5 * ((30 * sv) + r)) + k)
        refine gos_i (run_V (As := [.int (jI (X 55 0 (bs + r))), .int (jI (X 73 0 ((5 * ((30 * sv) + r)) + k)))]) (rest := []) hx hb hml hown hts (c_X9_named l D tc base ad cnt Xa Y ln hRXa hFx (X 55 0 (bs + r)) (X 73 0 ((5 * ((30 * sv) + r)) + k)) (by omega) (by omega)) (cwV 2 hts gX9_fieldsBack_X9_named rfl rfl rfl (by first | exact hd_X9_named | decide +kernel) ⟨Nat.le_of_ble_eq_true rfl, Nat.le_of_ble_eq_true rfl⟩) hK hw (by first | exact Int.le_refl 0 | omega) (by first | exact zlt hc40 | omega) sl_40_0 rfl rfl hl.1 rfl (Nat.le_of_ble_eq_true rfl) dX9_fieldsBack_57 ⟨Nat.le_of_ble_eq_true rfl, Nat.le_of_ble_eq_true rfl⟩) hS (fun z8 u9 H locs p10 hw hS => ?_)
        obtain ⟨eu9, p10⟩ := p10
        subst eu9
        have e11 : ∀ j : Int, Xa 44 0 j = X 44 0 j := fun j => by rw [hGXa 44 0 j (show 4400 ∉ [5600, 6000, 5700, 5800, 5900, 8500] by first | exact nlm_ni rfl | decide)]
        have e12 : ∀ j : Int, Xa 45 0 j = X 45 0 j := fun j => by rw [hGXa 45 0 j (show 4500 ∉ [5600, 6000, 5700, 5800, 5900, 8500] by first | exact nlm_ni rfl | decide)]
        simp only [e11, e12] at p10
        refine lv_istore (lv' := [(9, .int (jI z8)), (8, .int (jI ((5 * ((30 * sv) + r)) + k))), (0, .ref (ad 40 0)), (1, .int (jI sv)), (2, .int (jI r)), (3, .int (jI rule)), (4, .int (jI bs)), (5, .int (jI (bs + r))), (6, .int (jI (X 55 0 (bs + r)))), (7, .int (jI k))]) hx hb dX9_fieldsBack_60 hl (by decide) rfl (fun ls hl => ?_)
        refine lv_iload hx hb dX9_fieldsBack_62 (lv_at hl 0 rfl) ?_
        have q900022 : Frm [5600, 6000, 5700, 5800, 5900, 8500] X Xa := Frm.tr Frm.rf (Frm.mono hGXa (by first | exact nls_of rfl | decide))
        refine x_if_ge (tgt := 89) hx hb (by omega) dX9_fieldsBack_64 (by decide) (fun c13 => ?_) (fun c13 => ?_)
        · refine lv_aload_n hx hb dX9_fieldsBack_89 rfl (lv_at hl 2 rfl) ?_
          refine x_geto hx hb hf9 hw (by first | exact Int.le_refl 0 | omega) (by first | exact zlt hc40 | omega) sl_40_5 lk20 dX9_fieldsBack_90 ?_
          refine lv_iconst (v := jI 5) hx hb dX9_fieldsBack_93 rfl ?_
          refine lv_iload hx hb dX9_fieldsBack_94 (lv_at hl 8 rfl) ?_
          refine x_imul hx hb dX9_fieldsBack_96 ?_
          refine lv_iload hx hb dX9_fieldsBack_97 (lv_at hl 0 rfl) ?_
          refine x_iadd hx hb dX9_fieldsBack_99 ?_
          refine x_iald hx hb hK.1 hw (by first | exact Int.le_refl 0 | omega) (by first | exact zlt hc46 | omega) ar_46 (len_E ar_46 (by first | exact Nat.ne_of_beq_eq_false rfl | decide)) (by omega) (by omega) (by omega) dX9_fieldsBack_100 ?_
          have e14 : ∀ p9 q9 : Int, Xa 46 p9 q9 = X 46 p9 q9 := fun p9 q9 => by rw [hGXa 46 p9 q9 (show 4600 ∉ [5600, 6000, 5700, 5800, 5900, 8500] by first | exact nlm_ni rfl | decide)]
          rw [e14 0 ((5 * (X 55 0 (bs + r))) + z8)]
          have f15 : 0 ≤ X 46 0 ((5 * (X 55 0 (bs + r))) + z8) ∧ X 46 0 ((5 * (X 55 0 (bs + r))) + z8) ≤ 5 := hR 46 0 ((5 * (X 55 0 (bs + r))) + z8)
          refine lv_istore (lv' := [(10, .int (jI (X 46 0 ((5 * (X 55 0 (bs + r))) + z8)))), (9, .int (jI z8)), (8, .int (jI ((5 * ((30 * sv) + r)) + k))), (0, .ref (ad 40 0)), (1, .int (jI sv)), (2, .int (jI r)), (3, .int (jI rule)), (4, .int (jI bs)), (5, .int (jI (bs + r))), (6, .int (jI (X 55 0 (bs + r)))), (7, .int (jI k))]) hx hb dX9_fieldsBack_101 hl (by decide) rfl (fun ls hl => ?_)
          refine lv_aload_n hx hb dX9_fieldsBack_103 rfl (lv_at hl 3 rfl) ?_
          refine x_geto hx hb hf9 hw (by first | exact Int.le_refl 0 | omega) (by first | exact zlt hc40 | omega) sl_40_33 lk93 dX9_fieldsBack_104 ?_
          refine lv_iload hx hb dX9_fieldsBack_107 (lv_at hl 2 rfl) ?_
          refine x_iald hx hb hK.1 hw (by first | exact Int.le_refl 0 | omega) (by first | exact zlt hc74 | omega) ar_74 (len_E ar_74 (by first | exact Nat.ne_of_beq_eq_false rfl | decide)) (by omega) (by omega) (by omega) dX9_fieldsBack_109 ?_
          have e16 : ∀ p9 q9 : Int, Xa 74 p9 q9 = X 74 p9 q9 := fun p9 q9 => by rw [hGXa 74 p9 q9 (show 7400 ∉ [5600, 6000, 5700, 5800, 5900, 8500] by first | exact nlm_ni rfl | decide)]
          rw [e16 0 ((5 * ((30 * sv) + r)) + k)]
          have f17 : 0 ≤ X 74 0 ((5 * ((30 * sv) + r)) + k) ∧ X 74 0 ((5 * ((30 * sv) + r)) + k) ≤ 5 := hR 74 0 ((5 * ((30 * sv) + r)) + k)
          refine lv_iload hx hb dX9_fieldsBack_110 (lv_at hl 0 rfl) ?_
          refine gos_i (run_S (As := [.int (jI (X 74 0 ((5 * ((30 * sv) + r)) + k))), .int (jI (X 46 0 ((5 * (X 55 0 (bs + r))) + z8)))]) (rest := []) hx hb hml hown hts (c_X9_goes l D tc base ad cnt Xa Y ln (X 74 0 ((5 * ((30 * sv) + r)) + k)) (X 46 0 ((5 * (X 55 0 (bs + r))) + z8)) (by omega) (by omega)) (cwS 2 hts gX9_fieldsBack_X9_goes rfl rfl rfl (by first | exact hd_X9_goes | decide +kernel) ⟨Nat.le_of_ble_eq_true rfl, Nat.le_of_ble_eq_true rfl⟩) hK hw rfl hl.1 rfl (Nat.le_of_ble_eq_true rfl) dX9_fieldsBack_112 ⟨Nat.le_of_ble_eq_true rfl, Nat.le_of_ble_eq_true rfl⟩) hS (fun z18 u19 H locs p20 hw hS => ?_)
          obtain ⟨eu19, p20⟩ := p20
          subst eu19
          rcases p20 with ⟨ez18, p20⟩ | ⟨ez18, p20⟩
          · subst ez18
            refine x_if_neT (tgt := 134) hx hb (by omega) (by decide) dX9_fieldsBack_115 (by decide) ?_
            refine lv_aload_n hx hb dX9_fieldsBack_134 rfl (lv_at hl 3 rfl) ?_
            refine x_geto hx hb hf9 hw (by first | exact Int.le_refl 0 | omega) (by first | exact zlt hc40 | omega) sl_40_34 lk96 dX9_fieldsBack_135 ?_
            refine lv_iload hx hb dX9_fieldsBack_138 (lv_at hl 2 rfl) ?_
            obtain ⟨hv1, hv2, hv3⟩ := (hMI.2.2.1 sv r (by omega) (by omega) (by omega) (by omega)).2 k (by omega) (by omega)
            refine x_lald hx hb hK.1 hw (by first | exact Int.le_refl 0 | omega) (by first | exact zlt hc75 | omega) ar_75 (len_E ar_75 (by first | exact Nat.ne_of_beq_eq_false rfl | decide)) (by omega) (by omega) (by omega) dX9_fieldsBack_140 ?_
            have e21 : ∀ p9 q9 : Int, Xa 75 p9 q9 = X 75 p9 q9 := fun p9 q9 => by rw [hGXa 75 p9 q9 (show 7500 ∉ [5600, 6000, 5700, 5800, 5900, 8500] by first | exact nlm_ni rfl | decide)]
            rw [e21 0 ((5 * ((30 * sv) + r)) + k)]
            have f22 : (-9223372036854775808) ≤ X 75 0 ((5 * ((30 * sv) + r)) + k) ∧ X 75 0 ((5 * ((30 * sv) + r)) + k) ≤ 9223372036854775807 := hR 75 0 ((5 * ((30 * sv) + r)) + k)
            refine lv_lstore (lv' := [(11, .long (jL (X 75 0 ((5 * ((30 * sv) + r)) + k)))), (10, .int (jI (X 46 0 ((5 * (X 55 0 (bs + r))) + z8)))), (9, .int (jI z8)), (8, .int (jI ((5 * ((30 * sv) + r)) + k))), (0, .ref (ad 40 0)), (1, .int (jI sv)), (2, .int (jI r)), (3, .int (jI rule)), (4, .int (jI bs)), (5, .int (jI (bs + r))), (6, .int (jI (X 55 0 (bs + r)))), (7, .int (jI k))]) hx hb dX9_fieldsBack_141 hl (by decide) rfl (fun ls hl => ?_)
            refine lv_iload hx hb dX9_fieldsBack_143 (lv_at hl 1 rfl) ?_
            refine lv_iconst (v := jI 1) hx hb dX9_fieldsBack_145 rfl ?_
            have q900024 : Xa 40 0 13 = X 40 0 13 := by rw [hGXa 40 0 13 (show 4014 ∉ [5600, 6000, 5700, 5800, 5900, 8500] by first | exact nlm_ni rfl | decide)]
            refine x_icmp_ne (tgt := 194) hx hb (by omega) (by omega) dX9_fieldsBack_146 (by decide) (fun c23 => ?_) (fun c23 => ?_)
            · refine lv_aload_n hx hb dX9_fieldsBack_194 rfl (lv_at hl 4 rfl) ?_
              refine x_geto hx hb hf9 hw (by first | exact Int.le_refl 0 | omega) (by first | exact zlt hc40 | omega) sl_40_15 lk48 dX9_fieldsBack_195 ?_
              refine lv_iconst (v := jI 5) hx hb dX9_fieldsBack_198 rfl ?_
              refine lv_iload hx hb dX9_fieldsBack_199 (lv_at hl 9 rfl) ?_
              refine x_imul hx hb dX9_fieldsBack_201 ?_
              refine lv_iload hx hb dX9_fieldsBack_202 (lv_at hl 2 rfl) ?_
              refine x_iadd hx hb dX9_fieldsBack_204 ?_
              refine lv_iload hx hb dX9_fieldsBack_205 (lv_at hl 1 rfl) ?_
              refine lv_iconst (v := jI 2) hx hb dX9_fieldsBack_207 rfl ?_
              refine x_icmp_lt (tgt := 218) hx hb (by omega) (by omega) dX9_fieldsBack_208 (by decide) (fun c24 => ?_) (fun c24 => ?_)
              · refine lv_lload hx hb dX9_fieldsBack_218 (lv_at hl 0 rfl) ?_
                refine lv_goto (tgt := 249) hx hb dX9_fieldsBack_220 (by decide) ?_
                refine x_last hx hb hK.1 hw hS (by first | exact Int.le_refl 0 | omega) (by first | exact zlt hc56 | omega) ar_56 (len_E ar_56 (by first | exact Nat.ne_of_beq_eq_false rfl | decide)) (by omega) (by omega) (by omega) dX9_fieldsBack_249 (fun H locs hw hS => ?_)
                obtain ⟨X25, hX25⟩ : ∃ Xq, Xq = u3 Xa 56 0 ((5 * (bs + r)) + z8) (X 75 0 ((5 * ((30 * sv) + r)) + k)) := ⟨_, rfl⟩
                rw [← hX25] at hw
                have hRX25 : Rng X25 := by rw [hX25]; exact rng_set hRXa (show (-9223372036854775808) ≤ (X 75 0 ((5 * ((30 * sv) + r)) + k)) ∧ (X 75 0 ((5 * ((30 * sv) + r)) + k)) ≤ 9223372036854775807 by omega)
                have hVX25 : X25 56 0 ((5 * (bs + r)) + z8) = (X 75 0 ((5 * ((30 * sv) + r)) + k)) := by rw [hX25]; exact u3_s _ _ _ _ _
                have hFX25 : Frm [5600, 6000, 5700, 5800, 5900, 8500, 4042, 4043, 4044] X X25 := by rw [hX25]; exact Frm.set hFXa (show 5600 ∈ [5600, 6000, 5700, 5800, 5900, 8500, 4042, 4043, 4044] by first | exact nlm_in rfl | decide)
                refine lv_iinc (v := jI (k + 1)) (lv' := [(7, .int (jI (k + 1))), (11, .long (jL (X 75 0 ((5 * ((30 * sv) + r)) + k)))), (10, .int (jI (X 46 0 ((5 * (X 55 0 (bs + r))) + z8)))), (9, .int (jI z8)), (8, .int (jI ((5 * ((30 * sv) + r)) + k))), (0, .ref (ad 40 0)), (1, .int (jI sv)), (2, .int (jI r)), (3, .int (jI rule)), (4, .int (jI bs)), (5, .int (jI (bs + r))), (6, .int (jI (X 55 0 (bs + r))))]) hx hb dX9_fieldsBack_250 hl (k := 11) rfl (jI_add _ _) (by decide) rfl (fun ls hl => ?_)
                refine lv_goto (tgt := 18) hx hb dX9_fieldsBack_253 (by decide) ?_
                have q27 : Frm [5600, 6000, 5700, 5800, 5900, 8500] X X25 := by rw [hX25]; exact Frm.set q900022 (show 5600 ∈ [5600, 6000, 5700, 5800, 5900, 8500] by first | exact nlm_in rfl | decide)
                have e29 : ∀ j : Int, Xa 44 0 j = X 44 0 j := fun j => by rw [hGXa 44 0 j (show 4400 ∉ [5600, 6000, 5700, 5800, 5900, 8500] by first | exact nlm_ni rfl | decide)]
                have e30 : ∀ j : Int, Xa 55 0 j = X 55 0 j := fun j => by rw [hGXa 55 0 j (show 5500 ∉ [5600, 6000, 5700, 5800, 5900, 8500] by first | exact nlm_ni rfl | decide)]
                have e31 : ∀ j : Int, Xa 46 0 j = X 46 0 j := fun j => by rw [hGXa 46 0 j (show 4600 ∉ [5600, 6000, 5700, 5800, 5900, 8500] by first | exact nlm_ni rfl | decide)]
                have ht32o : toM X sv r k = z8 := by unfold toM; rw [← htt]; exact (p10.2.2.2).symm
                have ht32l : tlM X sv r k = X 46 0 (5 * X 55 0 (bs + r) + z8) := by unfold tlM; rw [ht32o, ← htt]
                have htw33 : twM Xa sv r k = (X 75 0 ((5 * ((30 * sv) + r)) + k)) := (by rw [hst.2.2.2.1]; unfold twM tvM; rw [ht32l]; split <;> omega)
                exact ih18 (k + 1) X25 _ _ _ (by omega) hRX25 q27 (by omega) (by rw [hX25]; exact minv_xval hMIXa hRXa (by omega) (by simp only [q900024, e29, e30, e31]; omega) (by omega) (by simp only [q900024, e29, e30, e31]; omega) (by unfold tyv; simp only [q900024, e29, e30, e31]; exact ⟨fun _ => by omega, fun _ => by omega, fun _ => by omega⟩)) (fun j hj => (by rw [hX25, u3_j _ _ _ _ (by omega)]; exact hlo j hj)) (fTrM.push hTr (by omega) (by rw [hst.2.2.2.2]; exact (by unfold fvM; rw [ht32o, ht32l]; exact fvF_0 (by omega) (by (try delta Hid at *); omega) (by unfold tvM andZ; omega))) (Or.inr (Or.inl ⟨(by rw [hst.1, ht32o]; omega), (by rw [hst.2.1, ht32l, htw33]; omega), (by rw [htw33, hst.1, ht32o]; exact hX25)⟩))) (by omega) hw hS (lv_sub hl [5, 6, 7, 8, 9, 10, 11, 0] rfl)
              · refine lv_lload hx hb dX9_fieldsBack_211 (lv_at hl 0 rfl) ?_
                refine lv_lconst (v := jL 0) hx hb dX9_fieldsBack_213 (by decide) ?_
                refine x_lcmp hx hb (by omega) (by omega) dX9_fieldsBack_214 ?_
                obtain ⟨z34, ez34⟩ : ∃ y : Int, y = cmpZ (X 75 0 ((5 * ((30 * sv) + r)) + k)) 0 := ⟨_, rfl⟩
                rw [← ez34]
                have gz34 : (z34 < 0 ↔ ((X 75 0 ((5 * ((30 * sv) + r)) + k)) : Int) < 0) ∧ (z34 = 0 ↔ ((X 75 0 ((5 * ((30 * sv) + r)) + k)) : Int) = 0) ∧ -1 ≤ z34 ∧ z34 ≤ 1 := by rw [ez34]; exact ⟨cmpZ_lt, cmpZ_eq, (cmpZ_r _ _).1, (cmpZ_r _ _).2⟩
                clear ez34
                refine x_if_ge (tgt := 223) hx hb (by omega) dX9_fieldsBack_215 (by decide) (fun c35 => ?_) (fun c35 => ?_)
                · replace c35 := cz_geT gz34 c35
                  clear gz34
                  refine lv_iload hx hb dX9_fieldsBack_223 (lv_at hl 1 rfl) ?_
                  refine lv_iconst (v := jI 2) hx hb dX9_fieldsBack_225 rfl ?_
                  refine x_icmp_ne (tgt := 238) hx hb (by omega) (by omega) dX9_fieldsBack_226 (by decide) (fun c36 => ?_) (fun c36 => ?_)
                  · refine lv_aload_n hx hb dX9_fieldsBack_238 rfl (lv_at hl 4 rfl) ?_
                    refine lv_iload_n hx hb dX9_fieldsBack_239 rfl (lv_at hl 5 rfl) ?_
                    refine lv_lload hx hb dX9_fieldsBack_240 (lv_at hl 0 rfl) ?_
                    refine x_l2i hx hb dX9_fieldsBack_242 ?_
                    refine lv_iload hx hb dX9_fieldsBack_243 (lv_at hl 1 rfl) ?_
                    refine gos_i (run_V (As := [.int (jI sv), .int (jI (X 75 0 ((5 * ((30 * sv) + r)) + k))), .int (jI (X 46 0 ((5 * (X 55 0 (bs + r))) + z8)))]) (rest := [.int (jI ((5 * (bs + r)) + z8)), .ref (ad 56 0)]) hx hb hml hown hts (c_X9_rowBack l D tc base ad cnt Xa Y ln hRXa hFx hMIXa sv (X 75 0 ((5 * ((30 * sv) + r)) + k)) (X 46 0 ((5 * (X 55 0 (bs + r))) + z8)) (by omega) (by omega) (by omega)) (cwV 3 hts gX9_fieldsBack_X9_rowBack rfl rfl rfl (by first | exact hd_X9_rowBack | decide +kernel) ⟨Nat.le_of_ble_eq_true rfl, Nat.le_of_ble_eq_true rfl⟩) hK hw (by first | exact Int.le_refl 0 | omega) (by first | exact zlt hc40 | omega) sl_40_0 rfl rfl hl.1 rfl (Nat.le_of_ble_eq_true rfl) dX9_fieldsBack_245 ⟨Nat.le_of_ble_eq_true rfl, Nat.le_of_ble_eq_true rfl⟩) hS (fun z37 u38 H locs p39 hw hS => ?_)
                    obtain ⟨X40, eu38, hRX40, hG41, hMIX40, p39, hrbkX40⟩ := p39
                    subst eu38
                    have hFX40 : Frm [5600, 6000, 5700, 5800, 5900, 8500, 4042, 4043, 4044] X X40 := Frm.tr hFXa (Frm.mono hG41 (by first | exact nls_of rfl | decide))
                    refine x_i2l hx hb (by omega) dX9_fieldsBack_248 ?_
                    refine x_last hx hb hK.1 hw hS (by first | exact Int.le_refl 0 | omega) (by first | exact zlt hc56 | omega) ar_56 (len_E ar_56 (by first | exact Nat.ne_of_beq_eq_false rfl | decide)) (by omega) (by omega) (by omega) dX9_fieldsBack_249 (fun H locs hw hS => ?_)
                    obtain ⟨X42, hX42⟩ : ∃ Xq, Xq = u3 X40 56 0 ((5 * (bs + r)) + z8) z37 := ⟨_, rfl⟩
                    rw [← hX42] at hw
                    have hRX42 : Rng X42 := by rw [hX42]; exact rng_set hRX40 (show (-9223372036854775808) ≤ z37 ∧ z37 ≤ 9223372036854775807 by omega)
                    have hVX42 : X42 56 0 ((5 * (bs + r)) + z8) = z37 := by rw [hX42]; exact u3_s _ _ _ _ _
                    have hFX42 : Frm [5600, 6000, 5700, 5800, 5900, 8500, 4042, 4043, 4044] X X42 := by rw [hX42]; exact Frm.set hFX40 (show 5600 ∈ [5600, 6000, 5700, 5800, 5900, 8500, 4042, 4043, 4044] by first | exact nlm_in rfl | decide)
                    refine lv_iinc (v := jI (k + 1)) (lv' := [(7, .int (jI (k + 1))), (11, .long (jL (X 75 0 ((5 * ((30 * sv) + r)) + k)))), (10, .int (jI (X 46 0 ((5 * (X 55 0 (bs + r))) + z8)))), (9, .int (jI z8)), (8, .int (jI ((5 * ((30 * sv) + r)) + k))), (0, .ref (ad 40 0)), (1, .int (jI sv)), (2, .int (jI r)), (3, .int (jI rule)), (4, .int (jI bs)), (5, .int (jI (bs + r))), (6, .int (jI (X 55 0 (bs + r))))]) hx hb dX9_fieldsBack_250 hl (k := 11) rfl (jI_add _ _) (by decide) rfl (fun ls hl => ?_)
                    refine lv_goto (tgt := 18) hx hb dX9_fieldsBack_253 (by decide) ?_
                    have q44 : Frm [5600, 6000, 5700, 5800, 5900, 8500] X X40 := Frm.tr q900022 (Frm.mono hG41 (by first | exact nls_of rfl | decide))
                    have q45 : Frm [5600, 6000, 5700, 5800, 5900, 8500] X X42 := by rw [hX42]; exact Frm.set q44 (show 5600 ∈ [5600, 6000, 5700, 5800, 5900, 8500] by first | exact nlm_in rfl | decide)
                    have e46 : X40 40 0 13 = X 40 0 13 := by rw [hG41 40 0 13 (show 4014 ∉ [6000, 5700, 5800, 5900, 8500] by first | exact nlm_ni rfl | decide), hGXa 40 0 13 (show 4014 ∉ [5600, 6000, 5700, 5800, 5900, 8500] by first | exact nlm_ni rfl | decide)]
                    have e47 : ∀ j : Int, X40 44 0 j = X 44 0 j := fun j => by rw [hG41 44 0 j (show 4400 ∉ [6000, 5700, 5800, 5900, 8500] by first | exact nlm_ni rfl | decide), hGXa 44 0 j (show 4400 ∉ [5600, 6000, 5700, 5800, 5900, 8500] by first | exact nlm_ni rfl | decide)]
                    have e48 : ∀ j : Int, X40 55 0 j = X 55 0 j := fun j => by rw [hG41 55 0 j (show 5500 ∉ [6000, 5700, 5800, 5900, 8500] by first | exact nlm_ni rfl | decide), hGXa 55 0 j (show 5500 ∉ [5600, 6000, 5700, 5800, 5900, 8500] by first | exact nlm_ni rfl | decide)]
                    have e49 : ∀ j : Int, X40 46 0 j = X 46 0 j := fun j => by rw [hG41 46 0 j (show 4600 ∉ [6000, 5700, 5800, 5900, 8500] by first | exact nlm_ni rfl | decide), hGXa 46 0 j (show 4600 ∉ [5600, 6000, 5700, 5800, 5900, 8500] by first | exact nlm_ni rfl | decide)]
                    have ht50o : toM X sv r k = z8 := by unfold toM; rw [← htt]; exact (p10.2.2.2).symm
                    have ht50l : tlM X sv r k = X 46 0 (5 * X 55 0 (bs + r) + z8) := by unfold tlM; rw [ht50o, ← htt]
                    have htw51 : twM Xa sv r k = X 75 0 (5 * (30 * sv + r) + k) := (by rw [hst.2.2.2.1]; unfold twM tvM; rw [ht50l]; split <;> omega)
                    exact ih18 (k + 1) X42 _ _ _ (by omega) hRX42 q45 (by omega) (by rw [hX42]; exact minv_xval hMIX40 hRX40 (by omega) (by simp only [e46, e47, e48, e49]; omega) (by omega) (by simp only [e46, e47, e48, e49]; omega) (by unfold tyv; simp only [e46, e47, e48, e49]; exact ⟨fun _ => by omega, fun _ => by omega, fun _ => by omega⟩)) (fun j hj => (by rw [hX42, u3_j _ _ _ _ (by omega), hG41 56 0 j (show 5600 ∉ [6000, 5700, 5800, 5900, 8500] by first | exact nlm_ni rfl | decide)]; exact hlo j hj)) ((by first | exact fTrM.push hTr (by omega) (by rw [hst.2.2.2.2]; exact (by unfold fvM; rw [ht50o, ht50l]; exact fvF_0 (by omega) (by (try delta Hid at *); omega) (by unfold tvM andZ; omega))) (Or.inr (Or.inr (Or.inr ⟨(by rw [hst.1, ht50o]; omega), (by rw [hst.2.1, ht50l]; omega), (by rw [htw51]; omega), X40, z37, (by rw [htw51, hst.2.1, ht50l]; exact hrbkX40), (by rw [hst.1, ht50o]; exact hX42)⟩))) | (exfalso; omega))) (by omega) hw hS (lv_sub hl [5, 6, 7, 8, 9, 10, 11, 0] rfl)
                  · refine lv_iload hx hb dX9_fieldsBack_229 (lv_at hl 8 rfl) ?_
                    refine x_i2l hx hb (by omega) dX9_fieldsBack_231 ?_
                    refine lv_lload hx hb dX9_fieldsBack_232 (lv_at hl 0 rfl) ?_
                    refine x_ladd hx hb dX9_fieldsBack_234 ?_
                    refine lv_goto (tgt := 249) hx hb dX9_fieldsBack_235 (by decide) ?_
                    refine x_last hx hb hK.1 hw hS (by first | exact Int.le_refl 0 | omega) (by first | exact zlt hc56 | omega) ar_56 (len_E ar_56 (by first | exact Nat.ne_of_beq_eq_false rfl | decide)) (by omega) (by omega) (by omega) dX9_fieldsBack_249 (fun H locs hw hS => ?_)
                    obtain ⟨X52, hX52⟩ : ∃ Xq, Xq = u3 Xa 56 0 ((5 * (bs + r)) + z8) (bs + (X 75 0 ((5 * ((30 * sv) + r)) + k))) := ⟨_, rfl⟩
                    rw [← hX52] at hw
                    have hRX52 : Rng X52 := by rw [hX52]; exact rng_set hRXa (show (-9223372036854775808) ≤ (bs + (X 75 0 ((5 * ((30 * sv) + r)) + k))) ∧ (bs + (X 75 0 ((5 * ((30 * sv) + r)) + k))) ≤ 9223372036854775807 by omega)
                    have hVX52 : X52 56 0 ((5 * (bs + r)) + z8) = (bs + (X 75 0 ((5 * ((30 * sv) + r)) + k))) := by rw [hX52]; exact u3_s _ _ _ _ _
                    have hFX52 : Frm [5600, 6000, 5700, 5800, 5900, 8500, 4042, 4043, 4044] X X52 := by rw [hX52]; exact Frm.set hFXa (show 5600 ∈ [5600, 6000, 5700, 5800, 5900, 8500, 4042, 4043, 4044] by first | exact nlm_in rfl | decide)
                    refine lv_iinc (v := jI (k + 1)) (lv' := [(7, .int (jI (k + 1))), (11, .long (jL (X 75 0 ((5 * ((30 * sv) + r)) + k)))), (10, .int (jI (X 46 0 ((5 * (X 55 0 (bs + r))) + z8)))), (9, .int (jI z8)), (8, .int (jI ((5 * ((30 * sv) + r)) + k))), (0, .ref (ad 40 0)), (1, .int (jI sv)), (2, .int (jI r)), (3, .int (jI rule)), (4, .int (jI bs)), (5, .int (jI (bs + r))), (6, .int (jI (X 55 0 (bs + r))))]) hx hb dX9_fieldsBack_250 hl (k := 11) rfl (jI_add _ _) (by decide) rfl (fun ls hl => ?_)
                    refine lv_goto (tgt := 18) hx hb dX9_fieldsBack_253 (by decide) ?_
                    have q54 : Frm [5600, 6000, 5700, 5800, 5900, 8500] X X52 := by rw [hX52]; exact Frm.set q900022 (show 5600 ∈ [5600, 6000, 5700, 5800, 5900, 8500] by first | exact nlm_in rfl | decide)
                    have e56 : ∀ j : Int, Xa 44 0 j = X 44 0 j := fun j => by rw [hGXa 44 0 j (show 4400 ∉ [5600, 6000, 5700, 5800, 5900, 8500] by first | exact nlm_ni rfl | decide)]
                    have e57 : ∀ j : Int, Xa 55 0 j = X 55 0 j := fun j => by rw [hGXa 55 0 j (show 5500 ∉ [5600, 6000, 5700, 5800, 5900, 8500] by first | exact nlm_ni rfl | decide)]
                    have e58 : ∀ j : Int, Xa 46 0 j = X 46 0 j := fun j => by rw [hGXa 46 0 j (show 4600 ∉ [5600, 6000, 5700, 5800, 5900, 8500] by first | exact nlm_ni rfl | decide)]
                    have ht59o : toM X sv r k = z8 := by unfold toM; rw [← htt]; exact (p10.2.2.2).symm
                    have ht59l : tlM X sv r k = X 46 0 (5 * X 55 0 (bs + r) + z8) := by unfold tlM; rw [ht59o, ← htt]
                    have htw60 : twM Xa sv r k = X 75 0 (5 * (30 * sv + r) + k) := (by rw [hst.2.2.2.1]; unfold twM tvM; rw [ht59l]; split <;> omega)
                    exact ih18 (k + 1) X52 _ _ _ (by omega) hRX52 q54 (by omega) (by rw [hX52]; exact minv_xval hMIXa hRXa (by omega) (by simp only [q900024, e56, e57, e58]; omega) (by omega) (by simp only [q900024, e56, e57, e58]; omega) (by unfold tyv; simp only [q900024, e56, e57, e58]; exact ⟨fun _ => by omega, fun _ => by omega, fun _ => by omega⟩)) (fun j hj => (by rw [hX52, u3_j _ _ _ _ (by omega)]; exact hlo j hj)) ((by first | exact fTrM.push hTr (by omega) (by rw [hst.2.2.2.2]; exact (by unfold fvM; rw [ht59o, ht59l]; exact fvF_0 (by omega) (by (try delta Hid at *); omega) (by unfold tvM andZ; omega))) (Or.inr (Or.inr (Or.inl ⟨(by rw [hst.1, ht59o]; omega), (by rw [hst.2.1, ht59l]; omega), (by rw [htw60]; omega), (by rw [htw60, hst.1, ht59o]; exact hX52)⟩))) | (exfalso; omega))) (by omega) hw hS (lv_sub hl [5, 6, 7, 8, 9, 10, 11, 0] rfl)
                · replace c35 := cz_geF gz34 c35
                  clear gz34
                  refine lv_lload hx hb dX9_fieldsBack_218 (lv_at hl 0 rfl) ?_
                  refine lv_goto (tgt := 249) hx hb dX9_fieldsBack_220 (by decide) ?_
                  refine x_last hx hb hK.1 hw hS (by first | exact Int.le_refl 0 | omega) (by first | exact zlt hc56 | omega) ar_56 (len_E ar_56 (by first | exact Nat.ne_of_beq_eq_false rfl | decide)) (by omega) (by omega) (by omega) dX9_fieldsBack_249 (fun H locs hw hS => ?_)
                  obtain ⟨X61, hX61⟩ : ∃ Xq, Xq = u3 Xa 56 0 ((5 * (bs + r)) + z8) (X 75 0 ((5 * ((30 * sv) + r)) + k)) := ⟨_, rfl⟩
                  rw [← hX61] at hw
                  have hRX61 : Rng X61 := by rw [hX61]; exact rng_set hRXa (show (-9223372036854775808) ≤ (X 75 0 ((5 * ((30 * sv) + r)) + k)) ∧ (X 75 0 ((5 * ((30 * sv) + r)) + k)) ≤ 9223372036854775807 by omega)
                  have hVX61 : X61 56 0 ((5 * (bs + r)) + z8) = (X 75 0 ((5 * ((30 * sv) + r)) + k)) := by rw [hX61]; exact u3_s _ _ _ _ _
                  have hFX61 : Frm [5600, 6000, 5700, 5800, 5900, 8500, 4042, 4043, 4044] X X61 := by rw [hX61]; exact Frm.set hFXa (show 5600 ∈ [5600, 6000, 5700, 5800, 5900, 8500, 4042, 4043, 4044] by first | exact nlm_in rfl | decide)
                  refine lv_iinc (v := jI (k + 1)) (lv' := [(7, .int (jI (k + 1))), (11, .long (jL (X 75 0 ((5 * ((30 * sv) + r)) + k)))), (10, .int (jI (X 46 0 ((5 * (X 55 0 (bs + r))) + z8)))), (9, .int (jI z8)), (8, .int (jI ((5 * ((30 * sv) + r)) + k))), (0, .ref (ad 40 0)), (1, .int (jI sv)), (2, .int (jI r)), (3, .int (jI rule)), (4, .int (jI bs)), (5, .int (jI (bs + r))), (6, .int (jI (X 55 0 (bs + r))))]) hx hb dX9_fieldsBack_250 hl (k := 11) rfl (jI_add _ _) (by decide) rfl (fun ls hl => ?_)
                  refine lv_goto (tgt := 18) hx hb dX9_fieldsBack_253 (by decide) ?_
                  have q63 : Frm [5600, 6000, 5700, 5800, 5900, 8500] X X61 := by rw [hX61]; exact Frm.set q900022 (show 5600 ∈ [5600, 6000, 5700, 5800, 5900, 8500] by first | exact nlm_in rfl | decide)
                  have e65 : ∀ j : Int, Xa 44 0 j = X 44 0 j := fun j => by rw [hGXa 44 0 j (show 4400 ∉ [5600, 6000, 5700, 5800, 5900, 8500] by first | exact nlm_ni rfl | decide)]
                  have e66 : ∀ j : Int, Xa 55 0 j = X 55 0 j := fun j => by rw [hGXa 55 0 j (show 5500 ∉ [5600, 6000, 5700, 5800, 5900, 8500] by first | exact nlm_ni rfl | decide)]
                  have e67 : ∀ j : Int, Xa 46 0 j = X 46 0 j := fun j => by rw [hGXa 46 0 j (show 4600 ∉ [5600, 6000, 5700, 5800, 5900, 8500] by first | exact nlm_ni rfl | decide)]
                  have ht68o : toM X sv r k = z8 := by unfold toM; rw [← htt]; exact (p10.2.2.2).symm
                  have ht68l : tlM X sv r k = X 46 0 (5 * X 55 0 (bs + r) + z8) := by unfold tlM; rw [ht68o, ← htt]
                  have htw69 : twM Xa sv r k = (X 75 0 ((5 * ((30 * sv) + r)) + k)) := (by rw [hst.2.2.2.1]; unfold twM tvM; rw [ht68l]; split <;> omega)
                  exact ih18 (k + 1) X61 _ _ _ (by omega) hRX61 q63 (by omega) (by rw [hX61]; exact minv_xval hMIXa hRXa (by omega) (by simp only [q900024, e65, e66, e67]; omega) (by omega) (by simp only [q900024, e65, e66, e67]; omega) (by unfold tyv; simp only [q900024, e65, e66, e67]; exact ⟨fun _ => by omega, fun _ => by omega, fun _ => by omega⟩)) (fun j hj => (by rw [hX61, u3_j _ _ _ _ (by omega)]; exact hlo j hj)) (fTrM.push hTr (by omega) (by rw [hst.2.2.2.2]; exact (by unfold fvM; rw [ht68o, ht68l]; exact fvF_0 (by omega) (by (try delta Hid at *); omega) (by unfold tvM andZ; omega))) (Or.inr (Or.inl ⟨(by rw [hst.1, ht68o]; omega), (by rw [hst.2.1, ht68l, htw69]; omega), (by rw [htw69, hst.1, ht68o]; exact hX61)⟩))) (by omega) hw hS (lv_sub hl [5, 6, 7, 8, 9, 10, 11, 0] rfl)
            · refine lv_lload hx hb dX9_fieldsBack_149 (lv_at hl 0 rfl) ?_
              refine lv_lconst (v := jL 0) hx hb dX9_fieldsBack_151 (by decide) ?_
              refine x_lcmp hx hb (by omega) (by omega) dX9_fieldsBack_152 ?_
              obtain ⟨z70, ez70⟩ : ∃ y : Int, y = cmpZ (X 75 0 ((5 * ((30 * sv) + r)) + k)) 0 := ⟨_, rfl⟩
              rw [← ez70]
              have gz70 : (z70 < 0 ↔ ((X 75 0 ((5 * ((30 * sv) + r)) + k)) : Int) < 0) ∧ (z70 = 0 ↔ ((X 75 0 ((5 * ((30 * sv) + r)) + k)) : Int) = 0) ∧ -1 ≤ z70 ∧ z70 ≤ 1 := by rw [ez70]; exact ⟨cmpZ_lt, cmpZ_eq, (cmpZ_r _ _).1, (cmpZ_r _ _).2⟩
              clear ez70
              refine x_if_lt (tgt := 194) hx hb (by omega) dX9_fieldsBack_153 (by decide) (fun c71 => ?_) (fun c71 => ?_)
              · replace c71 := cz_ltT gz70 c71
                clear gz70
                refine lv_aload_n hx hb dX9_fieldsBack_194 rfl (lv_at hl 4 rfl) ?_
                refine x_geto hx hb hf9 hw (by first | exact Int.le_refl 0 | omega) (by first | exact zlt hc40 | omega) sl_40_15 lk48 dX9_fieldsBack_195 ?_
                refine lv_iconst (v := jI 5) hx hb dX9_fieldsBack_198 rfl ?_
                refine lv_iload hx hb dX9_fieldsBack_199 (lv_at hl 9 rfl) ?_
                refine x_imul hx hb dX9_fieldsBack_201 ?_
                refine lv_iload hx hb dX9_fieldsBack_202 (lv_at hl 2 rfl) ?_
                refine x_iadd hx hb dX9_fieldsBack_204 ?_
                refine lv_iload hx hb dX9_fieldsBack_205 (lv_at hl 1 rfl) ?_
                refine lv_iconst (v := jI 2) hx hb dX9_fieldsBack_207 rfl ?_
                refine x_icmp_lt (tgt := 218) hx hb (by omega) (by omega) dX9_fieldsBack_208 (by decide) (fun c72 => ?_) (fun c72 => ?_)
                · refine lv_lload hx hb dX9_fieldsBack_218 (lv_at hl 0 rfl) ?_
                  refine lv_goto (tgt := 249) hx hb dX9_fieldsBack_220 (by decide) ?_
                  refine x_last hx hb hK.1 hw hS (by first | exact Int.le_refl 0 | omega) (by first | exact zlt hc56 | omega) ar_56 (len_E ar_56 (by first | exact Nat.ne_of_beq_eq_false rfl | decide)) (by omega) (by omega) (by omega) dX9_fieldsBack_249 (fun H locs hw hS => ?_)
                  obtain ⟨X73, hX73⟩ : ∃ Xq, Xq = u3 Xa 56 0 ((5 * (bs + r)) + z8) (X 75 0 ((5 * ((30 * sv) + r)) + k)) := ⟨_, rfl⟩
                  rw [← hX73] at hw
                  have hRX73 : Rng X73 := by rw [hX73]; exact rng_set hRXa (show (-9223372036854775808) ≤ (X 75 0 ((5 * ((30 * sv) + r)) + k)) ∧ (X 75 0 ((5 * ((30 * sv) + r)) + k)) ≤ 9223372036854775807 by omega)
                  have hVX73 : X73 56 0 ((5 * (bs + r)) + z8) = (X 75 0 ((5 * ((30 * sv) + r)) + k)) := by rw [hX73]; exact u3_s _ _ _ _ _
                  have hFX73 : Frm [5600, 6000, 5700, 5800, 5900, 8500, 4042, 4043, 4044] X X73 := by rw [hX73]; exact Frm.set hFXa (show 5600 ∈ [5600, 6000, 5700, 5800, 5900, 8500, 4042, 4043, 4044] by first | exact nlm_in rfl | decide)
                  refine lv_iinc (v := jI (k + 1)) (lv' := [(7, .int (jI (k + 1))), (11, .long (jL (X 75 0 ((5 * ((30 * sv) + r)) + k)))), (10, .int (jI (X 46 0 ((5 * (X 55 0 (bs + r))) + z8)))), (9, .int (jI z8)), (8, .int (jI ((5 * ((30 * sv) + r)) + k))), (0, .ref (ad 40 0)), (1, .int (jI sv)), (2, .int (jI r)), (3, .int (jI rule)), (4, .int (jI bs)), (5, .int (jI (bs + r))), (6, .int (jI (X 55 0 (bs + r))))]) hx hb dX9_fieldsBack_250 hl (k := 11) rfl (jI_add _ _) (by decide) rfl (fun ls hl => ?_)
                  refine lv_goto (tgt := 18) hx hb dX9_fieldsBack_253 (by decide) ?_
                  have q75 : Frm [5600, 6000, 5700, 5800, 5900, 8500] X X73 := by rw [hX73]; exact Frm.set q900022 (show 5600 ∈ [5600, 6000, 5700, 5800, 5900, 8500] by first | exact nlm_in rfl | decide)
                  have e77 : ∀ j : Int, Xa 44 0 j = X 44 0 j := fun j => by rw [hGXa 44 0 j (show 4400 ∉ [5600, 6000, 5700, 5800, 5900, 8500] by first | exact nlm_ni rfl | decide)]
                  have e78 : ∀ j : Int, Xa 55 0 j = X 55 0 j := fun j => by rw [hGXa 55 0 j (show 5500 ∉ [5600, 6000, 5700, 5800, 5900, 8500] by first | exact nlm_ni rfl | decide)]
                  have e79 : ∀ j : Int, Xa 46 0 j = X 46 0 j := fun j => by rw [hGXa 46 0 j (show 4600 ∉ [5600, 6000, 5700, 5800, 5900, 8500] by first | exact nlm_ni rfl | decide)]
                  have ht80o : toM X sv r k = z8 := by unfold toM; rw [← htt]; exact (p10.2.2.2).symm
                  have ht80l : tlM X sv r k = X 46 0 (5 * X 55 0 (bs + r) + z8) := by unfold tlM; rw [ht80o, ← htt]
                  have htw81 : twM Xa sv r k = (X 75 0 ((5 * ((30 * sv) + r)) + k)) := (by rw [hst.2.2.2.1]; unfold twM tvM; rw [ht80l]; split <;> omega)
                  exact ih18 (k + 1) X73 _ _ _ (by omega) hRX73 q75 (by omega) (by rw [hX73]; exact minv_xval hMIXa hRXa (by omega) (by simp only [q900024, e77, e78, e79]; omega) (by omega) (by simp only [q900024, e77, e78, e79]; omega) (by unfold tyv; simp only [q900024, e77, e78, e79]; exact ⟨fun _ => by omega, fun _ => by omega, fun _ => by omega⟩)) (fun j hj => (by rw [hX73, u3_j _ _ _ _ (by omega)]; exact hlo j hj)) (fTrM.push hTr (by omega) (by rw [hst.2.2.2.2]; exact (by unfold fvM; rw [ht80o, ht80l]; exact fvF_0 (by omega) (by (try delta Hid at *); omega) (by unfold tvM andZ; omega))) (Or.inr (Or.inl ⟨(by rw [hst.1, ht80o]; omega), (by rw [hst.2.1, ht80l, htw81]; omega), (by rw [htw81, hst.1, ht80o]; exact hX73)⟩))) (by omega) hw hS (lv_sub hl [5, 6, 7, 8, 9, 10, 11, 0] rfl)
                · refine lv_lload hx hb dX9_fieldsBack_211 (lv_at hl 0 rfl) ?_
                  refine lv_lconst (v := jL 0) hx hb dX9_fieldsBack_213 (by decide) ?_
                  refine x_lcmp hx hb (by omega) (by omega) dX9_fieldsBack_214 ?_
                  obtain ⟨z82, ez82⟩ : ∃ y : Int, y = cmpZ (X 75 0 ((5 * ((30 * sv) + r)) + k)) 0 := ⟨_, rfl⟩
                  rw [← ez82]
                  have gz82 : (z82 < 0 ↔ ((X 75 0 ((5 * ((30 * sv) + r)) + k)) : Int) < 0) ∧ (z82 = 0 ↔ ((X 75 0 ((5 * ((30 * sv) + r)) + k)) : Int) = 0) ∧ -1 ≤ z82 ∧ z82 ≤ 1 := by rw [ez82]; exact ⟨cmpZ_lt, cmpZ_eq, (cmpZ_r _ _).1, (cmpZ_r _ _).2⟩
                  clear ez82
                  refine x_if_ge (tgt := 223) hx hb (by omega) dX9_fieldsBack_215 (by decide) (fun c83 => ?_) (fun c83 => ?_)
                  · replace c83 := cz_geT gz82 c83
                    clear gz82
                    refine lv_iload hx hb dX9_fieldsBack_223 (lv_at hl 1 rfl) ?_
                    refine lv_iconst (v := jI 2) hx hb dX9_fieldsBack_225 rfl ?_
                    refine x_icmp_ne (tgt := 238) hx hb (by omega) (by omega) dX9_fieldsBack_226 (by decide) (fun c84 => ?_) (fun c84 => ?_)
                    · refine lv_aload_n hx hb dX9_fieldsBack_238 rfl (lv_at hl 4 rfl) ?_
                      refine lv_iload_n hx hb dX9_fieldsBack_239 rfl (lv_at hl 5 rfl) ?_
                      refine lv_lload hx hb dX9_fieldsBack_240 (lv_at hl 0 rfl) ?_
                      refine x_l2i hx hb dX9_fieldsBack_242 ?_
                      refine lv_iload hx hb dX9_fieldsBack_243 (lv_at hl 1 rfl) ?_
                      refine gos_i (run_V (As := [.int (jI sv), .int (jI (X 75 0 ((5 * ((30 * sv) + r)) + k))), .int (jI (X 46 0 ((5 * (X 55 0 (bs + r))) + z8)))]) (rest := [.int (jI ((5 * (bs + r)) + z8)), .ref (ad 56 0)]) hx hb hml hown hts (c_X9_rowBack l D tc base ad cnt Xa Y ln hRXa hFx hMIXa sv (X 75 0 ((5 * ((30 * sv) + r)) + k)) (X 46 0 ((5 * (X 55 0 (bs + r))) + z8)) (by omega) (by omega) (by omega)) (cwV 3 hts gX9_fieldsBack_X9_rowBack rfl rfl rfl (by first | exact hd_X9_rowBack | decide +kernel) ⟨Nat.le_of_ble_eq_true rfl, Nat.le_of_ble_eq_true rfl⟩) hK hw (by first | exact Int.le_refl 0 | omega) (by first | exact zlt hc40 | omega) sl_40_0 rfl rfl hl.1 rfl (Nat.le_of_ble_eq_true rfl) dX9_fieldsBack_245 ⟨Nat.le_of_ble_eq_true rfl, Nat.le_of_ble_eq_true rfl⟩) hS (fun z85 u86 H locs p87 hw hS => ?_)
                      obtain ⟨X88, eu86, hRX88, hG89, hMIX88, p87, hrbkX88⟩ := p87
                      subst eu86
                      have hFX88 : Frm [5600, 6000, 5700, 5800, 5900, 8500, 4042, 4043, 4044] X X88 := Frm.tr hFXa (Frm.mono hG89 (by first | exact nls_of rfl | decide))
                      refine x_i2l hx hb (by omega) dX9_fieldsBack_248 ?_
                      refine x_last hx hb hK.1 hw hS (by first | exact Int.le_refl 0 | omega) (by first | exact zlt hc56 | omega) ar_56 (len_E ar_56 (by first | exact Nat.ne_of_beq_eq_false rfl | decide)) (by omega) (by omega) (by omega) dX9_fieldsBack_249 (fun H locs hw hS => ?_)
                      obtain ⟨X90, hX90⟩ : ∃ Xq, Xq = u3 X88 56 0 ((5 * (bs + r)) + z8) z85 := ⟨_, rfl⟩
                      rw [← hX90] at hw
                      have hRX90 : Rng X90 := by rw [hX90]; exact rng_set hRX88 (show (-9223372036854775808) ≤ z85 ∧ z85 ≤ 9223372036854775807 by omega)
                      have hVX90 : X90 56 0 ((5 * (bs + r)) + z8) = z85 := by rw [hX90]; exact u3_s _ _ _ _ _
                      have hFX90 : Frm [5600, 6000, 5700, 5800, 5900, 8500, 4042, 4043, 4044] X X90 := by rw [hX90]; exact Frm.set hFX88 (show 5600 ∈ [5600, 6000, 5700, 5800, 5900, 8500, 4042, 4043, 4044] by first | exact nlm_in rfl | decide)
                      refine lv_iinc (v := jI (k + 1)) (lv' := [(7, .int (jI (k + 1))), (11, .long (jL (X 75 0 ((5 * ((30 * sv) + r)) + k)))), (10, .int (jI (X 46 0 ((5 * (X 55 0 (bs + r))) + z8)))), (9, .int (jI z8)), (8, .int (jI ((5 * ((30 * sv) + r)) + k))), (0, .ref (ad 40 0)), (1, .int (jI sv)), (2, .int (jI r)), (3, .int (jI rule)), (4, .int (jI bs)), (5, .int (jI (bs + r))), (6, .int (jI (X 55 0 (bs + r))))]) hx hb dX9_fieldsBack_250 hl (k := 11) rfl (jI_add _ _) (by decide) rfl (fun ls hl => ?_)
                      refine lv_goto (tgt := 18) hx hb dX9_fieldsBack_253 (by decide) ?_
                      have q92 : Frm [5600, 6000, 5700, 5800, 5900, 8500] X X88 := Frm.tr q900022 (Frm.mono hG89 (by first | exact nls_of rfl | decide))
                      have q93 : Frm [5600, 6000, 5700, 5800, 5900, 8500] X X90 := by rw [hX90]; exact Frm.set q92 (show 5600 ∈ [5600, 6000, 5700, 5800, 5900, 8500] by first | exact nlm_in rfl | decide)
                      have e94 : X88 40 0 13 = X 40 0 13 := by rw [hG89 40 0 13 (show 4014 ∉ [6000, 5700, 5800, 5900, 8500] by first | exact nlm_ni rfl | decide), hGXa 40 0 13 (show 4014 ∉ [5600, 6000, 5700, 5800, 5900, 8500] by first | exact nlm_ni rfl | decide)]
                      have e95 : ∀ j : Int, X88 44 0 j = X 44 0 j := fun j => by rw [hG89 44 0 j (show 4400 ∉ [6000, 5700, 5800, 5900, 8500] by first | exact nlm_ni rfl | decide), hGXa 44 0 j (show 4400 ∉ [5600, 6000, 5700, 5800, 5900, 8500] by first | exact nlm_ni rfl | decide)]
                      have e96 : ∀ j : Int, X88 55 0 j = X 55 0 j := fun j => by rw [hG89 55 0 j (show 5500 ∉ [6000, 5700, 5800, 5900, 8500] by first | exact nlm_ni rfl | decide), hGXa 55 0 j (show 5500 ∉ [5600, 6000, 5700, 5800, 5900, 8500] by first | exact nlm_ni rfl | decide)]
                      have e97 : ∀ j : Int, X88 46 0 j = X 46 0 j := fun j => by rw [hG89 46 0 j (show 4600 ∉ [6000, 5700, 5800, 5900, 8500] by first | exact nlm_ni rfl | decide), hGXa 46 0 j (show 4600 ∉ [5600, 6000, 5700, 5800, 5900, 8500] by first | exact nlm_ni rfl | decide)]
                      have ht98o : toM X sv r k = z8 := by unfold toM; rw [← htt]; exact (p10.2.2.2).symm
                      have ht98l : tlM X sv r k = X 46 0 (5 * X 55 0 (bs + r) + z8) := by unfold tlM; rw [ht98o, ← htt]
                      have htw99 : twM Xa sv r k = X 75 0 (5 * (30 * sv + r) + k) := (by rw [hst.2.2.2.1]; unfold twM tvM; rw [ht98l]; split <;> omega)
                      exact ih18 (k + 1) X90 _ _ _ (by omega) hRX90 q93 (by omega) (by rw [hX90]; exact minv_xval hMIX88 hRX88 (by omega) (by simp only [e94, e95, e96, e97]; omega) (by omega) (by simp only [e94, e95, e96, e97]; omega) (by unfold tyv; simp only [e94, e95, e96, e97]; exact ⟨fun _ => by omega, fun _ => by omega, fun _ => by omega⟩)) (fun j hj => (by rw [hX90, u3_j _ _ _ _ (by omega), hG89 56 0 j (show 5600 ∉ [6000, 5700, 5800, 5900, 8500] by first | exact nlm_ni rfl | decide)]; exact hlo j hj)) ((by first | exact fTrM.push hTr (by omega) (by rw [hst.2.2.2.2]; exact (by unfold fvM; rw [ht98o, ht98l]; exact fvF_0 (by omega) (by (try delta Hid at *); omega) (by unfold tvM andZ; omega))) (Or.inr (Or.inr (Or.inr ⟨(by rw [hst.1, ht98o]; omega), (by rw [hst.2.1, ht98l]; omega), (by rw [htw99]; omega), X88, z85, (by rw [htw99, hst.2.1, ht98l]; exact hrbkX88), (by rw [hst.1, ht98o]; exact hX90)⟩))) | (exfalso; omega))) (by omega) hw hS (lv_sub hl [5, 6, 7, 8, 9, 10, 11, 0] rfl)
                    · refine lv_iload hx hb dX9_fieldsBack_229 (lv_at hl 8 rfl) ?_
                      refine x_i2l hx hb (by omega) dX9_fieldsBack_231 ?_
                      refine lv_lload hx hb dX9_fieldsBack_232 (lv_at hl 0 rfl) ?_
                      refine x_ladd hx hb dX9_fieldsBack_234 ?_
                      refine lv_goto (tgt := 249) hx hb dX9_fieldsBack_235 (by decide) ?_
                      refine x_last hx hb hK.1 hw hS (by first | exact Int.le_refl 0 | omega) (by first | exact zlt hc56 | omega) ar_56 (len_E ar_56 (by first | exact Nat.ne_of_beq_eq_false rfl | decide)) (by omega) (by omega) (by omega) dX9_fieldsBack_249 (fun H locs hw hS => ?_)
                      obtain ⟨X100, hX100⟩ : ∃ Xq, Xq = u3 Xa 56 0 ((5 * (bs + r)) + z8) (bs + (X 75 0 ((5 * ((30 * sv) + r)) + k))) := ⟨_, rfl⟩
                      rw [← hX100] at hw
                      have hRX100 : Rng X100 := by rw [hX100]; exact rng_set hRXa (show (-9223372036854775808) ≤ (bs + (X 75 0 ((5 * ((30 * sv) + r)) + k))) ∧ (bs + (X 75 0 ((5 * ((30 * sv) + r)) + k))) ≤ 9223372036854775807 by omega)
                      have hVX100 : X100 56 0 ((5 * (bs + r)) + z8) = (bs + (X 75 0 ((5 * ((30 * sv) + r)) + k))) := by rw [hX100]; exact u3_s _ _ _ _ _
                      have hFX100 : Frm [5600, 6000, 5700, 5800, 5900, 8500, 4042, 4043, 4044] X X100 := by rw [hX100]; exact Frm.set hFXa (show 5600 ∈ [5600, 6000, 5700, 5800, 5900, 8500, 4042, 4043, 4044] by first | exact nlm_in rfl | decide)
                      refine lv_iinc (v := jI (k + 1)) (lv' := [(7, .int (jI (k + 1))), (11, .long (jL (X 75 0 ((5 * ((30 * sv) + r)) + k)))), (10, .int (jI (X 46 0 ((5 * (X 55 0 (bs + r))) + z8)))), (9, .int (jI z8)), (8, .int (jI ((5 * ((30 * sv) + r)) + k))), (0, .ref (ad 40 0)), (1, .int (jI sv)), (2, .int (jI r)), (3, .int (jI rule)), (4, .int (jI bs)), (5, .int (jI (bs + r))), (6, .int (jI (X 55 0 (bs + r))))]) hx hb dX9_fieldsBack_250 hl (k := 11) rfl (jI_add _ _) (by decide) rfl (fun ls hl => ?_)
                      refine lv_goto (tgt := 18) hx hb dX9_fieldsBack_253 (by decide) ?_
                      have q102 : Frm [5600, 6000, 5700, 5800, 5900, 8500] X X100 := by rw [hX100]; exact Frm.set q900022 (show 5600 ∈ [5600, 6000, 5700, 5800, 5900, 8500] by first | exact nlm_in rfl | decide)
                      have e104 : ∀ j : Int, Xa 44 0 j = X 44 0 j := fun j => by rw [hGXa 44 0 j (show 4400 ∉ [5600, 6000, 5700, 5800, 5900, 8500] by first | exact nlm_ni rfl | decide)]
                      have e105 : ∀ j : Int, Xa 55 0 j = X 55 0 j := fun j => by rw [hGXa 55 0 j (show 5500 ∉ [5600, 6000, 5700, 5800, 5900, 8500] by first | exact nlm_ni rfl | decide)]
                      have e106 : ∀ j : Int, Xa 46 0 j = X 46 0 j := fun j => by rw [hGXa 46 0 j (show 4600 ∉ [5600, 6000, 5700, 5800, 5900, 8500] by first | exact nlm_ni rfl | decide)]
                      have ht107o : toM X sv r k = z8 := by unfold toM; rw [← htt]; exact (p10.2.2.2).symm
                      have ht107l : tlM X sv r k = X 46 0 (5 * X 55 0 (bs + r) + z8) := by unfold tlM; rw [ht107o, ← htt]
                      have htw108 : twM Xa sv r k = X 75 0 (5 * (30 * sv + r) + k) := (by rw [hst.2.2.2.1]; unfold twM tvM; rw [ht107l]; split <;> omega)
                      exact ih18 (k + 1) X100 _ _ _ (by omega) hRX100 q102 (by omega) (by rw [hX100]; exact minv_xval hMIXa hRXa (by omega) (by simp only [q900024, e104, e105, e106]; omega) (by omega) (by simp only [q900024, e104, e105, e106]; omega) (by unfold tyv; simp only [q900024, e104, e105, e106]; exact ⟨fun _ => by omega, fun _ => by omega, fun _ => by omega⟩)) (fun j hj => (by rw [hX100, u3_j _ _ _ _ (by omega)]; exact hlo j hj)) ((by first | exact fTrM.push hTr (by omega) (by rw [hst.2.2.2.2]; exact (by unfold fvM; rw [ht107o, ht107l]; exact fvF_0 (by omega) (by (try delta Hid at *); omega) (by unfold tvM andZ; omega))) (Or.inr (Or.inr (Or.inl ⟨(by rw [hst.1, ht107o]; omega), (by rw [hst.2.1, ht107l]; omega), (by rw [htw108]; omega), (by rw [htw108, hst.1, ht107o]; exact hX100)⟩))) | (exfalso; omega))) (by omega) hw hS (lv_sub hl [5, 6, 7, 8, 9, 10, 11, 0] rfl)
                  · replace c83 := cz_geF gz82 c83
                    clear gz82
                    refine lv_lload hx hb dX9_fieldsBack_218 (lv_at hl 0 rfl) ?_
                    refine lv_goto (tgt := 249) hx hb dX9_fieldsBack_220 (by decide) ?_
                    refine x_last hx hb hK.1 hw hS (by first | exact Int.le_refl 0 | omega) (by first | exact zlt hc56 | omega) ar_56 (len_E ar_56 (by first | exact Nat.ne_of_beq_eq_false rfl | decide)) (by omega) (by omega) (by omega) dX9_fieldsBack_249 (fun H locs hw hS => ?_)
                    obtain ⟨X109, hX109⟩ : ∃ Xq, Xq = u3 Xa 56 0 ((5 * (bs + r)) + z8) (X 75 0 ((5 * ((30 * sv) + r)) + k)) := ⟨_, rfl⟩
                    rw [← hX109] at hw
                    have hRX109 : Rng X109 := by rw [hX109]; exact rng_set hRXa (show (-9223372036854775808) ≤ (X 75 0 ((5 * ((30 * sv) + r)) + k)) ∧ (X 75 0 ((5 * ((30 * sv) + r)) + k)) ≤ 9223372036854775807 by omega)
                    have hVX109 : X109 56 0 ((5 * (bs + r)) + z8) = (X 75 0 ((5 * ((30 * sv) + r)) + k)) := by rw [hX109]; exact u3_s _ _ _ _ _
                    have hFX109 : Frm [5600, 6000, 5700, 5800, 5900, 8500, 4042, 4043, 4044] X X109 := by rw [hX109]; exact Frm.set hFXa (show 5600 ∈ [5600, 6000, 5700, 5800, 5900, 8500, 4042, 4043, 4044] by first | exact nlm_in rfl | decide)
                    refine lv_iinc (v := jI (k + 1)) (lv' := [(7, .int (jI (k + 1))), (11, .long (jL (X 75 0 ((5 * ((30 * sv) + r)) + k)))), (10, .int (jI (X 46 0 ((5 * (X 55 0 (bs + r))) + z8)))), (9, .int (jI z8)), (8, .int (jI ((5 * ((30 * sv) + r)) + k))), (0, .ref (ad 40 0)), (1, .int (jI sv)), (2, .int (jI r)), (3, .int (jI rule)), (4, .int (jI bs)), (5, .int (jI (bs + r))), (6, .int (jI (X 55 0 (bs + r))))]) hx hb dX9_fieldsBack_250 hl (k := 11) rfl (jI_add _ _) (by decide) rfl (fun ls hl => ?_)
                    refine lv_goto (tgt := 18) hx hb dX9_fieldsBack_253 (by decide) ?_
                    have q111 : Frm [5600, 6000, 5700, 5800, 5900, 8500] X X109 := by rw [hX109]; exact Frm.set q900022 (show 5600 ∈ [5600, 6000, 5700, 5800, 5900, 8500] by first | exact nlm_in rfl | decide)
                    have e113 : ∀ j : Int, Xa 44 0 j = X 44 0 j := fun j => by rw [hGXa 44 0 j (show 4400 ∉ [5600, 6000, 5700, 5800, 5900, 8500] by first | exact nlm_ni rfl | decide)]
                    have e114 : ∀ j : Int, Xa 55 0 j = X 55 0 j := fun j => by rw [hGXa 55 0 j (show 5500 ∉ [5600, 6000, 5700, 5800, 5900, 8500] by first | exact nlm_ni rfl | decide)]
                    have e115 : ∀ j : Int, Xa 46 0 j = X 46 0 j := fun j => by rw [hGXa 46 0 j (show 4600 ∉ [5600, 6000, 5700, 5800, 5900, 8500] by first | exact nlm_ni rfl | decide)]
                    have ht116o : toM X sv r k = z8 := by unfold toM; rw [← htt]; exact (p10.2.2.2).symm
                    have ht116l : tlM X sv r k = X 46 0 (5 * X 55 0 (bs + r) + z8) := by unfold tlM; rw [ht116o, ← htt]
                    have htw117 : twM Xa sv r k = (X 75 0 ((5 * ((30 * sv) + r)) + k)) := (by rw [hst.2.2.2.1]; unfold twM tvM; rw [ht116l]; split <;> omega)
                    exact ih18 (k + 1) X109 _ _ _ (by omega) hRX109 q111 (by omega) (by rw [hX109]; exact minv_xval hMIXa hRXa (by omega) (by simp only [q900024, e113, e114, e115]; omega) (by omega) (by simp only [q900024, e113, e114, e115]; omega) (by unfold tyv; simp only [q900024, e113, e114, e115]; exact ⟨fun _ => by omega, fun _ => by omega, fun _ => by omega⟩)) (fun j hj => (by rw [hX109, u3_j _ _ _ _ (by omega)]; exact hlo j hj)) (fTrM.push hTr (by omega) (by rw [hst.2.2.2.2]; exact (by unfold fvM; rw [ht116o, ht116l]; exact fvF_0 (by omega) (by (try delta Hid at *); omega) (by unfold tvM andZ; omega))) (Or.inr (Or.inl ⟨(by rw [hst.1, ht116o]; omega), (by rw [hst.2.1, ht116l, htw117]; omega), (by rw [htw117, hst.1, ht116o]; exact hX109)⟩))) (by omega) hw hS (lv_sub hl [5, 6, 7, 8, 9, 10, 11, 0] rfl)
              · replace c71 := cz_ltF gz70 c71
                clear gz70
                refine lv_aload_n hx hb dX9_fieldsBack_156 rfl (lv_at hl 4 rfl) ?_
                refine x_geto hx hb hf9 hw (by first | exact Int.le_refl 0 | omega) (by first | exact zlt hc40 | omega) sl_40_1 lk7 dX9_fieldsBack_157 ?_
                refine lv_lload hx hb dX9_fieldsBack_160 (lv_at hl 0 rfl) ?_
                refine x_l2i hx hb dX9_fieldsBack_162 ?_
                refine x_zald hx hb hK.1 hw (by first | exact Int.le_refl 0 | omega) (by first | exact zlt hc42 | omega) ar_42 (len_E ar_42 (by first | exact Nat.ne_of_beq_eq_false rfl | decide)) (by omega) (by omega) (by omega) dX9_fieldsBack_163 ?_
                have e118 : ∀ p9 q9 : Int, Xa 42 p9 q9 = X 42 p9 q9 := fun p9 q9 => by rw [hGXa 42 p9 q9 (show 4200 ∉ [5600, 6000, 5700, 5800, 5900, 8500] by first | exact nlm_ni rfl | decide)]
                rw [e118 0 (X 75 0 ((5 * ((30 * sv) + r)) + k))]
                have f119 : 0 ≤ X 42 0 (X 75 0 ((5 * ((30 * sv) + r)) + k)) ∧ X 42 0 (X 75 0 ((5 * ((30 * sv) + r)) + k)) ≤ 1 := hR 42 0 (X 75 0 ((5 * ((30 * sv) + r)) + k))
                refine x_if_eq (tgt := 194) hx hb (by omega) dX9_fieldsBack_164 (by decide) (fun c120 => ?_) (fun c120 => ?_)
                · refine lv_aload_n hx hb dX9_fieldsBack_194 rfl (lv_at hl 4 rfl) ?_
                  refine x_geto hx hb hf9 hw (by first | exact Int.le_refl 0 | omega) (by first | exact zlt hc40 | omega) sl_40_15 lk48 dX9_fieldsBack_195 ?_
                  refine lv_iconst (v := jI 5) hx hb dX9_fieldsBack_198 rfl ?_
                  refine lv_iload hx hb dX9_fieldsBack_199 (lv_at hl 9 rfl) ?_
                  refine x_imul hx hb dX9_fieldsBack_201 ?_
                  refine lv_iload hx hb dX9_fieldsBack_202 (lv_at hl 2 rfl) ?_
                  refine x_iadd hx hb dX9_fieldsBack_204 ?_
                  refine lv_iload hx hb dX9_fieldsBack_205 (lv_at hl 1 rfl) ?_
                  refine lv_iconst (v := jI 2) hx hb dX9_fieldsBack_207 rfl ?_
                  refine x_icmp_lt (tgt := 218) hx hb (by omega) (by omega) dX9_fieldsBack_208 (by decide) (fun c121 => ?_) (fun c121 => ?_)
                  · refine lv_lload hx hb dX9_fieldsBack_218 (lv_at hl 0 rfl) ?_
                    refine lv_goto (tgt := 249) hx hb dX9_fieldsBack_220 (by decide) ?_
                    refine x_last hx hb hK.1 hw hS (by first | exact Int.le_refl 0 | omega) (by first | exact zlt hc56 | omega) ar_56 (len_E ar_56 (by first | exact Nat.ne_of_beq_eq_false rfl | decide)) (by omega) (by omega) (by omega) dX9_fieldsBack_249 (fun H locs hw hS => ?_)
                    obtain ⟨X122, hX122⟩ : ∃ Xq, Xq = u3 Xa 56 0 ((5 * (bs + r)) + z8) (X 75 0 ((5 * ((30 * sv) + r)) + k)) := ⟨_, rfl⟩
                    rw [← hX122] at hw
                    have hRX122 : Rng X122 := by rw [hX122]; exact rng_set hRXa (show (-9223372036854775808) ≤ (X 75 0 ((5 * ((30 * sv) + r)) + k)) ∧ (X 75 0 ((5 * ((30 * sv) + r)) + k)) ≤ 9223372036854775807 by omega)
                    have hVX122 : X122 56 0 ((5 * (bs + r)) + z8) = (X 75 0 ((5 * ((30 * sv) + r)) + k)) := by rw [hX122]; exact u3_s _ _ _ _ _
                    have hFX122 : Frm [5600, 6000, 5700, 5800, 5900, 8500, 4042, 4043, 4044] X X122 := by rw [hX122]; exact Frm.set hFXa (show 5600 ∈ [5600, 6000, 5700, 5800, 5900, 8500, 4042, 4043, 4044] by first | exact nlm_in rfl | decide)
                    refine lv_iinc (v := jI (k + 1)) (lv' := [(7, .int (jI (k + 1))), (11, .long (jL (X 75 0 ((5 * ((30 * sv) + r)) + k)))), (10, .int (jI (X 46 0 ((5 * (X 55 0 (bs + r))) + z8)))), (9, .int (jI z8)), (8, .int (jI ((5 * ((30 * sv) + r)) + k))), (0, .ref (ad 40 0)), (1, .int (jI sv)), (2, .int (jI r)), (3, .int (jI rule)), (4, .int (jI bs)), (5, .int (jI (bs + r))), (6, .int (jI (X 55 0 (bs + r))))]) hx hb dX9_fieldsBack_250 hl (k := 11) rfl (jI_add _ _) (by decide) rfl (fun ls hl => ?_)
                    refine lv_goto (tgt := 18) hx hb dX9_fieldsBack_253 (by decide) ?_
                    have q124 : Frm [5600, 6000, 5700, 5800, 5900, 8500] X X122 := by rw [hX122]; exact Frm.set q900022 (show 5600 ∈ [5600, 6000, 5700, 5800, 5900, 8500] by first | exact nlm_in rfl | decide)
                    have e126 : ∀ j : Int, Xa 44 0 j = X 44 0 j := fun j => by rw [hGXa 44 0 j (show 4400 ∉ [5600, 6000, 5700, 5800, 5900, 8500] by first | exact nlm_ni rfl | decide)]
                    have e127 : ∀ j : Int, Xa 55 0 j = X 55 0 j := fun j => by rw [hGXa 55 0 j (show 5500 ∉ [5600, 6000, 5700, 5800, 5900, 8500] by first | exact nlm_ni rfl | decide)]
                    have e128 : ∀ j : Int, Xa 46 0 j = X 46 0 j := fun j => by rw [hGXa 46 0 j (show 4600 ∉ [5600, 6000, 5700, 5800, 5900, 8500] by first | exact nlm_ni rfl | decide)]
                    have ht129o : toM X sv r k = z8 := by unfold toM; rw [← htt]; exact (p10.2.2.2).symm
                    have ht129l : tlM X sv r k = X 46 0 (5 * X 55 0 (bs + r) + z8) := by unfold tlM; rw [ht129o, ← htt]
                    have htw130 : twM Xa sv r k = (X 75 0 ((5 * ((30 * sv) + r)) + k)) := (by rw [hst.2.2.2.1]; unfold twM tvM; rw [ht129l]; split <;> omega)
                    exact ih18 (k + 1) X122 _ _ _ (by omega) hRX122 q124 (by omega) (by rw [hX122]; exact minv_xval hMIXa hRXa (by omega) (by simp only [q900024, e126, e127, e128]; omega) (by omega) (by simp only [q900024, e126, e127, e128]; omega) (by unfold tyv; simp only [q900024, e126, e127, e128]; exact ⟨fun _ => by omega, fun _ => by omega, fun _ => by omega⟩)) (fun j hj => (by rw [hX122, u3_j _ _ _ _ (by omega)]; exact hlo j hj)) (fTrM.push hTr (by omega) (by rw [hst.2.2.2.2]; exact (by unfold fvM; rw [ht129o, ht129l]; exact fvF_0 (by omega) (by (try delta Hid at *); omega) (by unfold tvM andZ; omega))) (Or.inr (Or.inl ⟨(by rw [hst.1, ht129o]; omega), (by rw [hst.2.1, ht129l, htw130]; omega), (by rw [htw130, hst.1, ht129o]; exact hX122)⟩))) (by omega) hw hS (lv_sub hl [5, 6, 7, 8, 9, 10, 11, 0] rfl)
                  · refine lv_lload hx hb dX9_fieldsBack_211 (lv_at hl 0 rfl) ?_
                    refine lv_lconst (v := jL 0) hx hb dX9_fieldsBack_213 (by decide) ?_
                    refine x_lcmp hx hb (by omega) (by omega) dX9_fieldsBack_214 ?_
                    obtain ⟨z131, ez131⟩ : ∃ y : Int, y = cmpZ (X 75 0 ((5 * ((30 * sv) + r)) + k)) 0 := ⟨_, rfl⟩
                    rw [← ez131]
                    have gz131 : (z131 < 0 ↔ ((X 75 0 ((5 * ((30 * sv) + r)) + k)) : Int) < 0) ∧ (z131 = 0 ↔ ((X 75 0 ((5 * ((30 * sv) + r)) + k)) : Int) = 0) ∧ -1 ≤ z131 ∧ z131 ≤ 1 := by rw [ez131]; exact ⟨cmpZ_lt, cmpZ_eq, (cmpZ_r _ _).1, (cmpZ_r _ _).2⟩
                    clear ez131
                    refine x_if_ge (tgt := 223) hx hb (by omega) dX9_fieldsBack_215 (by decide) (fun c132 => ?_) (fun c132 => ?_)
                    · replace c132 := cz_geT gz131 c132
                      clear gz131
                      refine lv_iload hx hb dX9_fieldsBack_223 (lv_at hl 1 rfl) ?_
                      refine lv_iconst (v := jI 2) hx hb dX9_fieldsBack_225 rfl ?_
                      refine x_icmp_ne (tgt := 238) hx hb (by omega) (by omega) dX9_fieldsBack_226 (by decide) (fun c133 => ?_) (fun c133 => ?_)
                      · refine lv_aload_n hx hb dX9_fieldsBack_238 rfl (lv_at hl 4 rfl) ?_
                        refine lv_iload_n hx hb dX9_fieldsBack_239 rfl (lv_at hl 5 rfl) ?_
                        refine lv_lload hx hb dX9_fieldsBack_240 (lv_at hl 0 rfl) ?_
                        refine x_l2i hx hb dX9_fieldsBack_242 ?_
                        refine lv_iload hx hb dX9_fieldsBack_243 (lv_at hl 1 rfl) ?_
                        refine gos_i (run_V (As := [.int (jI sv), .int (jI (X 75 0 ((5 * ((30 * sv) + r)) + k))), .int (jI (X 46 0 ((5 * (X 55 0 (bs + r))) + z8)))]) (rest := [.int (jI ((5 * (bs + r)) + z8)), .ref (ad 56 0)]) hx hb hml hown hts (c_X9_rowBack l D tc base ad cnt Xa Y ln hRXa hFx hMIXa sv (X 75 0 ((5 * ((30 * sv) + r)) + k)) (X 46 0 ((5 * (X 55 0 (bs + r))) + z8)) (by omega) (by omega) (by omega)) (cwV 3 hts gX9_fieldsBack_X9_rowBack rfl rfl rfl (by first | exact hd_X9_rowBack | decide +kernel) ⟨Nat.le_of_ble_eq_true rfl, Nat.le_of_ble_eq_true rfl⟩) hK hw (by first | exact Int.le_refl 0 | omega) (by first | exact zlt hc40 | omega) sl_40_0 rfl rfl hl.1 rfl (Nat.le_of_ble_eq_true rfl) dX9_fieldsBack_245 ⟨Nat.le_of_ble_eq_true rfl, Nat.le_of_ble_eq_true rfl⟩) hS (fun z134 u135 H locs p136 hw hS => ?_)
                        obtain ⟨X137, eu135, hRX137, hG138, hMIX137, p136, hrbkX137⟩ := p136
                        subst eu135
                        have hFX137 : Frm [5600, 6000, 5700, 5800, 5900, 8500, 4042, 4043, 4044] X X137 := Frm.tr hFXa (Frm.mono hG138 (by first | exact nls_of rfl | decide))
                        refine x_i2l hx hb (by omega) dX9_fieldsBack_248 ?_
                        refine x_last hx hb hK.1 hw hS (by first | exact Int.le_refl 0 | omega) (by first | exact zlt hc56 | omega) ar_56 (len_E ar_56 (by first | exact Nat.ne_of_beq_eq_false rfl | decide)) (by omega) (by omega) (by omega) dX9_fieldsBack_249 (fun H locs hw hS => ?_)
                        obtain ⟨X139, hX139⟩ : ∃ Xq, Xq = u3 X137 56 0 ((5 * (bs + r)) + z8) z134 := ⟨_, rfl⟩
                        rw [← hX139] at hw
                        have hRX139 : Rng X139 := by rw [hX139]; exact rng_set hRX137 (show (-9223372036854775808) ≤ z134 ∧ z134 ≤ 9223372036854775807 by omega)
                        have hVX139 : X139 56 0 ((5 * (bs + r)) + z8) = z134 := by rw [hX139]; exact u3_s _ _ _ _ _
                        have hFX139 : Frm [5600, 6000, 5700, 5800, 5900, 8500, 4042, 4043, 4044] X X139 := by rw [hX139]; exact Frm.set hFX137 (show 5600 ∈ [5600, 6000, 5700, 5800, 5900, 8500, 4042, 4043, 4044] by first | exact nlm_in rfl | decide)
                        refine lv_iinc (v := jI (k + 1)) (lv' := [(7, .int (jI (k + 1))), (11, .long (jL (X 75 0 ((5 * ((30 * sv) + r)) + k)))), (10, .int (jI (X 46 0 ((5 * (X 55 0 (bs + r))) + z8)))), (9, .int (jI z8)), (8, .int (jI ((5 * ((30 * sv) + r)) + k))), (0, .ref (ad 40 0)), (1, .int (jI sv)), (2, .int (jI r)), (3, .int (jI rule)), (4, .int (jI bs)), (5, .int (jI (bs + r))), (6, .int (jI (X 55 0 (bs + r))))]) hx hb dX9_fieldsBack_250 hl (k := 11) rfl (jI_add _ _) (by decide) rfl (fun ls hl => ?_)
                        refine lv_goto (tgt := 18) hx hb dX9_fieldsBack_253 (by decide) ?_
                        have q141 : Frm [5600, 6000, 5700, 5800, 5900, 8500] X X137 := Frm.tr q900022 (Frm.mono hG138 (by first | exact nls_of rfl | decide))
                        have q142 : Frm [5600, 6000, 5700, 5800, 5900, 8500] X X139 := by rw [hX139]; exact Frm.set q141 (show 5600 ∈ [5600, 6000, 5700, 5800, 5900, 8500] by first | exact nlm_in rfl | decide)
                        have e143 : X137 40 0 13 = X 40 0 13 := by rw [hG138 40 0 13 (show 4014 ∉ [6000, 5700, 5800, 5900, 8500] by first | exact nlm_ni rfl | decide), hGXa 40 0 13 (show 4014 ∉ [5600, 6000, 5700, 5800, 5900, 8500] by first | exact nlm_ni rfl | decide)]
                        have e144 : ∀ j : Int, X137 44 0 j = X 44 0 j := fun j => by rw [hG138 44 0 j (show 4400 ∉ [6000, 5700, 5800, 5900, 8500] by first | exact nlm_ni rfl | decide), hGXa 44 0 j (show 4400 ∉ [5600, 6000, 5700, 5800, 5900, 8500] by first | exact nlm_ni rfl | decide)]
                        have e145 : ∀ j : Int, X137 55 0 j = X 55 0 j := fun j => by rw [hG138 55 0 j (show 5500 ∉ [6000, 5700, 5800, 5900, 8500] by first | exact nlm_ni rfl | decide), hGXa 55 0 j (show 5500 ∉ [5600, 6000, 5700, 5800, 5900, 8500] by first | exact nlm_ni rfl | decide)]
                        have e146 : ∀ j : Int, X137 46 0 j = X 46 0 j := fun j => by rw [hG138 46 0 j (show 4600 ∉ [6000, 5700, 5800, 5900, 8500] by first | exact nlm_ni rfl | decide), hGXa 46 0 j (show 4600 ∉ [5600, 6000, 5700, 5800, 5900, 8500] by first | exact nlm_ni rfl | decide)]
                        have ht147o : toM X sv r k = z8 := by unfold toM; rw [← htt]; exact (p10.2.2.2).symm
                        have ht147l : tlM X sv r k = X 46 0 (5 * X 55 0 (bs + r) + z8) := by unfold tlM; rw [ht147o, ← htt]
                        have htw148 : twM Xa sv r k = X 75 0 (5 * (30 * sv + r) + k) := (by rw [hst.2.2.2.1]; unfold twM tvM; rw [ht147l]; split <;> omega)
                        exact ih18 (k + 1) X139 _ _ _ (by omega) hRX139 q142 (by omega) (by rw [hX139]; exact minv_xval hMIX137 hRX137 (by omega) (by simp only [e143, e144, e145, e146]; omega) (by omega) (by simp only [e143, e144, e145, e146]; omega) (by unfold tyv; simp only [e143, e144, e145, e146]; exact ⟨fun _ => by omega, fun _ => by omega, fun _ => by omega⟩)) (fun j hj => (by rw [hX139, u3_j _ _ _ _ (by omega), hG138 56 0 j (show 5600 ∉ [6000, 5700, 5800, 5900, 8500] by first | exact nlm_ni rfl | decide)]; exact hlo j hj)) ((by first | exact fTrM.push hTr (by omega) (by rw [hst.2.2.2.2]; exact (by unfold fvM; rw [ht147o, ht147l]; exact fvF_0 (by omega) (by (try delta Hid at *); omega) (by unfold tvM andZ; omega))) (Or.inr (Or.inr (Or.inr ⟨(by rw [hst.1, ht147o]; omega), (by rw [hst.2.1, ht147l]; omega), (by rw [htw148]; omega), X137, z134, (by rw [htw148, hst.2.1, ht147l]; exact hrbkX137), (by rw [hst.1, ht147o]; exact hX139)⟩))) | (exfalso; omega))) (by omega) hw hS (lv_sub hl [5, 6, 7, 8, 9, 10, 11, 0] rfl)
                      · refine lv_iload hx hb dX9_fieldsBack_229 (lv_at hl 8 rfl) ?_
                        refine x_i2l hx hb (by omega) dX9_fieldsBack_231 ?_
                        refine lv_lload hx hb dX9_fieldsBack_232 (lv_at hl 0 rfl) ?_
                        refine x_ladd hx hb dX9_fieldsBack_234 ?_
                        refine lv_goto (tgt := 249) hx hb dX9_fieldsBack_235 (by decide) ?_
                        refine x_last hx hb hK.1 hw hS (by first | exact Int.le_refl 0 | omega) (by first | exact zlt hc56 | omega) ar_56 (len_E ar_56 (by first | exact Nat.ne_of_beq_eq_false rfl | decide)) (by omega) (by omega) (by omega) dX9_fieldsBack_249 (fun H locs hw hS => ?_)
                        obtain ⟨X149, hX149⟩ : ∃ Xq, Xq = u3 Xa 56 0 ((5 * (bs + r)) + z8) (bs + (X 75 0 ((5 * ((30 * sv) + r)) + k))) := ⟨_, rfl⟩
                        rw [← hX149] at hw
                        have hRX149 : Rng X149 := by rw [hX149]; exact rng_set hRXa (show (-9223372036854775808) ≤ (bs + (X 75 0 ((5 * ((30 * sv) + r)) + k))) ∧ (bs + (X 75 0 ((5 * ((30 * sv) + r)) + k))) ≤ 9223372036854775807 by omega)
                        have hVX149 : X149 56 0 ((5 * (bs + r)) + z8) = (bs + (X 75 0 ((5 * ((30 * sv) + r)) + k))) := by rw [hX149]; exact u3_s _ _ _ _ _
                        have hFX149 : Frm [5600, 6000, 5700, 5800, 5900, 8500, 4042, 4043, 4044] X X149 := by rw [hX149]; exact Frm.set hFXa (show 5600 ∈ [5600, 6000, 5700, 5800, 5900, 8500, 4042, 4043, 4044] by first | exact nlm_in rfl | decide)
                        refine lv_iinc (v := jI (k + 1)) (lv' := [(7, .int (jI (k + 1))), (11, .long (jL (X 75 0 ((5 * ((30 * sv) + r)) + k)))), (10, .int (jI (X 46 0 ((5 * (X 55 0 (bs + r))) + z8)))), (9, .int (jI z8)), (8, .int (jI ((5 * ((30 * sv) + r)) + k))), (0, .ref (ad 40 0)), (1, .int (jI sv)), (2, .int (jI r)), (3, .int (jI rule)), (4, .int (jI bs)), (5, .int (jI (bs + r))), (6, .int (jI (X 55 0 (bs + r))))]) hx hb dX9_fieldsBack_250 hl (k := 11) rfl (jI_add _ _) (by decide) rfl (fun ls hl => ?_)
                        refine lv_goto (tgt := 18) hx hb dX9_fieldsBack_253 (by decide) ?_
                        have q151 : Frm [5600, 6000, 5700, 5800, 5900, 8500] X X149 := by rw [hX149]; exact Frm.set q900022 (show 5600 ∈ [5600, 6000, 5700, 5800, 5900, 8500] by first | exact nlm_in rfl | decide)
                        have e153 : ∀ j : Int, Xa 44 0 j = X 44 0 j := fun j => by rw [hGXa 44 0 j (show 4400 ∉ [5600, 6000, 5700, 5800, 5900, 8500] by first | exact nlm_ni rfl | decide)]
                        have e154 : ∀ j : Int, Xa 55 0 j = X 55 0 j := fun j => by rw [hGXa 55 0 j (show 5500 ∉ [5600, 6000, 5700, 5800, 5900, 8500] by first | exact nlm_ni rfl | decide)]
                        have e155 : ∀ j : Int, Xa 46 0 j = X 46 0 j := fun j => by rw [hGXa 46 0 j (show 4600 ∉ [5600, 6000, 5700, 5800, 5900, 8500] by first | exact nlm_ni rfl | decide)]
                        have ht156o : toM X sv r k = z8 := by unfold toM; rw [← htt]; exact (p10.2.2.2).symm
                        have ht156l : tlM X sv r k = X 46 0 (5 * X 55 0 (bs + r) + z8) := by unfold tlM; rw [ht156o, ← htt]
                        have htw157 : twM Xa sv r k = X 75 0 (5 * (30 * sv + r) + k) := (by rw [hst.2.2.2.1]; unfold twM tvM; rw [ht156l]; split <;> omega)
                        exact ih18 (k + 1) X149 _ _ _ (by omega) hRX149 q151 (by omega) (by rw [hX149]; exact minv_xval hMIXa hRXa (by omega) (by simp only [q900024, e153, e154, e155]; omega) (by omega) (by simp only [q900024, e153, e154, e155]; omega) (by unfold tyv; simp only [q900024, e153, e154, e155]; exact ⟨fun _ => by omega, fun _ => by omega, fun _ => by omega⟩)) (fun j hj => (by rw [hX149, u3_j _ _ _ _ (by omega)]; exact hlo j hj)) ((by first | exact fTrM.push hTr (by omega) (by rw [hst.2.2.2.2]; exact (by unfold fvM; rw [ht156o, ht156l]; exact fvF_0 (by omega) (by (try delta Hid at *); omega) (by unfold tvM andZ; omega))) (Or.inr (Or.inr (Or.inl ⟨(by rw [hst.1, ht156o]; omega), (by rw [hst.2.1, ht156l]; omega), (by rw [htw157]; omega), (by rw [htw157, hst.1, ht156o]; exact hX149)⟩))) | (exfalso; omega))) (by omega) hw hS (lv_sub hl [5, 6, 7, 8, 9, 10, 11, 0] rfl)
                    · replace c132 := cz_geF gz131 c132
                      clear gz131
                      refine lv_lload hx hb dX9_fieldsBack_218 (lv_at hl 0 rfl) ?_
                      refine lv_goto (tgt := 249) hx hb dX9_fieldsBack_220 (by decide) ?_
                      refine x_last hx hb hK.1 hw hS (by first | exact Int.le_refl 0 | omega) (by first | exact zlt hc56 | omega) ar_56 (len_E ar_56 (by first | exact Nat.ne_of_beq_eq_false rfl | decide)) (by omega) (by omega) (by omega) dX9_fieldsBack_249 (fun H locs hw hS => ?_)
                      obtain ⟨X158, hX158⟩ : ∃ Xq, Xq = u3 Xa 56 0 ((5 * (bs + r)) + z8) (X 75 0 ((5 * ((30 * sv) + r)) + k)) := ⟨_, rfl⟩
                      rw [← hX158] at hw
                      have hRX158 : Rng X158 := by rw [hX158]; exact rng_set hRXa (show (-9223372036854775808) ≤ (X 75 0 ((5 * ((30 * sv) + r)) + k)) ∧ (X 75 0 ((5 * ((30 * sv) + r)) + k)) ≤ 9223372036854775807 by omega)
                      have hVX158 : X158 56 0 ((5 * (bs + r)) + z8) = (X 75 0 ((5 * ((30 * sv) + r)) + k)) := by rw [hX158]; exact u3_s _ _ _ _ _
                      have hFX158 : Frm [5600, 6000, 5700, 5800, 5900, 8500, 4042, 4043, 4044] X X158 := by rw [hX158]; exact Frm.set hFXa (show 5600 ∈ [5600, 6000, 5700, 5800, 5900, 8500, 4042, 4043, 4044] by first | exact nlm_in rfl | decide)
                      refine lv_iinc (v := jI (k + 1)) (lv' := [(7, .int (jI (k + 1))), (11, .long (jL (X 75 0 ((5 * ((30 * sv) + r)) + k)))), (10, .int (jI (X 46 0 ((5 * (X 55 0 (bs + r))) + z8)))), (9, .int (jI z8)), (8, .int (jI ((5 * ((30 * sv) + r)) + k))), (0, .ref (ad 40 0)), (1, .int (jI sv)), (2, .int (jI r)), (3, .int (jI rule)), (4, .int (jI bs)), (5, .int (jI (bs + r))), (6, .int (jI (X 55 0 (bs + r))))]) hx hb dX9_fieldsBack_250 hl (k := 11) rfl (jI_add _ _) (by decide) rfl (fun ls hl => ?_)
                      refine lv_goto (tgt := 18) hx hb dX9_fieldsBack_253 (by decide) ?_
                      have q160 : Frm [5600, 6000, 5700, 5800, 5900, 8500] X X158 := by rw [hX158]; exact Frm.set q900022 (show 5600 ∈ [5600, 6000, 5700, 5800, 5900, 8500] by first | exact nlm_in rfl | decide)
                      have e162 : ∀ j : Int, Xa 44 0 j = X 44 0 j := fun j => by rw [hGXa 44 0 j (show 4400 ∉ [5600, 6000, 5700, 5800, 5900, 8500] by first | exact nlm_ni rfl | decide)]
                      have e163 : ∀ j : Int, Xa 55 0 j = X 55 0 j := fun j => by rw [hGXa 55 0 j (show 5500 ∉ [5600, 6000, 5700, 5800, 5900, 8500] by first | exact nlm_ni rfl | decide)]
                      have e164 : ∀ j : Int, Xa 46 0 j = X 46 0 j := fun j => by rw [hGXa 46 0 j (show 4600 ∉ [5600, 6000, 5700, 5800, 5900, 8500] by first | exact nlm_ni rfl | decide)]
                      have ht165o : toM X sv r k = z8 := by unfold toM; rw [← htt]; exact (p10.2.2.2).symm
                      have ht165l : tlM X sv r k = X 46 0 (5 * X 55 0 (bs + r) + z8) := by unfold tlM; rw [ht165o, ← htt]
                      have htw166 : twM Xa sv r k = (X 75 0 ((5 * ((30 * sv) + r)) + k)) := (by rw [hst.2.2.2.1]; unfold twM tvM; rw [ht165l]; split <;> omega)
                      exact ih18 (k + 1) X158 _ _ _ (by omega) hRX158 q160 (by omega) (by rw [hX158]; exact minv_xval hMIXa hRXa (by omega) (by simp only [q900024, e162, e163, e164]; omega) (by omega) (by simp only [q900024, e162, e163, e164]; omega) (by unfold tyv; simp only [q900024, e162, e163, e164]; exact ⟨fun _ => by omega, fun _ => by omega, fun _ => by omega⟩)) (fun j hj => (by rw [hX158, u3_j _ _ _ _ (by omega)]; exact hlo j hj)) (fTrM.push hTr (by omega) (by rw [hst.2.2.2.2]; exact (by unfold fvM; rw [ht165o, ht165l]; exact fvF_0 (by omega) (by (try delta Hid at *); omega) (by unfold tvM andZ; omega))) (Or.inr (Or.inl ⟨(by rw [hst.1, ht165o]; omega), (by rw [hst.2.1, ht165l, htw166]; omega), (by rw [htw166, hst.1, ht165o]; exact hX158)⟩))) (by omega) hw hS (lv_sub hl [5, 6, 7, 8, 9, 10, 11, 0] rfl)
                · refine lv_iload_n hx hb dX9_fieldsBack_167 rfl (lv_at hl 7 rfl) ?_
                  refine lv_iconst (v := jI 2) hx hb dX9_fieldsBack_168 rfl ?_
                  refine lv_iand hx hb dX9_fieldsBack_169 ?_
                  refine x_eqi (fun z167 hz167 ez167 => ?_)
                  refine x_if_ne (tgt := 189) hx hb (by omega) dX9_fieldsBack_170 (by decide) (fun c168 => ?_) (fun c168 => ?_)
                  · refine lv_ldc2 (v := jL (-1)) hx hb hown (hts (.constantLong RX9 168 (-1)) (by first | exact gj_X9_fieldsBack_0 _ (gp_4 (gp_1 (gp_1 (gp_1 gp_h)))) | decide +kernel)) dX9_fieldsBack_189 ?_
                    refine lv_lstore (lv' := [(11, .long (jL (-1))), (10, .int (jI (X 46 0 ((5 * (X 55 0 (bs + r))) + z8)))), (9, .int (jI z8)), (8, .int (jI ((5 * ((30 * sv) + r)) + k))), (0, .ref (ad 40 0)), (1, .int (jI sv)), (2, .int (jI r)), (3, .int (jI rule)), (4, .int (jI bs)), (5, .int (jI (bs + r))), (6, .int (jI (X 55 0 (bs + r)))), (7, .int (jI k))]) hx hb dX9_fieldsBack_192 hl (by decide) rfl (fun ls hl => ?_)
                    refine lv_aload_n hx hb dX9_fieldsBack_194 rfl (lv_at hl 4 rfl) ?_
                    refine x_geto hx hb hf9 hw (by first | exact Int.le_refl 0 | omega) (by first | exact zlt hc40 | omega) sl_40_15 lk48 dX9_fieldsBack_195 ?_
                    refine lv_iconst (v := jI 5) hx hb dX9_fieldsBack_198 rfl ?_
                    refine lv_iload hx hb dX9_fieldsBack_199 (lv_at hl 9 rfl) ?_
                    refine x_imul hx hb dX9_fieldsBack_201 ?_
                    refine lv_iload hx hb dX9_fieldsBack_202 (lv_at hl 2 rfl) ?_
                    refine x_iadd hx hb dX9_fieldsBack_204 ?_
                    refine lv_iload hx hb dX9_fieldsBack_205 (lv_at hl 1 rfl) ?_
                    refine lv_iconst (v := jI 2) hx hb dX9_fieldsBack_207 rfl ?_
                    refine x_icmp_lt (tgt := 218) hx hb (by omega) (by omega) dX9_fieldsBack_208 (by decide) (fun c169 => ?_) (fun c169 => ?_)
                    · refine lv_lload hx hb dX9_fieldsBack_218 (lv_at hl 0 rfl) ?_
                      refine lv_goto (tgt := 249) hx hb dX9_fieldsBack_220 (by decide) ?_
                      refine x_last hx hb hK.1 hw hS (by first | exact Int.le_refl 0 | omega) (by first | exact zlt hc56 | omega) ar_56 (len_E ar_56 (by first | exact Nat.ne_of_beq_eq_false rfl | decide)) (by omega) (by omega) (by omega) dX9_fieldsBack_249 (fun H locs hw hS => ?_)
                      obtain ⟨X170, hX170⟩ : ∃ Xq, Xq = u3 Xa 56 0 ((5 * (bs + r)) + z8) (-1) := ⟨_, rfl⟩
                      rw [← hX170] at hw
                      have hRX170 : Rng X170 := by rw [hX170]; exact rng_set hRXa (show (-9223372036854775808) ≤ (-1) ∧ (-1) ≤ 9223372036854775807 by omega)
                      have hVX170 : X170 56 0 ((5 * (bs + r)) + z8) = (-1) := by rw [hX170]; exact u3_s _ _ _ _ _
                      have hFX170 : Frm [5600, 6000, 5700, 5800, 5900, 8500, 4042, 4043, 4044] X X170 := by rw [hX170]; exact Frm.set hFXa (show 5600 ∈ [5600, 6000, 5700, 5800, 5900, 8500, 4042, 4043, 4044] by first | exact nlm_in rfl | decide)
                      refine lv_iinc (v := jI (k + 1)) (lv' := [(7, .int (jI (k + 1))), (11, .long (jL (-1))), (10, .int (jI (X 46 0 ((5 * (X 55 0 (bs + r))) + z8)))), (9, .int (jI z8)), (8, .int (jI ((5 * ((30 * sv) + r)) + k))), (0, .ref (ad 40 0)), (1, .int (jI sv)), (2, .int (jI r)), (3, .int (jI rule)), (4, .int (jI bs)), (5, .int (jI (bs + r))), (6, .int (jI (X 55 0 (bs + r))))]) hx hb dX9_fieldsBack_250 hl (k := 11) rfl (jI_add _ _) (by decide) rfl (fun ls hl => ?_)
                      refine lv_goto (tgt := 18) hx hb dX9_fieldsBack_253 (by decide) ?_
                      have q172 : Frm [5600, 6000, 5700, 5800, 5900, 8500] X X170 := by rw [hX170]; exact Frm.set q900022 (show 5600 ∈ [5600, 6000, 5700, 5800, 5900, 8500] by first | exact nlm_in rfl | decide)
                      have e174 : ∀ j : Int, Xa 44 0 j = X 44 0 j := fun j => by rw [hGXa 44 0 j (show 4400 ∉ [5600, 6000, 5700, 5800, 5900, 8500] by first | exact nlm_ni rfl | decide)]
                      have e175 : ∀ j : Int, Xa 55 0 j = X 55 0 j := fun j => by rw [hGXa 55 0 j (show 5500 ∉ [5600, 6000, 5700, 5800, 5900, 8500] by first | exact nlm_ni rfl | decide)]
                      have e176 : ∀ j : Int, Xa 46 0 j = X 46 0 j := fun j => by rw [hGXa 46 0 j (show 4600 ∉ [5600, 6000, 5700, 5800, 5900, 8500] by first | exact nlm_ni rfl | decide)]
                      have ht177o : toM X sv r k = z8 := by unfold toM; rw [← htt]; exact (p10.2.2.2).symm
                      have ht177l : tlM X sv r k = X 46 0 (5 * X 55 0 (bs + r) + z8) := by unfold tlM; rw [ht177o, ← htt]
                      have htw178 : twM Xa sv r k = (-1) := (by rw [hst.2.2.2.1]; unfold twM tvM; rw [ht177l]; split <;> omega)
                      exact ih18 (k + 1) X170 _ _ _ (by omega) hRX170 q172 (by omega) (by rw [hX170]; exact minv_xval hMIXa hRXa (by omega) (by simp only [q900024, e174, e175, e176]; omega) (by omega) (by simp only [q900024, e174, e175, e176]; omega) (by unfold tyv; simp only [q900024, e174, e175, e176]; exact ⟨fun _ => by omega, fun _ => by omega, fun _ => by omega⟩)) (fun j hj => (by rw [hX170, u3_j _ _ _ _ (by omega)]; exact hlo j hj)) (fTrM.push hTr (by omega) (by rw [hst.2.2.2.2]; exact (by unfold fvM; rw [ht177o, ht177l]; exact fvF_0 (by omega) (by (try delta Hid at *); omega) (by unfold tvM andZ; omega))) (Or.inr (Or.inl ⟨(by rw [hst.1, ht177o]; omega), (by rw [hst.2.1, ht177l, htw178]; omega), (by rw [htw178, hst.1, ht177o]; exact hX170)⟩))) (by omega) hw hS (lv_sub hl [5, 6, 7, 8, 9, 10, 11, 0] rfl)
                    · refine lv_lload hx hb dX9_fieldsBack_211 (lv_at hl 0 rfl) ?_
                      refine lv_lconst (v := jL 0) hx hb dX9_fieldsBack_213 (by decide) ?_
                      refine x_lcmp hx hb (by omega) (by omega) dX9_fieldsBack_214 ?_
                      obtain ⟨z179, ez179⟩ : ∃ y : Int, y = cmpZ (-1) 0 := ⟨_, rfl⟩
                      rw [← ez179]
                      have gz179 : (z179 < 0 ↔ ((-1) : Int) < 0) ∧ (z179 = 0 ↔ ((-1) : Int) = 0) ∧ -1 ≤ z179 ∧ z179 ≤ 1 := by rw [ez179]; exact ⟨cmpZ_lt, cmpZ_eq, (cmpZ_r _ _).1, (cmpZ_r _ _).2⟩
                      clear ez179
                      refine x_if_ge (tgt := 223) hx hb (by omega) dX9_fieldsBack_215 (by decide) (fun c180 => ?_) (fun c180 => ?_)
                      · replace c180 := cz_geT gz179 c180
                        clear gz179
                        refine lv_iload hx hb dX9_fieldsBack_223 (lv_at hl 1 rfl) ?_
                        refine lv_iconst (v := jI 2) hx hb dX9_fieldsBack_225 rfl ?_
                        refine x_icmp_ne (tgt := 238) hx hb (by omega) (by omega) dX9_fieldsBack_226 (by decide) (fun c181 => ?_) (fun c181 => ?_)
                        · refine lv_aload_n hx hb dX9_fieldsBack_238 rfl (lv_at hl 4 rfl) ?_
                          refine lv_iload_n hx hb dX9_fieldsBack_239 rfl (lv_at hl 5 rfl) ?_
                          refine lv_lload hx hb dX9_fieldsBack_240 (lv_at hl 0 rfl) ?_
                          refine x_l2i hx hb dX9_fieldsBack_242 ?_
                          refine lv_iload hx hb dX9_fieldsBack_243 (lv_at hl 1 rfl) ?_
                          refine gos_i (run_V (As := [.int (jI sv), .int (jI (-1)), .int (jI (X 46 0 ((5 * (X 55 0 (bs + r))) + z8)))]) (rest := [.int (jI ((5 * (bs + r)) + z8)), .ref (ad 56 0)]) hx hb hml hown hts (c_X9_rowBack l D tc base ad cnt Xa Y ln hRXa hFx hMIXa sv (-1) (X 46 0 ((5 * (X 55 0 (bs + r))) + z8)) (by omega) (by omega) (by omega)) (cwV 3 hts gX9_fieldsBack_X9_rowBack rfl rfl rfl (by first | exact hd_X9_rowBack | decide +kernel) ⟨Nat.le_of_ble_eq_true rfl, Nat.le_of_ble_eq_true rfl⟩) hK hw (by first | exact Int.le_refl 0 | omega) (by first | exact zlt hc40 | omega) sl_40_0 rfl rfl hl.1 rfl (Nat.le_of_ble_eq_true rfl) dX9_fieldsBack_245 ⟨Nat.le_of_ble_eq_true rfl, Nat.le_of_ble_eq_true rfl⟩) hS (fun z182 u183 H locs p184 hw hS => ?_)
                          obtain ⟨X185, eu183, hRX185, hG186, hMIX185, p184, hrbkX185⟩ := p184
                          subst eu183
                          have hFX185 : Frm [5600, 6000, 5700, 5800, 5900, 8500, 4042, 4043, 4044] X X185 := Frm.tr hFXa (Frm.mono hG186 (by first | exact nls_of rfl | decide))
                          refine x_i2l hx hb (by omega) dX9_fieldsBack_248 ?_
                          refine x_last hx hb hK.1 hw hS (by first | exact Int.le_refl 0 | omega) (by first | exact zlt hc56 | omega) ar_56 (len_E ar_56 (by first | exact Nat.ne_of_beq_eq_false rfl | decide)) (by omega) (by omega) (by omega) dX9_fieldsBack_249 (fun H locs hw hS => ?_)
                          obtain ⟨X187, hX187⟩ : ∃ Xq, Xq = u3 X185 56 0 ((5 * (bs + r)) + z8) z182 := ⟨_, rfl⟩
                          rw [← hX187] at hw
                          have hRX187 : Rng X187 := by rw [hX187]; exact rng_set hRX185 (show (-9223372036854775808) ≤ z182 ∧ z182 ≤ 9223372036854775807 by omega)
                          have hVX187 : X187 56 0 ((5 * (bs + r)) + z8) = z182 := by rw [hX187]; exact u3_s _ _ _ _ _
                          have hFX187 : Frm [5600, 6000, 5700, 5800, 5900, 8500, 4042, 4043, 4044] X X187 := by rw [hX187]; exact Frm.set hFX185 (show 5600 ∈ [5600, 6000, 5700, 5800, 5900, 8500, 4042, 4043, 4044] by first | exact nlm_in rfl | decide)
                          refine lv_iinc (v := jI (k + 1)) (lv' := [(7, .int (jI (k + 1))), (11, .long (jL (-1))), (10, .int (jI (X 46 0 ((5 * (X 55 0 (bs + r))) + z8)))), (9, .int (jI z8)), (8, .int (jI ((5 * ((30 * sv) + r)) + k))), (0, .ref (ad 40 0)), (1, .int (jI sv)), (2, .int (jI r)), (3, .int (jI rule)), (4, .int (jI bs)), (5, .int (jI (bs + r))), (6, .int (jI (X 55 0 (bs + r))))]) hx hb dX9_fieldsBack_250 hl (k := 11) rfl (jI_add _ _) (by decide) rfl (fun ls hl => ?_)
                          refine lv_goto (tgt := 18) hx hb dX9_fieldsBack_253 (by decide) ?_
                          have q189 : Frm [5600, 6000, 5700, 5800, 5900, 8500] X X185 := Frm.tr q900022 (Frm.mono hG186 (by first | exact nls_of rfl | decide))
                          have q190 : Frm [5600, 6000, 5700, 5800, 5900, 8500] X X187 := by rw [hX187]; exact Frm.set q189 (show 5600 ∈ [5600, 6000, 5700, 5800, 5900, 8500] by first | exact nlm_in rfl | decide)
                          have e191 : X185 40 0 13 = X 40 0 13 := by rw [hG186 40 0 13 (show 4014 ∉ [6000, 5700, 5800, 5900, 8500] by first | exact nlm_ni rfl | decide), hGXa 40 0 13 (show 4014 ∉ [5600, 6000, 5700, 5800, 5900, 8500] by first | exact nlm_ni rfl | decide)]
                          have e192 : ∀ j : Int, X185 44 0 j = X 44 0 j := fun j => by rw [hG186 44 0 j (show 4400 ∉ [6000, 5700, 5800, 5900, 8500] by first | exact nlm_ni rfl | decide), hGXa 44 0 j (show 4400 ∉ [5600, 6000, 5700, 5800, 5900, 8500] by first | exact nlm_ni rfl | decide)]
                          have e193 : ∀ j : Int, X185 55 0 j = X 55 0 j := fun j => by rw [hG186 55 0 j (show 5500 ∉ [6000, 5700, 5800, 5900, 8500] by first | exact nlm_ni rfl | decide), hGXa 55 0 j (show 5500 ∉ [5600, 6000, 5700, 5800, 5900, 8500] by first | exact nlm_ni rfl | decide)]
                          have e194 : ∀ j : Int, X185 46 0 j = X 46 0 j := fun j => by rw [hG186 46 0 j (show 4600 ∉ [6000, 5700, 5800, 5900, 8500] by first | exact nlm_ni rfl | decide), hGXa 46 0 j (show 4600 ∉ [5600, 6000, 5700, 5800, 5900, 8500] by first | exact nlm_ni rfl | decide)]
                          have ht195o : toM X sv r k = z8 := by unfold toM; rw [← htt]; exact (p10.2.2.2).symm
                          have ht195l : tlM X sv r k = X 46 0 (5 * X 55 0 (bs + r) + z8) := by unfold tlM; rw [ht195o, ← htt]
                          have htw196 : twM Xa sv r k = X 75 0 (5 * (30 * sv + r) + k) := (by rw [hst.2.2.2.1]; unfold twM tvM; rw [ht195l]; split <;> omega)
                          exact ih18 (k + 1) X187 _ _ _ (by omega) hRX187 q190 (by omega) (by rw [hX187]; exact minv_xval hMIX185 hRX185 (by omega) (by simp only [e191, e192, e193, e194]; omega) (by omega) (by simp only [e191, e192, e193, e194]; omega) (by unfold tyv; simp only [e191, e192, e193, e194]; exact ⟨fun _ => by omega, fun _ => by omega, fun _ => by omega⟩)) (fun j hj => (by rw [hX187, u3_j _ _ _ _ (by omega), hG186 56 0 j (show 5600 ∉ [6000, 5700, 5800, 5900, 8500] by first | exact nlm_ni rfl | decide)]; exact hlo j hj)) ((by first | exact fTrM.push hTr (by omega) (by rw [hst.2.2.2.2]; exact (by unfold fvM; rw [ht195o, ht195l]; exact fvF_0 (by omega) (by (try delta Hid at *); omega) (by unfold tvM andZ; omega))) (Or.inr (Or.inr (Or.inr ⟨(by rw [hst.1, ht195o]; omega), (by rw [hst.2.1, ht195l]; omega), (by rw [htw196]; omega), X185, z182, (by rw [htw196, hst.2.1, ht195l]; exact hrbkX185), (by rw [hst.1, ht195o]; exact hX187)⟩))) | (exfalso; omega))) (by omega) hw hS (lv_sub hl [5, 6, 7, 8, 9, 10, 11, 0] rfl)
                        · refine lv_iload hx hb dX9_fieldsBack_229 (lv_at hl 8 rfl) ?_
                          refine x_i2l hx hb (by omega) dX9_fieldsBack_231 ?_
                          refine lv_lload hx hb dX9_fieldsBack_232 (lv_at hl 0 rfl) ?_
                          refine x_ladd hx hb dX9_fieldsBack_234 ?_
                          refine lv_goto (tgt := 249) hx hb dX9_fieldsBack_235 (by decide) ?_
                          refine x_last hx hb hK.1 hw hS (by first | exact Int.le_refl 0 | omega) (by first | exact zlt hc56 | omega) ar_56 (len_E ar_56 (by first | exact Nat.ne_of_beq_eq_false rfl | decide)) (by omega) (by omega) (by omega) dX9_fieldsBack_249 (fun H locs hw hS => ?_)
                          obtain ⟨X197, hX197⟩ : ∃ Xq, Xq = u3 Xa 56 0 ((5 * (bs + r)) + z8) (bs + (-1)) := ⟨_, rfl⟩
                          rw [← hX197] at hw
                          have hRX197 : Rng X197 := by rw [hX197]; exact rng_set hRXa (show (-9223372036854775808) ≤ (bs + (-1)) ∧ (bs + (-1)) ≤ 9223372036854775807 by omega)
                          have hVX197 : X197 56 0 ((5 * (bs + r)) + z8) = (bs + (-1)) := by rw [hX197]; exact u3_s _ _ _ _ _
                          have hFX197 : Frm [5600, 6000, 5700, 5800, 5900, 8500, 4042, 4043, 4044] X X197 := by rw [hX197]; exact Frm.set hFXa (show 5600 ∈ [5600, 6000, 5700, 5800, 5900, 8500, 4042, 4043, 4044] by first | exact nlm_in rfl | decide)
                          refine lv_iinc (v := jI (k + 1)) (lv' := [(7, .int (jI (k + 1))), (11, .long (jL (-1))), (10, .int (jI (X 46 0 ((5 * (X 55 0 (bs + r))) + z8)))), (9, .int (jI z8)), (8, .int (jI ((5 * ((30 * sv) + r)) + k))), (0, .ref (ad 40 0)), (1, .int (jI sv)), (2, .int (jI r)), (3, .int (jI rule)), (4, .int (jI bs)), (5, .int (jI (bs + r))), (6, .int (jI (X 55 0 (bs + r))))]) hx hb dX9_fieldsBack_250 hl (k := 11) rfl (jI_add _ _) (by decide) rfl (fun ls hl => ?_)
                          refine lv_goto (tgt := 18) hx hb dX9_fieldsBack_253 (by decide) ?_
                          have q199 : Frm [5600, 6000, 5700, 5800, 5900, 8500] X X197 := by rw [hX197]; exact Frm.set q900022 (show 5600 ∈ [5600, 6000, 5700, 5800, 5900, 8500] by first | exact nlm_in rfl | decide)
                          have e201 : ∀ j : Int, Xa 44 0 j = X 44 0 j := fun j => by rw [hGXa 44 0 j (show 4400 ∉ [5600, 6000, 5700, 5800, 5900, 8500] by first | exact nlm_ni rfl | decide)]
                          have e202 : ∀ j : Int, Xa 55 0 j = X 55 0 j := fun j => by rw [hGXa 55 0 j (show 5500 ∉ [5600, 6000, 5700, 5800, 5900, 8500] by first | exact nlm_ni rfl | decide)]
                          have e203 : ∀ j : Int, Xa 46 0 j = X 46 0 j := fun j => by rw [hGXa 46 0 j (show 4600 ∉ [5600, 6000, 5700, 5800, 5900, 8500] by first | exact nlm_ni rfl | decide)]
                          have ht204o : toM X sv r k = z8 := by unfold toM; rw [← htt]; exact (p10.2.2.2).symm
                          have ht204l : tlM X sv r k = X 46 0 (5 * X 55 0 (bs + r) + z8) := by unfold tlM; rw [ht204o, ← htt]
                          have htw205 : twM Xa sv r k = X 75 0 (5 * (30 * sv + r) + k) := (by rw [hst.2.2.2.1]; unfold twM tvM; rw [ht204l]; split <;> omega)
                          exact ih18 (k + 1) X197 _ _ _ (by omega) hRX197 q199 (by omega) (by rw [hX197]; exact minv_xval hMIXa hRXa (by omega) (by simp only [q900024, e201, e202, e203]; omega) (by omega) (by simp only [q900024, e201, e202, e203]; omega) (by unfold tyv; simp only [q900024, e201, e202, e203]; exact ⟨fun _ => by omega, fun _ => by omega, fun _ => by omega⟩)) (fun j hj => (by rw [hX197, u3_j _ _ _ _ (by omega)]; exact hlo j hj)) ((by first | exact fTrM.push hTr (by omega) (by rw [hst.2.2.2.2]; exact (by unfold fvM; rw [ht204o, ht204l]; exact fvF_0 (by omega) (by (try delta Hid at *); omega) (by unfold tvM andZ; omega))) (Or.inr (Or.inr (Or.inl ⟨(by rw [hst.1, ht204o]; omega), (by rw [hst.2.1, ht204l]; omega), (by rw [htw205]; omega), (by rw [htw205, hst.1, ht204o]; exact hX197)⟩))) | (exfalso; omega))) (by omega) hw hS (lv_sub hl [5, 6, 7, 8, 9, 10, 11, 0] rfl)
                      · replace c180 := cz_geF gz179 c180
                        clear gz179
                        refine lv_lload hx hb dX9_fieldsBack_218 (lv_at hl 0 rfl) ?_
                        refine lv_goto (tgt := 249) hx hb dX9_fieldsBack_220 (by decide) ?_
                        refine x_last hx hb hK.1 hw hS (by first | exact Int.le_refl 0 | omega) (by first | exact zlt hc56 | omega) ar_56 (len_E ar_56 (by first | exact Nat.ne_of_beq_eq_false rfl | decide)) (by omega) (by omega) (by omega) dX9_fieldsBack_249 (fun H locs hw hS => ?_)
                        obtain ⟨X206, hX206⟩ : ∃ Xq, Xq = u3 Xa 56 0 ((5 * (bs + r)) + z8) (-1) := ⟨_, rfl⟩
                        rw [← hX206] at hw
                        have hRX206 : Rng X206 := by rw [hX206]; exact rng_set hRXa (show (-9223372036854775808) ≤ (-1) ∧ (-1) ≤ 9223372036854775807 by omega)
                        have hVX206 : X206 56 0 ((5 * (bs + r)) + z8) = (-1) := by rw [hX206]; exact u3_s _ _ _ _ _
                        have hFX206 : Frm [5600, 6000, 5700, 5800, 5900, 8500, 4042, 4043, 4044] X X206 := by rw [hX206]; exact Frm.set hFXa (show 5600 ∈ [5600, 6000, 5700, 5800, 5900, 8500, 4042, 4043, 4044] by first | exact nlm_in rfl | decide)
                        refine lv_iinc (v := jI (k + 1)) (lv' := [(7, .int (jI (k + 1))), (11, .long (jL (-1))), (10, .int (jI (X 46 0 ((5 * (X 55 0 (bs + r))) + z8)))), (9, .int (jI z8)), (8, .int (jI ((5 * ((30 * sv) + r)) + k))), (0, .ref (ad 40 0)), (1, .int (jI sv)), (2, .int (jI r)), (3, .int (jI rule)), (4, .int (jI bs)), (5, .int (jI (bs + r))), (6, .int (jI (X 55 0 (bs + r))))]) hx hb dX9_fieldsBack_250 hl (k := 11) rfl (jI_add _ _) (by decide) rfl (fun ls hl => ?_)
                        refine lv_goto (tgt := 18) hx hb dX9_fieldsBack_253 (by decide) ?_
                        have q208 : Frm [5600, 6000, 5700, 5800, 5900, 8500] X X206 := by rw [hX206]; exact Frm.set q900022 (show 5600 ∈ [5600, 6000, 5700, 5800, 5900, 8500] by first | exact nlm_in rfl | decide)
                        have e210 : ∀ j : Int, Xa 44 0 j = X 44 0 j := fun j => by rw [hGXa 44 0 j (show 4400 ∉ [5600, 6000, 5700, 5800, 5900, 8500] by first | exact nlm_ni rfl | decide)]
                        have e211 : ∀ j : Int, Xa 55 0 j = X 55 0 j := fun j => by rw [hGXa 55 0 j (show 5500 ∉ [5600, 6000, 5700, 5800, 5900, 8500] by first | exact nlm_ni rfl | decide)]
                        have e212 : ∀ j : Int, Xa 46 0 j = X 46 0 j := fun j => by rw [hGXa 46 0 j (show 4600 ∉ [5600, 6000, 5700, 5800, 5900, 8500] by first | exact nlm_ni rfl | decide)]
                        have ht213o : toM X sv r k = z8 := by unfold toM; rw [← htt]; exact (p10.2.2.2).symm
                        have ht213l : tlM X sv r k = X 46 0 (5 * X 55 0 (bs + r) + z8) := by unfold tlM; rw [ht213o, ← htt]
                        have htw214 : twM Xa sv r k = (-1) := (by rw [hst.2.2.2.1]; unfold twM tvM; rw [ht213l]; split <;> omega)
                        exact ih18 (k + 1) X206 _ _ _ (by omega) hRX206 q208 (by omega) (by rw [hX206]; exact minv_xval hMIXa hRXa (by omega) (by simp only [q900024, e210, e211, e212]; omega) (by omega) (by simp only [q900024, e210, e211, e212]; omega) (by unfold tyv; simp only [q900024, e210, e211, e212]; exact ⟨fun _ => by omega, fun _ => by omega, fun _ => by omega⟩)) (fun j hj => (by rw [hX206, u3_j _ _ _ _ (by omega)]; exact hlo j hj)) (fTrM.push hTr (by omega) (by rw [hst.2.2.2.2]; exact (by unfold fvM; rw [ht213o, ht213l]; exact fvF_0 (by omega) (by (try delta Hid at *); omega) (by unfold tvM andZ; omega))) (Or.inr (Or.inl ⟨(by rw [hst.1, ht213o]; omega), (by rw [hst.2.1, ht213l, htw214]; omega), (by rw [htw214, hst.1, ht213o]; exact hX206)⟩))) (by omega) hw hS (lv_sub hl [5, 6, 7, 8, 9, 10, 11, 0] rfl)
                  · refine lv_aload_n hx hb dX9_fieldsBack_173 rfl (lv_at hl 4 rfl) ?_
                    refine lv_bipush (v := jI 7) hx hb dX9_fieldsBack_174 (by decide) ?_
                    refine lv_iload_n hx hb dX9_fieldsBack_176 rfl (lv_at hl 6 rfl) ?_
                    refine lv_aload_n hx hb dX9_fieldsBack_177 rfl (lv_at hl 4 rfl) ?_
                    refine x_geto hx hb hf9 hw (by first | exact Int.le_refl 0 | omega) (by first | exact zlt hc40 | omega) sl_40_32 lk90 dX9_fieldsBack_178 ?_
                    refine lv_iload hx hb dX9_fieldsBack_181 (lv_at hl 3 rfl) ?_
                    refine x_iald hx hb hK.1 hw (by first | exact Int.le_refl 0 | omega) (by first | exact zlt hc73 | omega) ar_73 (len_E ar_73 (by first | exact Nat.ne_of_beq_eq_false rfl | decide)) (by omega) (by omega) (by omega) dX9_fieldsBack_183 ?_
                    have e215 : ∀ p9 q9 : Int, Xa 73 p9 q9 = X 73 p9 q9 := fun p9 q9 => by rw [hGXa 73 p9 q9 (show 7300 ∉ [5600, 6000, 5700, 5800, 5900, 8500] by first | exact nlm_ni rfl | decide)]
                    rw [e215 0 ((5 * ((30 * sv) + r)) + k)]
                    have f216 : 0 ≤ X 73 0 ((5 * ((30 * sv) + r)) + k) ∧ X 73 0 ((5 * ((30 * sv) + r)) + k) ≤ 19 := hR 73 0 ((5 * ((30 * sv) + r)) + k)
                    refine lv_iconst (v := jI (-1)) hx hb dX9_fieldsBack_184 rfl ?_
                    refine gos_i (run_V (As := [.int (jI 7), .int (jI r), .int (jI (X 73 0 ((5 * ((30 * sv) + r)) + k))), .int (jI (-1))]) (rest := []) hx hb hml hown hts (c_X9_faulty l D tc base ad cnt Xa Y ln hRXa hFx hMIXa 7 r (X 73 0 ((5 * ((30 * sv) + r)) + k)) (-1) (by omega) (by omega) (by omega) (by omega)) (cwV 4 hts gX9_fieldsBack_X9_faulty rfl rfl rfl (by first | exact hd_X9_faulty | decide +kernel) ⟨Nat.le_of_ble_eq_true rfl, Nat.le_of_ble_eq_true rfl⟩) hK hw (by first | exact Int.le_refl 0 | omega) (by first | exact zlt hc40 | omega) sl_40_0 rfl rfl hl.1 rfl (Nat.le_of_ble_eq_true rfl) dX9_fieldsBack_185 ⟨Nat.le_of_ble_eq_true rfl, Nat.le_of_ble_eq_true rfl⟩) hS (fun z217 u218 H locs p219 hw hS => ?_)
                    obtain ⟨X220, eu218, hRX220, hG221, hMIX220, p219⟩ := p219
                    subst eu218
                    have hFX220 : Frm [5600, 6000, 5700, 5800, 5900, 8500, 4042, 4043, 4044] X X220 := Frm.tr hFXa (Frm.mono hG221 (by first | exact nls_of rfl | decide))
                    rw [hQ9]
                    refine ret_i (mc := 0) (ms := 0) hx hb hr hlocks hw hS (by first | exact Nat.le_of_ble_eq_true rfl | omega) (by first | exact Nat.le_of_ble_eq_true rfl | omega) dX9_fieldsBack_188 ?_
                    have ht222o : toM X sv r k = z8 := by unfold toM; rw [← htt]; exact (p10.2.2.2).symm
                    have ht222l : tlM X sv r k = X 46 0 (5 * X 55 0 (bs + r) + z8) := by unfold tlM; rw [ht222o, ← htt]
                    have hfv223 : fvM Xa sv r k rule = 7 := by rw [hst.2.2.2.2]; exact (by unfold fvM; rw [ht222o, ht222l]; exact fvF_w (by omega) (by (try delta Hid at *); omega) ⟨by omega, by unfold tvM; omega, by unfold tvM; omega, by unfold andZ; omega⟩)
                    have q224 : Frm [4042, 4043, 4044] Xa X220 := Frm.tr Frm.rf (Frm.mono hG221 (by first | exact nls_of rfl | decide))
                    exact ⟨X220, rfl, hRX220, hFX220, hMIX220, by omega, fun j hj => (by rw [hG221 56 0 j (show 5600 ∉ [4042, 4043, 4044] by first | exact nlm_ni rfl | decide)]; exact hlo j hj), Or.inr ⟨by omega, k, Xa, by omega, by omega, hTr, (by rw [hfv223]; decide), (by rw [hfv223]; omega), q224⟩⟩
          · subst ez18
            refine x_if_neF (tgt := 134) hx hb (by omega) (by decide) dX9_fieldsBack_115 (by decide) ?_
            refine lv_aload_n hx hb dX9_fieldsBack_118 rfl (lv_at hl 3 rfl) ?_
            refine lv_bipush (v := jI 9) hx hb dX9_fieldsBack_119 (by decide) ?_
            refine lv_iload_n hx hb dX9_fieldsBack_121 rfl (lv_at hl 5 rfl) ?_
            refine lv_aload_n hx hb dX9_fieldsBack_122 rfl (lv_at hl 3 rfl) ?_
            refine x_geto hx hb hf9 hw (by first | exact Int.le_refl 0 | omega) (by first | exact zlt hc40 | omega) sl_40_32 lk90 dX9_fieldsBack_123 ?_
            refine lv_iload hx hb dX9_fieldsBack_126 (lv_at hl 2 rfl) ?_
            refine x_iald hx hb hK.1 hw (by first | exact Int.le_refl 0 | omega) (by first | exact zlt hc73 | omega) ar_73 (len_E ar_73 (by first | exact Nat.ne_of_beq_eq_false rfl | decide)) (by omega) (by omega) (by omega) dX9_fieldsBack_128 ?_
            have e225 : ∀ p9 q9 : Int, Xa 73 p9 q9 = X 73 p9 q9 := fun p9 q9 => by rw [hGXa 73 p9 q9 (show 7300 ∉ [5600, 6000, 5700, 5800, 5900, 8500] by first | exact nlm_ni rfl | decide)]
            rw [e225 0 ((5 * ((30 * sv) + r)) + k)]
            have f226 : 0 ≤ X 73 0 ((5 * ((30 * sv) + r)) + k) ∧ X 73 0 ((5 * ((30 * sv) + r)) + k) ≤ 19 := hR 73 0 ((5 * ((30 * sv) + r)) + k)
            refine lv_iconst (v := jI (-1)) hx hb dX9_fieldsBack_129 rfl ?_
            refine gos_i (run_V (As := [.int (jI 9), .int (jI r), .int (jI (X 73 0 ((5 * ((30 * sv) + r)) + k))), .int (jI (-1))]) (rest := []) hx hb hml hown hts (c_X9_faulty l D tc base ad cnt Xa Y ln hRXa hFx hMIXa 9 r (X 73 0 ((5 * ((30 * sv) + r)) + k)) (-1) (by omega) (by omega) (by omega) (by omega)) (cwV 4 hts gX9_fieldsBack_X9_faulty rfl rfl rfl (by first | exact hd_X9_faulty | decide +kernel) ⟨Nat.le_of_ble_eq_true rfl, Nat.le_of_ble_eq_true rfl⟩) hK hw (by first | exact Int.le_refl 0 | omega) (by first | exact zlt hc40 | omega) sl_40_0 rfl rfl hl.1 rfl (Nat.le_of_ble_eq_true rfl) dX9_fieldsBack_130 ⟨Nat.le_of_ble_eq_true rfl, Nat.le_of_ble_eq_true rfl⟩) hS (fun z227 u228 H locs p229 hw hS => ?_)
            obtain ⟨X230, eu228, hRX230, hG231, hMIX230, p229⟩ := p229
            subst eu228
            have hFX230 : Frm [5600, 6000, 5700, 5800, 5900, 8500, 4042, 4043, 4044] X X230 := Frm.tr hFXa (Frm.mono hG231 (by first | exact nls_of rfl | decide))
            rw [hQ9]
            refine ret_i (mc := 0) (ms := 0) hx hb hr hlocks hw hS (by first | exact Nat.le_of_ble_eq_true rfl | omega) (by first | exact Nat.le_of_ble_eq_true rfl | omega) dX9_fieldsBack_133 ?_
            have ht232o : toM X sv r k = z8 := by unfold toM; rw [← htt]; exact (p10.2.2.2).symm
            have ht232l : tlM X sv r k = X 46 0 (5 * X 55 0 (bs + r) + z8) := by unfold tlM; rw [ht232o, ← htt]
            have hfv233 : fvM Xa sv r k rule = 9 := by rw [hst.2.2.2.2]; exact (by unfold fvM; rw [ht232o, ht232l]; exact fvF_l (by omega) (by (try delta Hid at *); omega))
            have q234 : Frm [4042, 4043, 4044] Xa X230 := Frm.tr Frm.rf (Frm.mono hG231 (by first | exact nls_of rfl | decide))
            exact ⟨X230, rfl, hRX230, hFX230, hMIX230, by omega, fun j hj => (by rw [hG231 56 0 j (show 5600 ∉ [4042, 4043, 4044] by first | exact nlm_ni rfl | decide)]; exact hlo j hj), Or.inr ⟨by omega, k, Xa, by omega, by omega, hTr, (by rw [hfv233]; decide), (by rw [hfv233]; omega), q234⟩⟩
        · refine lv_iload_n hx hb dX9_fieldsBack_67 rfl (lv_at hl 5 rfl) ?_
          refine lv_iconst (v := jI 1) hx hb dX9_fieldsBack_68 rfl ?_
          refine lv_iand hx hb dX9_fieldsBack_69 ?_
          refine x_eqi (fun z235 hz235 ez235 => ?_)
          refine x_if_ne (tgt := 250) hx hb (by omega) dX9_fieldsBack_70 (by decide) (fun c236 => ?_) (fun c236 => ?_)
          · refine lv_iinc (v := jI (k + 1)) (lv' := [(7, .int (jI (k + 1))), (9, .int (jI z8)), (8, .int (jI ((5 * ((30 * sv) + r)) + k))), (0, .ref (ad 40 0)), (1, .int (jI sv)), (2, .int (jI r)), (3, .int (jI rule)), (4, .int (jI bs)), (5, .int (jI (bs + r))), (6, .int (jI (X 55 0 (bs + r))))]) hx hb dX9_fieldsBack_250 hl (k := 9) rfl (jI_add _ _) (by decide) rfl (fun ls hl => ?_)
            refine lv_goto (tgt := 18) hx hb dX9_fieldsBack_253 (by decide) ?_
            have ht238o : toM X sv r k = z8 := by unfold toM; rw [← htt]; exact (p10.2.2.2).symm
            have ht238l : tlM X sv r k = X 46 0 (5 * X 55 0 (bs + r) + z8) := by unfold tlM; rw [ht238o, ← htt]
            exact ih18 (k + 1) Xa _ _ _ (by omega) hRXa q900022 (by omega) (hMIXa) (fun j hj => (by exact hlo j hj)) (fTrM.push hTr (by omega) (by rw [hst.2.2.2.2]; exact (by unfold fvM; rw [ht238o, ht238l]; exact fvF_g0 (by omega) (by unfold andZ; omega))) (Or.inl ⟨(by rw [hst.1, ht238o]; omega), rfl⟩)) (by omega) hw hS (lv_sub hl [3, 4, 5, 6, 7, 8, 9, 0] rfl)
          · refine lv_aload_n hx hb dX9_fieldsBack_73 rfl (lv_at hl 2 rfl) ?_
            refine lv_bipush (v := jI 8) hx hb dX9_fieldsBack_74 (by decide) ?_
            refine lv_iload_n hx hb dX9_fieldsBack_76 rfl (lv_at hl 4 rfl) ?_
            refine lv_aload_n hx hb dX9_fieldsBack_77 rfl (lv_at hl 2 rfl) ?_
            refine x_geto hx hb hf9 hw (by first | exact Int.le_refl 0 | omega) (by first | exact zlt hc40 | omega) sl_40_32 lk90 dX9_fieldsBack_78 ?_
            refine lv_iload hx hb dX9_fieldsBack_81 (lv_at hl 1 rfl) ?_
            refine x_iald hx hb hK.1 hw (by first | exact Int.le_refl 0 | omega) (by first | exact zlt hc73 | omega) ar_73 (len_E ar_73 (by first | exact Nat.ne_of_beq_eq_false rfl | decide)) (by omega) (by omega) (by omega) dX9_fieldsBack_83 ?_
            have e239 : ∀ p9 q9 : Int, Xa 73 p9 q9 = X 73 p9 q9 := fun p9 q9 => by rw [hGXa 73 p9 q9 (show 7300 ∉ [5600, 6000, 5700, 5800, 5900, 8500] by first | exact nlm_ni rfl | decide)]
            rw [e239 0 ((5 * ((30 * sv) + r)) + k)]
            have f240 : 0 ≤ X 73 0 ((5 * ((30 * sv) + r)) + k) ∧ X 73 0 ((5 * ((30 * sv) + r)) + k) ≤ 19 := hR 73 0 ((5 * ((30 * sv) + r)) + k)
            refine lv_iconst (v := jI (-1)) hx hb dX9_fieldsBack_84 rfl ?_
            refine gos_i (run_V (As := [.int (jI 8), .int (jI r), .int (jI (X 73 0 ((5 * ((30 * sv) + r)) + k))), .int (jI (-1))]) (rest := []) hx hb hml hown hts (c_X9_faulty l D tc base ad cnt Xa Y ln hRXa hFx hMIXa 8 r (X 73 0 ((5 * ((30 * sv) + r)) + k)) (-1) (by omega) (by omega) (by omega) (by omega)) (cwV 4 hts gX9_fieldsBack_X9_faulty rfl rfl rfl (by first | exact hd_X9_faulty | decide +kernel) ⟨Nat.le_of_ble_eq_true rfl, Nat.le_of_ble_eq_true rfl⟩) hK hw (by first | exact Int.le_refl 0 | omega) (by first | exact zlt hc40 | omega) sl_40_0 rfl rfl hl.1 rfl (Nat.le_of_ble_eq_true rfl) dX9_fieldsBack_85 ⟨Nat.le_of_ble_eq_true rfl, Nat.le_of_ble_eq_true rfl⟩) hS (fun z241 u242 H locs p243 hw hS => ?_)
            obtain ⟨X244, eu242, hRX244, hG245, hMIX244, p243⟩ := p243
            subst eu242
            have hFX244 : Frm [5600, 6000, 5700, 5800, 5900, 8500, 4042, 4043, 4044] X X244 := Frm.tr hFXa (Frm.mono hG245 (by first | exact nls_of rfl | decide))
            rw [hQ9]
            refine ret_i (mc := 0) (ms := 0) hx hb hr hlocks hw hS (by first | exact Nat.le_of_ble_eq_true rfl | omega) (by first | exact Nat.le_of_ble_eq_true rfl | omega) dX9_fieldsBack_88 ?_
            have ht246o : toM X sv r k = z8 := by unfold toM; rw [← htt]; exact (p10.2.2.2).symm
            have ht246l : tlM X sv r k = X 46 0 (5 * X 55 0 (bs + r) + z8) := by unfold tlM; rw [ht246o, ← htt]
            have hfv247 : fvM Xa sv r k rule = 8 := by rw [hst.2.2.2.2]; exact (by unfold fvM; rw [ht246o, ht246l]; exact fvF_g (by omega) (by unfold andZ; omega))
            have q248 : Frm [4042, 4043, 4044] Xa X244 := Frm.tr Frm.rf (Frm.mono hG245 (by first | exact nls_of rfl | decide))
            exact ⟨X244, rfl, hRX244, hFX244, hMIX244, by omega, fun j hj => (by rw [hG245 56 0 j (show 5600 ∉ [4042, 4043, 4044] by first | exact nlm_ni rfl | decide)]; exact hlo j hj), Or.inr ⟨by omega, k, Xa, by omega, by omega, hTr, (by rw [hfv247]; decide), (by rw [hfv247]; omega), q248⟩⟩
  exact lp18 (5 - 0 : Int).toNat.succ 0 X _ _ _ (by omega) hR Frm.rf (by omega) (hMI) (fun j hj => rfl) (rfl) (by omega) hw hS (lv_sub hl [3, 4, 5, 6, 7, 2, 1, 0] rfl)
end
section
set_option maxHeartbeats 4000000 in
set_option maxRecDepth 100000 in
theorem c_X9_restore (l : Launch) (D : va_G) (tc : Nat → ClassId) (base : Nat) (ad : Nat → Int → Nat) (cnt : Nat → Int) (X : Nat → Int → Int → Int) (Y : Nat → Int → Int → Option Int) (ln : Int → Int) (hR : Rng X) (hFx : Fx cnt) (hMI : MInv X) (sv rule : Int) (hsv : -2147483648 ≤ sv ∧ sv ≤ 2147483647) (hrule : -2147483648 ≤ rule ∧ rule ≤ 2147483647) : KI l D tc base yX9_restore wsX9_restore ({ frames := 4, cells := 0, slots := 0, locals := 105 } : Room) [.ref (ad 40 0), .int (jI sv), .int (jI rule)] (ad, cnt, X, Y, ln) 0 0 (fun z u => ∃ X1 : Nat → Int → Int → Int, u = (ad, cnt, X1, Y, ln) ∧ Rng X1 ∧ Frm [4001, 4014, 5500, 5600, 4029, 6000, 5700, 5800, 5900, 8500, 4042, 4043, 4044] X X1 ∧ MInv X1 ∧ (-2147483648 ≤ z ∧ z ≤ 2147483647) ∧ ((¬ (0 ≤ sv ∧ sv < 4 ∧ X 70 0 sv ≠ 0) ∧ z = -1 ∧ Frm [4001] X X1) ∨ ((0 ≤ sv ∧ sv < 4 ∧ X 70 0 sv ≠ 0) ∧ ¬ (0 ≤ rule ∧ rule ≤ 3) ∧ z = -2 ∧ Frm [4001] X X1) ∨ ((0 ≤ sv ∧ sv < 4 ∧ X 70 0 sv ≠ 0) ∧ (0 ≤ rule ∧ rule ≤ 3) ∧ 30 < X 40 0 13 + X 70 0 sv ∧ z = -4 ∧ Frm [4001] X X1) ∨ ((0 ≤ sv ∧ sv < 4 ∧ X 70 0 sv ≠ 0) ∧ (0 ≤ rule ∧ rule ≤ 3) ∧ X 40 0 13 + X 70 0 sv ≤ 30 ∧ ∃ A : Nat → Int → Int → Int, rsI X A sv ∧ ((∃ B : Nat → Int → Int → Int, (Rng B ∧ MInv B) ∧ rTrM sv rule (X 40 0 13) (X 70 0 sv).toNat A B ∧ (((∀ r, 0 ≤ r → r < X 70 0 sv → jdM B (X 40 0 13 + r) 0) ∧ z = X 40 0 13 ∧ Frm [4029] B X1) ∨ (∃ r how, 0 ≤ r ∧ r < X 70 0 sv ∧ (∀ r', 0 ≤ r' → r' < r → jdM B (X 40 0 13 + r') 0) ∧ how ≠ 0 ∧ jdM B (X 40 0 13 + r) how ∧ z = -10 - how ∧ X1 40 0 13 = X 40 0 13 ∧ Frm [4014, 4029, 4042, 4043, 4044] B X1))) ∨ (∃ (r : Int) (B P : Nat → Int → Int → Int), 0 ≤ r ∧ r < X 70 0 sv ∧ rTrM sv rule (X 40 0 13) r.toNat A B ∧ fEndM sv r rule (X 40 0 13) z B P ∧ z ≠ 0 ∧ X1 40 0 13 = X 40 0 13 ∧ Frm [4014] P X1))))) := by
  refine K_of (cc := cX9_restore) (maxL := 8) (ret := (some .int)) (by decide) rfl (Nat.le_of_ble_eq_true rfl) ?_
  intro p e s m below meth c ls hx hb hr hml hown hts hlocks hl hK hw hS
  have hown : s.vm.findClass RX9 = some m.cls := hown
  obtain ⟨av9, hav9⟩ : ∃ a9 : Array Value, a9 = ([.ref (ad 40 0), .int (jI sv), .int (jI rule)] : List Value).toArray := ⟨_, rfl⟩
  rw [← hav9] at hts ⊢
  obtain ⟨Q9, hQ9⟩ : ∃ q9Q : State → Prop, q9Q = MQ below (QI D tc base (fun z u => ∃ X1 : Nat → Int → Int → Int, u = (ad, cnt, X1, Y, ln) ∧ Rng X1 ∧ Frm [4001, 4014, 5500, 5600, 4029, 6000, 5700, 5800, 5900, 8500, 4042, 4043, 4044] X X1 ∧ MInv X1 ∧ (-2147483648 ≤ z ∧ z ≤ 2147483647) ∧ ((¬ (0 ≤ sv ∧ sv < 4 ∧ X 70 0 sv ≠ 0) ∧ z = -1 ∧ Frm [4001] X X1) ∨ ((0 ≤ sv ∧ sv < 4 ∧ X 70 0 sv ≠ 0) ∧ ¬ (0 ≤ rule ∧ rule ≤ 3) ∧ z = -2 ∧ Frm [4001] X X1) ∨ ((0 ≤ sv ∧ sv < 4 ∧ X 70 0 sv ≠ 0) ∧ (0 ≤ rule ∧ rule ≤ 3) ∧ 30 < X 40 0 13 + X 70 0 sv ∧ z = -4 ∧ Frm [4001] X X1) ∨ ((0 ≤ sv ∧ sv < 4 ∧ X 70 0 sv ≠ 0) ∧ (0 ≤ rule ∧ rule ≤ 3) ∧ X 40 0 13 + X 70 0 sv ≤ 30 ∧ ∃ A : Nat → Int → Int → Int, rsI X A sv ∧ ((∃ B : Nat → Int → Int → Int, (Rng B ∧ MInv B) ∧ rTrM sv rule (X 40 0 13) (X 70 0 sv).toNat A B ∧ (((∀ r, 0 ≤ r → r < X 70 0 sv → jdM B (X 40 0 13 + r) 0) ∧ z = X 40 0 13 ∧ Frm [4029] B X1) ∨ (∃ r how, 0 ≤ r ∧ r < X 70 0 sv ∧ (∀ r', 0 ≤ r' → r' < r → jdM B (X 40 0 13 + r') 0) ∧ how ≠ 0 ∧ jdM B (X 40 0 13 + r) how ∧ z = -10 - how ∧ X1 40 0 13 = X 40 0 13 ∧ Frm [4014, 4029, 4042, 4043, 4044] B X1))) ∨ (∃ (r : Int) (B P : Nat → Int → Int → Int), 0 ≤ r ∧ r < X 70 0 sv ∧ rTrM sv rule (X 40 0 13) r.toNat A B ∧ fEndM sv r rule (X 40 0 13) z B P ∧ z ≠ 0 ∧ X1 40 0 13 = X 40 0 13 ∧ Frm [4014] P X1)))))) av9 s 0 0 (frA base) := ⟨_, rfl⟩
  rw [← hQ9]
  have hi9 : ∀ w ∈ wsX90, w ∈ wsX9_restore := fun w h => List.mem_cons_of_mem _ (List.mem_append_right _ h)
  have hf9 : fctx s m _ RX9 wsX9_restore D tc RX9 TX9 51 9 := ⟨hts, hi9, hown, hK.1, rfl⟩
  have lk13 := hts (.fieldLink RX9 13 (TX9 3).1 (TX9 3).2.1 (TX9 3).2.2.1) (gj_X9_restore_0 _ (gp_4 (gp_1 (gp_1 gp_h))))
  have lk23 := hts (.fieldLink RX9 23 (TX9 6).1 (TX9 6).2.1 (TX9 6).2.2.1) (gj_X9_restore_0 _ (gp_4 (gp_4 gp_h)))
  have lk45 := hts (.fieldLink RX9 45 (TX9 14).1 (TX9 14).2.1 (TX9 14).2.2.1) (gj_X9_restore_0 _ (gp_4 (gp_1 gp_h)))
  have lk48 := hts (.fieldLink RX9 48 (TX9 15).1 (TX9 15).2.1 (TX9 15).2.2.1) (gj_X9_restore_0 _ (gp_4 (gp_1 (gp_1 (gp_1 gp_h)))))
  have lk81 := hts (.fieldLink RX9 81 (TX9 29).1 (TX9 29).2.1 (TX9 29).2.2.1) (gj_X9_restore_0 _ (gp_1 gp_h))
  have lk84 := hts (.fieldLink RX9 84 (TX9 30).1 (TX9 30).2.1 (TX9 30).2.2.1) (gj_X9_restore_0 _ (gp_4 gp_h))
  have lk127 := hts (.fieldLink RX9 127 (TX9 44).1 (TX9 44).2.1 (TX9 44).2.2.1) (gj_X9_restore_0 _ (gp_1 (gp_1 (gp_1 gp_h))))
  have lk145 := hts (.fieldLink RX9 145 (TX9 0).1 (TX9 0).2.1 (TX9 0).2.2.1) (gj_X9_restore_0 _ (gp_h))
  have lk151 := hts (.fieldLink RX9 151 (TX9 13).1 (TX9 13).2.1 (TX9 13).2.2.1) (gj_X9_restore_0 _ (gp_1 (gp_1 gp_h)))
  have lk206 := hts (.fieldLink RX9 206 (TX9 28).1 (TX9 28).2.1 (TX9 28).2.2.1) (gj_X9_restore_0 _ (gp_4 (gp_4 (gp_1 gp_h))))
  have hc40 : cnt 40 = 1 := hFx.at 40 1 (by decide)
  have hc44 : cnt 44 = 1 := hFx.at 44 1 (by decide)
  have hc47 : cnt 47 = 1 := hFx.at 47 1 (by decide)
  have hc55 : cnt 55 = 1 := hFx.at 55 1 (by decide)
  have hc56 : cnt 56 = 1 := hFx.at 56 1 (by decide)
  have hc70 : cnt 70 = 1 := hFx.at 70 1 (by decide)
  have hc71 : cnt 71 = 1 := hFx.at 71 1 (by decide)
  have hc85 : cnt 85 = 1 := hFx.at 85 1 (by decide)
  have hl : lv_has ls 8 [(0, .ref (ad 40 0)), (1, .int (jI sv)), (2, .int (jI rule))] := hl
  have fstypes : 0 ≤ X 40 0 2 ∧ X 40 0 2 ≤ 8 := hR 40 0 2
  have fsthings : 0 ≤ X 40 0 13 ∧ X 40 0 13 ≤ 30 := hR 40 0 13
  have fsmarks : 0 ≤ X 40 0 20 ∧ X 40 0 20 ≤ 4 := hR 40 0 20
  have fsnotes : 0 ≤ X 40 0 22 ∧ X 40 0 22 ≤ 80 := hR 40 0 22
  refine lv_aload_n hx hb dX9_restore_0 rfl (lv_at hl 0 rfl) ?_
  refine lv_iconst (v := jI 0) hx hb dX9_restore_1 rfl ?_
  refine x_puti (jz := 0) hx hb hf9 ⟨tyX9_ok, nmX9⟩ hw hS (by first | exact Int.le_refl 0 | omega) (by first | exact zlt hc40 | omega) sl_40_0 rfl lk145 rfl (tyX9_ok 0 (by decide)) rfl rfl dX9_restore_2 (fun H locs hw hS => ?_)
  obtain ⟨X1, hX1⟩ : ∃ Xq, Xq = u3 X 40 0 0 0 := ⟨_, rfl⟩
  rw [← hX1] at hw
  have hRX1 : Rng X1 := by rw [hX1]; exact rng_set hR (show (-2147483648) ≤ 0 ∧ 0 ≤ 2147483647 by omega)
  have hVX1 : X1 40 0 0 = 0 := by rw [hX1]; exact u3_s _ _ _ _ _
  have hFX1 : Frm [4001, 4014, 5500, 5600, 4029, 6000, 5700, 5800, 5900, 8500, 4042, 4043, 4044] X X1 := by rw [hX1]; exact Frm.set Frm.rf (show 4001 ∈ [4001, 4014, 5500, 5600, 4029, 6000, 5700, 5800, 5900, 8500, 4042, 4043, 4044] by first | exact nlm_in rfl | decide)
  refine lv_aload_n hx hb dX9_restore_5 rfl (lv_at hl 0 rfl) ?_
  refine lv_iload_n hx hb dX9_restore_6 rfl (lv_at hl 1 rfl) ?_
  refine gos_i (run_V (As := [.int (jI sv)]) (rest := []) hx hb hml hown hts (c_X9_isSave l D tc base ad cnt X1 Y ln hRX1 hFx sv (by omega)) (cwV 1 hts gX9_restore_X9_isSave rfl rfl rfl (by first | exact hd_X9_isSave | decide +kernel) ⟨Nat.le_of_ble_eq_true rfl, Nat.le_of_ble_eq_true rfl⟩) hK hw (by first | exact Int.le_refl 0 | omega) (by first | exact zlt hc40 | omega) sl_40_0 rfl rfl hl.1 rfl (Nat.le_of_ble_eq_true rfl) dX9_restore_7 ⟨Nat.le_of_ble_eq_true rfl, Nat.le_of_ble_eq_true rfl⟩) hS (fun z2 u3 H locs p4 hw hS => ?_)
  obtain ⟨eu3, p4⟩ := p4
  subst eu3
  have q900027 : Frm [4001] X X1 := by rw [hX1]; exact Frm.set Frm.rf (show 4001 ∈ [4001] by first | exact nlm_in rfl | decide)
  rcases p4 with ⟨ez2, p4⟩ | ⟨ez2, p4⟩
  · subst ez2
    refine x_if_eqF (tgt := 22) hx hb (by omega) (by decide) dX9_restore_10 (by decide) ?_
    refine lv_aload_n hx hb dX9_restore_13 rfl (lv_at hl 0 rfl) ?_
    refine x_geto hx hb hf9 hw (by first | exact Int.le_refl 0 | omega) (by first | exact zlt hc40 | omega) sl_40_29 lk81 dX9_restore_14 ?_
    refine lv_iload_n hx hb dX9_restore_17 rfl (lv_at hl 1 rfl) ?_
    refine x_iald hx hb hK.1 hw (by first | exact Int.le_refl 0 | omega) (by first | exact zlt hc70 | omega) ar_70 (len_E ar_70 (by first | exact Nat.ne_of_beq_eq_false rfl | decide)) (by omega) (by omega) (by omega) dX9_restore_18 ?_
    have e5 : ∀ p9 q9 : Int, X1 70 p9 q9 = X 70 p9 q9 := fun p9 q9 => by rw [hX1, u3_k _ _ _ _ (by first | exact Nat.ne_of_beq_eq_false rfl | decide)]
    rw [e5 0 sv]
    have f6 : 0 ≤ X 70 0 sv ∧ X 70 0 sv ≤ 30 := hR 70 0 sv
    refine x_if_ne (tgt := 24) hx hb (by omega) dX9_restore_19 (by decide) (fun c7 => ?_) (fun c7 => ?_)
    · refine lv_iload_n hx hb dX9_restore_24 rfl (lv_at hl 2 rfl) ?_
      refine x_if_lt (tgt := 33) hx hb (by omega) dX9_restore_25 (by decide) (fun c8 => ?_) (fun c8 => ?_)
      · refine lv_bipush (v := jI (-2)) hx hb dX9_restore_33 (by decide) ?_
        rw [hQ9]
        refine ret_i (mc := 0) (ms := 0) hx hb hr hlocks hw hS (by first | exact Nat.le_of_ble_eq_true rfl | omega) (by first | exact Nat.le_of_ble_eq_true rfl | omega) dX9_restore_35 ?_
        have q10 : Frm [4001] X X1 := by rw [hX1]; exact Frm.set Frm.rf (show 4001 ∈ [4001] by first | exact nlm_in rfl | decide)
        have hMq9 : MInv X1 := minv_frm hMI q10 (by decide)
        have q11 : Frm [4001] X X1 := by rw [hX1]; exact Frm.set Frm.rf (show 4001 ∈ [4001] by first | exact nlm_in rfl | decide)
        exact ⟨X1, rfl, hRX1, hFX1, hMq9, by omega, Or.inr (Or.inl ⟨(by (try delta Hid at *); omega), (fun q => by (try delta Hid at *); omega), by omega, q11⟩)⟩
      · refine lv_iload_n hx hb dX9_restore_28 rfl (lv_at hl 2 rfl) ?_
        refine lv_iconst (v := jI 3) hx hb dX9_restore_29 rfl ?_
        refine x_icmp_le (tgt := 36) hx hb (by omega) (by omega) dX9_restore_30 (by decide) (fun c12 => ?_) (fun c12 => ?_)
        · refine lv_aload_n hx hb dX9_restore_36 rfl (lv_at hl 0 rfl) ?_
          refine x_geti (jz := 13) hx hb hf9 hw (by first | exact Int.le_refl 0 | omega) (by first | exact zlt hc40 | omega) sl_40_13 rfl lk151 dX9_restore_37 ?_
          have e13 : X1 40 0 13 = X 40 0 13 := by rw [hX1, u3_j _ _ _ _ (by decide)]
          rw [e13]
          have f14 : 0 ≤ X 40 0 13 ∧ X 40 0 13 ≤ 30 := hR 40 0 13
          refine lv_istore_n (lv' := [(3, .int (jI (X 40 0 13))), (0, .ref (ad 40 0)), (1, .int (jI sv)), (2, .int (jI rule))]) hx hb dX9_restore_40 rfl hl (by decide) rfl (fun ls hl => ?_)
          refine lv_aload_n hx hb dX9_restore_41 rfl (lv_at hl 1 rfl) ?_
          refine x_geto hx hb hf9 hw (by first | exact Int.le_refl 0 | omega) (by first | exact zlt hc40 | omega) sl_40_29 lk81 dX9_restore_42 ?_
          refine lv_iload_n hx hb dX9_restore_45 rfl (lv_at hl 2 rfl) ?_
          refine x_iald hx hb hK.1 hw (by first | exact Int.le_refl 0 | omega) (by first | exact zlt hc70 | omega) ar_70 (len_E ar_70 (by first | exact Nat.ne_of_beq_eq_false rfl | decide)) (by omega) (by omega) (by omega) dX9_restore_46 ?_
          have e15 : ∀ p9 q9 : Int, X1 70 p9 q9 = X 70 p9 q9 := fun p9 q9 => by rw [hX1, u3_k _ _ _ _ (by first | exact Nat.ne_of_beq_eq_false rfl | decide)]
          rw [e15 0 sv]
          have f16 : 0 ≤ X 70 0 sv ∧ X 70 0 sv ≤ 30 := hR 70 0 sv
          refine lv_istore (lv' := [(4, .int (jI (X 70 0 sv))), (3, .int (jI (X 40 0 13))), (0, .ref (ad 40 0)), (1, .int (jI sv)), (2, .int (jI rule))]) hx hb dX9_restore_47 hl (by decide) rfl (fun ls hl => ?_)
          refine lv_iload_n hx hb dX9_restore_49 rfl (lv_at hl 1 rfl) ?_
          refine lv_iload hx hb dX9_restore_50 (lv_at hl 0 rfl) ?_
          refine x_iadd hx hb dX9_restore_52 ?_
          refine lv_bipush (v := jI 30) hx hb dX9_restore_53 (by decide) ?_
          refine x_icmp_le (tgt := 61) hx hb (by omega) (by omega) dX9_restore_55 (by decide) (fun c17 => ?_) (fun c17 => ?_)
          · refine lv_iconst (v := jI 0) hx hb dX9_restore_61 rfl ?_
            refine lv_istore (lv' := [(5, .int (jI 0)), (4, .int (jI (X 70 0 sv))), (3, .int (jI (X 40 0 13))), (0, .ref (ad 40 0)), (1, .int (jI sv)), (2, .int (jI rule))]) hx hb dX9_restore_62 hl (by decide) rfl (fun ls hl => ?_)
            have lp64 : ∀ (nn : Nat) (k : Int) (Xa : Nat → Int → Int → Int) (H : Heap) (locs : List Loc) (ls : Array Slot), (450 - k) < (nn : Int) → (Rng Xa) → (Frm [8500] X1 Xa) → (0 ≤ k ∧ k ≤ 450) → (∀ j, 0 ≤ j → j < k → Xa 85 0 j = -1) → wd D tc base (ad, cnt, Xa, Y, ln) H → va_S (frA base) s.heap H locs → lv_has ls 8 [(0, .ref (ad 40 0)), (1, .int (jI sv)), (2, .int (jI rule)), (3, .int (jI (X 40 0 13))), (4, .int (jI (X 70 0 sv))), (5, .int (jI k))] → W p l e ({ frames := 4, cells := 0, slots := 0, locals := 105 } : Room) s m av9 below meth c H locs 0 0 Q9 (F0 m 64 ls []) := by
              intro nn
              induction nn with
              | zero => intro k Xa H locs ls hm hRXa hGXa hk hbk hw hS hl; exfalso; omega
              | succ nn ih64 =>
                intro k Xa H locs ls hm hRXa hGXa hk hbk hw hS hl
                have hFXa : Frm [4001, 4014, 5500, 5600, 4029, 6000, 5700, 5800, 5900, 8500, 4042, 4043, 4044] X Xa := Frm.tr hFX1 (Frm.mono hGXa (by first | exact nls_of rfl | decide))
                refine lv_iload hx hb dX9_restore_64 (lv_at hl 5 rfl) ?_
                refine lv_sipush (v := jI 450) hx hb dX9_restore_66 (by decide) ?_
                refine x_icmp_ge (tgt := 86) hx hb (by omega) (by omega) dX9_restore_69 (by decide) (fun c18 => ?_) (fun c18 => ?_)
                · refine lv_iconst (v := jI 0) hx hb dX9_restore_86 rfl ?_
                  refine lv_istore (lv' := [(5, .int (jI 0)), (0, .ref (ad 40 0)), (1, .int (jI sv)), (2, .int (jI rule)), (3, .int (jI (X 40 0 13))), (4, .int (jI (X 70 0 sv)))]) hx hb dX9_restore_87 hl (by decide) rfl (fun ls hl => ?_)
                  have lp89 : ∀ (nn : Nat) (r : Int) (Xb : Nat → Int → Int → Int) (H : Heap) (locs : List Loc) (ls : Array Slot), (30 - r) < (nn : Int) → (Rng Xb) → (Frm [5500, 5600] Xa Xb) → (0 ≤ r ∧ r ≤ 30) → (Old X Xb) → (New X Xb sv r) → (r ≤ X 70 0 sv) → wd D tc base (ad, cnt, Xb, Y, ln) H → va_S (frA base) s.heap H locs → lv_has ls 8 [(0, .ref (ad 40 0)), (1, .int (jI sv)), (2, .int (jI rule)), (3, .int (jI (X 40 0 13))), (4, .int (jI (X 70 0 sv))), (5, .int (jI r))] → W p l e ({ frames := 4, cells := 0, slots := 0, locals := 105 } : Room) s m av9 below meth c H locs 0 0 Q9 (F0 m 89 ls []) := by
                    intro nn
                    induction nn with
                    | zero => intro r Xb H locs ls hm hRXb hGXb hr0 hOl hNw hrn hw hS hl; exfalso; omega
                    | succ nn ih89 =>
                      intro r Xb H locs ls hm hRXb hGXb hr0 hOl hNw hrn hw hS hl
                      have hFXb : Frm [4001, 4014, 5500, 5600, 4029, 6000, 5700, 5800, 5900, 8500, 4042, 4043, 4044] X Xb := Frm.tr hFXa (Frm.mono hGXb (by first | exact nls_of rfl | decide))
                      refine lv_iload hx hb dX9_restore_89 (lv_at hl 5 rfl) ?_
                      refine lv_iload hx hb dX9_restore_91 (lv_at hl 4 rfl) ?_
                      refine x_icmp_ge (tgt := 174) hx hb (by omega) (by omega) dX9_restore_93 (by decide) (fun c19 => ?_) (fun c19 => ?_)
                      · refine lv_aload_n hx hb dX9_restore_174 rfl (lv_at hl 0 rfl) ?_
                        refine lv_dup hx hb dX9_restore_175 rfl ?_
                        refine x_geti (jz := 13) hx hb hf9 hw (by first | exact Int.le_refl 0 | omega) (by first | exact zlt hc40 | omega) sl_40_13 rfl lk151 dX9_restore_176 ?_
                        have e20 : Xb 40 0 13 = X 40 0 13 := by rw [hGXb 40 0 13 (show 4014 ∉ [5500, 5600] by first | exact nlm_ni rfl | decide), hGXa 40 0 13 (show 4014 ∉ [8500] by first | exact nlm_ni rfl | decide), hX1, u3_j _ _ _ _ (by decide)]
                        rw [e20]
                        have f21 : 0 ≤ X 40 0 13 ∧ X 40 0 13 ≤ 30 := hR 40 0 13
                        refine lv_iload hx hb dX9_restore_179 (lv_at hl 4 rfl) ?_
                        refine x_iadd hx hb dX9_restore_181 ?_
                        refine x_puti (jz := 13) hx hb hf9 ⟨tyX9_ok, nmX9⟩ hw hS (by first | exact Int.le_refl 0 | omega) (by first | exact zlt hc40 | omega) sl_40_13 rfl lk151 rfl (tyX9_ok 13 (by decide)) rfl rfl dX9_restore_182 (fun H locs hw hS => ?_)
                        obtain ⟨X22, hX22⟩ : ∃ Xq, Xq = u3 Xb 40 0 13 ((X 40 0 13) + (X 70 0 sv)) := ⟨_, rfl⟩
                        rw [← hX22] at hw
                        have hRX22 : Rng X22 := by rw [hX22]; exact rng_set hRXb (show 0 ≤ ((X 40 0 13) + (X 70 0 sv)) ∧ ((X 40 0 13) + (X 70 0 sv)) ≤ 30 by omega)
                        have hVX22 : X22 40 0 13 = ((X 40 0 13) + (X 70 0 sv)) := by rw [hX22]; exact u3_s _ _ _ _ _
                        have hFX22 : Frm [4001, 4014, 5500, 5600, 4029, 6000, 5700, 5800, 5900, 8500, 4042, 4043, 4044] X X22 := by rw [hX22]; exact Frm.set hFXb (show 4014 ∈ [4001, 4014, 5500, 5600, 4029, 6000, 5700, 5800, 5900, 8500, 4042, 4043, 4044] by first | exact nlm_in rfl | decide)
                        refine lv_iconst (v := jI 0) hx hb dX9_restore_185 rfl ?_
                        refine lv_istore (lv' := [(5, .int (jI 0)), (0, .ref (ad 40 0)), (1, .int (jI sv)), (2, .int (jI rule)), (3, .int (jI (X 40 0 13))), (4, .int (jI (X 70 0 sv)))]) hx hb dX9_restore_186 hl (by decide) rfl (fun ls hl => ?_)
                        have lp188 : ∀ (nn : Nat) (r : Int) (Xd : Nat → Int → Int → Int) (H : Heap) (locs : List Loc) (ls : Array Slot), (30 - r) < (nn : Int) → (Rng Xd) → (Frm [5600, 6000, 5700, 5800, 5900, 8500, 4042, 4043, 4044] X22 Xd) → (0 ≤ r ∧ r ≤ 30) → (MInv Xd) → (Old X Xd) → (rTrM sv rule (X 40 0 13) r.toNat X22 Xd) → (r ≤ X 70 0 sv) → (rsI X X22 sv) → wd D tc base (ad, cnt, Xd, Y, ln) H → va_S (frA base) s.heap H locs → lv_has ls 8 [(0, .ref (ad 40 0)), (1, .int (jI sv)), (2, .int (jI rule)), (3, .int (jI (X 40 0 13))), (4, .int (jI (X 70 0 sv))), (5, .int (jI r))] → W p l e ({ frames := 4, cells := 0, slots := 0, locals := 105 } : Room) s m av9 below meth c H locs 0 0 Q9 (F0 m 188 ls []) := by
                          intro nn
                          induction nn with
                          | zero => intro r Xd H locs ls hm hRXd hGXd hr0 hMIXd hOd hTr hrn hgI hw hS hl; exfalso; omega
                          | succ nn ih188 =>
                            intro r Xd H locs ls hm hRXd hGXd hr0 hMIXd hOd hTr hrn hgI hw hS hl
                            have hFXd : Frm [4001, 4014, 5500, 5600, 4029, 6000, 5700, 5800, 5900, 8500, 4042, 4043, 4044] X Xd := Frm.tr hFX22 (Frm.mono hGXd (by first | exact nls_of rfl | decide))
                            refine lv_iload hx hb dX9_restore_188 (lv_at hl 5 rfl) ?_
                            refine lv_iload hx hb dX9_restore_190 (lv_at hl 4 rfl) ?_
                            refine x_icmp_ge (tgt := 225) hx hb (by omega) (by omega) dX9_restore_192 (by decide) (fun c23 => ?_) (fun c23 => ?_)
                            · refine lv_iconst (v := jI 0) hx hb dX9_restore_225 rfl ?_
                              refine lv_istore (lv' := [(5, .int (jI 0)), (0, .ref (ad 40 0)), (1, .int (jI sv)), (2, .int (jI rule)), (3, .int (jI (X 40 0 13))), (4, .int (jI (X 70 0 sv)))]) hx hb dX9_restore_226 hl (by decide) rfl (fun ls hl => ?_)
                              have lp228 : ∀ (nn : Nat) (rj : Int) (Xe : Nat → Int → Int → Int) (H : Heap) (locs : List Loc) (ls : Array Slot), (30 - rj) < (nn : Int) → (Rng Xe) → (Frm [4029] Xd Xe) → (0 ≤ rj ∧ rj ≤ 30) → (MInv Xe) → (∀ r', 0 ≤ r' → r' < rj → jdM Xd (X 40 0 13 + r') 0) → (rj ≤ X 70 0 sv) → (Frm [4029] Xd Xe) → wd D tc base (ad, cnt, Xe, Y, ln) H → va_S (frA base) s.heap H locs → lv_has ls 8 [(0, .ref (ad 40 0)), (1, .int (jI sv)), (2, .int (jI rule)), (3, .int (jI (X 40 0 13))), (4, .int (jI (X 70 0 sv))), (5, .int (jI rj))] → W p l e ({ frames := 4, cells := 0, slots := 0, locals := 105 } : Room) s m av9 below meth c H locs 0 0 Q9 (F0 m 228 ls []) := by
                                intro nn
                                induction nn with
                                | zero => intro rj Xe H locs ls hm hRXe hGXe hr0 hMIXe hjd hrn2 hGe hw hS hl; exfalso; omega
                                | succ nn ih228 =>
                                  intro rj Xe H locs ls hm hRXe hGXe hr0 hMIXe hjd hrn2 hGe hw hS hl
                                  have hFXe : Frm [4001, 4014, 5500, 5600, 4029, 6000, 5700, 5800, 5900, 8500, 4042, 4043, 4044] X Xe := Frm.tr hFXd (Frm.mono hGXe (by first | exact nls_of rfl | decide))
                                  refine lv_iload hx hb dX9_restore_228 (lv_at hl 5 rfl) ?_
                                  refine lv_iload hx hb dX9_restore_230 (lv_at hl 4 rfl) ?_
                                  refine x_icmp_ge (tgt := 275) hx hb (by omega) (by omega) dX9_restore_232 (by decide) (fun c24 => ?_) (fun c24 => ?_)
                                  · refine lv_iload_n hx hb dX9_restore_275 rfl (lv_at hl 3 rfl) ?_
                                    rw [hQ9]
                                    refine ret_i (mc := 0) (ms := 0) hx hb hr hlocks hw hS (by first | exact Nat.le_of_ble_eq_true rfl | omega) (by first | exact Nat.le_of_ble_eq_true rfl | omega) dX9_restore_276 ?_
                                    exact ⟨Xe, rfl, hRXe, hFXe, hMIXe, by omega, Or.inr (Or.inr (Or.inr ⟨(by (try delta Hid at *); omega), (by (try delta Hid at *); omega), by omega, _, hgI, Or.inl ⟨Xd, ⟨hRXd, hMIXd⟩, (by rw [show X 70 0 sv = r by omega]; exact hTr), Or.inl ⟨fun r9 a b => hjd r9 a (by omega), by omega, hGe⟩⟩⟩))⟩
                                  · refine lv_aload_n hx hb dX9_restore_235 rfl (lv_at hl 0 rfl) ?_
                                    refine lv_iload_n hx hb dX9_restore_236 rfl (lv_at hl 3 rfl) ?_
                                    refine lv_iload hx hb dX9_restore_237 (lv_at hl 5 rfl) ?_
                                    refine x_iadd hx hb dX9_restore_239 ?_
                                    have e25 : Xe 40 0 13 = X22 40 0 13 := by rw [hGXe 40 0 13 (show 4014 ∉ [4029] by first | exact nlm_ni rfl | decide), hGXd 40 0 13 (show 4014 ∉ [5600, 6000, 5700, 5800, 5900, 8500, 4042, 4043, 4044] by first | exact nlm_ni rfl | decide)]
                                    refine gos_i (run_V (As := [.int (jI ((X 40 0 13) + rj))]) (rest := []) hx hb hml hown hts (c_X9_judged l D tc base ad cnt Xe Y ln hRXe hFx hMIXe ((X 40 0 13) + rj) (by omega) (by simp only [e25]; omega)) (cwV 1 hts gX9_restore_X9_judged rfl rfl rfl (by first | exact hd_X9_judged | decide +kernel) ⟨Nat.le_of_ble_eq_true rfl, Nat.le_of_ble_eq_true rfl⟩) hK hw (by first | exact Int.le_refl 0 | omega) (by first | exact zlt hc40 | omega) sl_40_0 rfl rfl hl.1 rfl (Nat.le_of_ble_eq_true rfl) dX9_restore_240 ⟨Nat.le_of_ble_eq_true rfl, Nat.le_of_ble_eq_true rfl⟩) hS (fun z26 u27 H locs p28 hw hS => ?_)
                                    obtain ⟨X29, eu27, hRX29, hG30, hMIX29, p28, hjdX29⟩ := p28
                                    subst eu27
                                    have hFX29 : Frm [4001, 4014, 5500, 5600, 4029, 6000, 5700, 5800, 5900, 8500, 4042, 4043, 4044] X X29 := Frm.tr hFXe (Frm.mono hG30 (by first | exact nls_of rfl | decide))
                                    refine lv_istore (lv' := [(6, .int (jI z26)), (0, .ref (ad 40 0)), (1, .int (jI sv)), (2, .int (jI rule)), (3, .int (jI (X 40 0 13))), (4, .int (jI (X 70 0 sv))), (5, .int (jI rj))]) hx hb dX9_restore_243 hl (by decide) rfl (fun ls hl => ?_)
                                    refine lv_iload hx hb dX9_restore_245 (lv_at hl 0 rfl) ?_
                                    refine x_if_eq (tgt := 269) hx hb (by omega) dX9_restore_247 (by decide) (fun c31 => ?_) (fun c31 => ?_)
                                    · refine lv_iinc (v := jI (rj + 1)) (lv' := [(5, .int (jI (rj + 1))), (6, .int (jI z26)), (0, .ref (ad 40 0)), (1, .int (jI sv)), (2, .int (jI rule)), (3, .int (jI (X 40 0 13))), (4, .int (jI (X 70 0 sv)))]) hx hb dX9_restore_269 hl (k := 6) rfl (jI_add _ _) (by decide) rfl (fun ls hl => ?_)
                                      refine lv_goto (tgt := 228) hx hb dX9_restore_272 (by decide) ?_
                                      have q32 : Frm [4029] Xd Xe := Frm.tr Frm.rf (Frm.mono hGXe (by first | exact nls_of rfl | decide))
                                      have q33 : Frm [4029] Xd X29 := Frm.tr q32 (Frm.mono hG30 (by first | exact nls_of rfl | decide))
                                      exact ih228 (rj + 1) X29 _ _ _ (by omega) hRX29 q33 (by omega) (hMIX29) (fun r' a b => if hr9 : r' = rj then (by rw [hr9]; exact jdM.from (L := [4029]) (by have h9 := hjdX29; rw [show z26 = 0 by omega] at h9; exact h9) hGe (by decide)) else hjd r' a (by omega)) (by omega) (q33) hw hS (lv_sub hl [2, 3, 4, 5, 6, 0] rfl)
                                    · refine lv_aload_n hx hb dX9_restore_250 rfl (lv_at hl 1 rfl) ?_
                                      refine lv_iload_n hx hb dX9_restore_251 rfl (lv_at hl 4 rfl) ?_
                                      refine x_puti (jz := 13) hx hb hf9 ⟨tyX9_ok, nmX9⟩ hw hS (by first | exact Int.le_refl 0 | omega) (by first | exact zlt hc40 | omega) sl_40_13 rfl lk151 rfl (tyX9_ok 13 (by decide)) rfl rfl dX9_restore_252 (fun H locs hw hS => ?_)
                                      obtain ⟨X36, hX36⟩ : ∃ Xq, Xq = u3 X29 40 0 13 (X 40 0 13) := ⟨_, rfl⟩
                                      rw [← hX36] at hw
                                      have hRX36 : Rng X36 := by rw [hX36]; exact rng_set hRX29 (show 0 ≤ (X 40 0 13) ∧ (X 40 0 13) ≤ 30 by omega)
                                      have hVX36 : X36 40 0 13 = (X 40 0 13) := by rw [hX36]; exact u3_s _ _ _ _ _
                                      have hFX36 : Frm [4001, 4014, 5500, 5600, 4029, 6000, 5700, 5800, 5900, 8500, 4042, 4043, 4044] X X36 := by rw [hX36]; exact Frm.set hFX29 (show 4014 ∈ [4001, 4014, 5500, 5600, 4029, 6000, 5700, 5800, 5900, 8500, 4042, 4043, 4044] by first | exact nlm_in rfl | decide)
                                      refine lv_aload_n hx hb dX9_restore_255 rfl (lv_at hl 1 rfl) ?_
                                      refine lv_iload hx hb dX9_restore_256 (lv_at hl 0 rfl) ?_
                                      refine lv_iload hx hb dX9_restore_258 (lv_at hl 6 rfl) ?_
                                      refine lv_iconst (v := jI (-1)) hx hb dX9_restore_260 rfl ?_
                                      refine lv_aload_n hx hb dX9_restore_261 rfl (lv_at hl 1 rfl) ?_
                                      refine x_geti (jz := 28) hx hb hf9 hw (by first | exact Int.le_refl 0 | omega) (by first | exact zlt hc40 | omega) sl_40_28 rfl lk206 dX9_restore_262 ?_
                                      have e37 : X36 40 0 28 = X29 40 0 28 := by rw [hX36, u3_j _ _ _ _ (by decide)]
                                      rw [e37]
                                      have f38 : 0 ≤ X29 40 0 28 ∧ X29 40 0 28 ≤ 3 := hRX29 40 0 28
                                      have q40 : Frm [4014, 4029] Xd Xe := Frm.tr Frm.rf (Frm.mono hGXe (by first | exact nls_of rfl | decide))
                                      have q41 : Frm [4014, 4029] Xd X29 := Frm.tr q40 (Frm.mono hG30 (by first | exact nls_of rfl | decide))
                                      have q42 : Frm [4014, 4029] Xd X36 := by rw [hX36]; exact Frm.set q41 (show 4014 ∈ [4014, 4029] by first | exact nlm_in rfl | decide)
                                      have hMb39 : MInv X36 := minv_rst_back hMI hR hFX36 (hOd.frm q42 (by decide)) hVX36
                                      refine gos_i (run_V (As := [.int (jI z26), .int (jI rj), .int (jI (-1)), .int (jI (X29 40 0 28))]) (rest := []) hx hb hml hown hts (c_X9_faulty l D tc base ad cnt X36 Y ln hRX36 hFx hMb39 z26 rj (-1) (X29 40 0 28) (by omega) (by omega) (by omega) (by omega)) (cwV 4 hts gX9_restore_X9_faulty rfl rfl rfl (by first | exact hd_X9_faulty | decide +kernel) ⟨Nat.le_of_ble_eq_true rfl, Nat.le_of_ble_eq_true rfl⟩) hK hw (by first | exact Int.le_refl 0 | omega) (by first | exact zlt hc40 | omega) sl_40_0 rfl rfl hl.1 rfl (Nat.le_of_ble_eq_true rfl) dX9_restore_265 ⟨Nat.le_of_ble_eq_true rfl, Nat.le_of_ble_eq_true rfl⟩) hS (fun z43 u44 H locs p45 hw hS => ?_)
                                      obtain ⟨X46, eu44, hRX46, hG47, hMIX46, p45⟩ := p45
                                      subst eu44
                                      have hFX46 : Frm [4001, 4014, 5500, 5600, 4029, 6000, 5700, 5800, 5900, 8500, 4042, 4043, 4044] X X46 := Frm.tr hFX36 (Frm.mono hG47 (by first | exact nls_of rfl | decide))
                                      rw [hQ9]
                                      refine ret_i (mc := 0) (ms := 0) hx hb hr hlocks hw hS (by first | exact Nat.le_of_ble_eq_true rfl | omega) (by first | exact Nat.le_of_ble_eq_true rfl | omega) dX9_restore_268 ?_
                                      have q48 : Frm [4014, 4029, 4042, 4043, 4044] Xd Xe := Frm.tr Frm.rf (Frm.mono hGXe (by first | exact nls_of rfl | decide))
                                      have q49 : Frm [4014, 4029, 4042, 4043, 4044] Xd X29 := Frm.tr q48 (Frm.mono hG30 (by first | exact nls_of rfl | decide))
                                      have q50 : Frm [4014, 4029, 4042, 4043, 4044] Xd X36 := by rw [hX36]; exact Frm.set q49 (show 4014 ∈ [4014, 4029, 4042, 4043, 4044] by first | exact nlm_in rfl | decide)
                                      have q51 : Frm [4014, 4029, 4042, 4043, 4044] Xd X46 := Frm.tr q50 (Frm.mono hG47 (by first | exact nls_of rfl | decide))
                                      exact ⟨X46, rfl, hRX46, hFX46, hMIX46, by omega, Or.inr (Or.inr (Or.inr ⟨(by (try delta Hid at *); omega), (by (try delta Hid at *); omega), by omega, _, hgI, Or.inl ⟨Xd, ⟨hRXd, hMIXd⟩, (by rw [show X 70 0 sv = r by omega]; exact hTr) , Or.inr ⟨rj, z26, by omega, by omega, hjd, by omega, jdM.from (L := [4029]) hjdX29 hGe (by decide), by omega, (by rw [hG47 40 0 13 (show 4014 ∉ [4042, 4043, 4044] by first | exact nlm_ni rfl | decide)]; exact hVX36), q51⟩⟩⟩))⟩
                              exact lp228 (30 - 0 : Int).toNat.succ 0 Xd _ _ _ (by omega) hRXd Frm.rf (by omega) (hMIXd) (fun r' a b => by omega) (by omega) (Frm.rf) hw hS (lv_sub hl [1, 2, 3, 4, 5, 0] rfl)
                            · refine lv_aload_n hx hb dX9_restore_195 rfl (lv_at hl 0 rfl) ?_
                              refine lv_iload_n hx hb dX9_restore_196 rfl (lv_at hl 1 rfl) ?_
                              refine lv_iload hx hb dX9_restore_197 (lv_at hl 5 rfl) ?_
                              refine lv_iload_n hx hb dX9_restore_199 rfl (lv_at hl 2 rfl) ?_
                              refine lv_iload_n hx hb dX9_restore_200 rfl (lv_at hl 3 rfl) ?_
                              have e52 : ∀ j : Int, Xd 70 0 j = X 70 0 j := fun j => by rw [hGXd 70 0 j (show 7000 ∉ [5600, 6000, 5700, 5800, 5900, 8500, 4042, 4043, 4044] by first | exact nlm_ni rfl | decide), hX22, u3_k _ _ _ _ (by first | exact Nat.ne_of_beq_eq_false rfl | decide), hGXb 70 0 j (show 7000 ∉ [5500, 5600] by first | exact nlm_ni rfl | decide), hGXa 70 0 j (show 7000 ∉ [8500] by first | exact nlm_ni rfl | decide), hX1, u3_k _ _ _ _ (by first | exact Nat.ne_of_beq_eq_false rfl | decide)]
                              have e53 : Xd 40 0 13 = X22 40 0 13 := by rw [hGXd 40 0 13 (show 4014 ∉ [5600, 6000, 5700, 5800, 5900, 8500, 4042, 4043, 4044] by first | exact nlm_ni rfl | decide)]
                              have e54 : Xd 55 0 (X 40 0 13 + r) = X 71 0 (30 * sv + r) := (by rw [hGXd 55 0 (X 40 0 13 + r) (show 5500 ∉ [5600, 6000, 5700, 5800, 5900, 8500, 4042, 4043, 4044] by first | exact nlm_ni rfl | decide), hX22, u3_k _ _ _ _ (by first | exact Nat.ne_of_beq_eq_false rfl | decide)]; exact (hNw r (by omega) (by omega)).1)
                              refine gos_i (run_V (As := [.int (jI sv), .int (jI r), .int (jI rule), .int (jI (X 40 0 13))]) (rest := []) hx hb hml hown hts (c_X9_fieldsBack l D tc base ad cnt Xd Y ln hRXd hFx hMIXd sv r rule (X 40 0 13) (by omega) (by simp only [e52, e53]; omega) (by omega) (by omega) (by simp only [e52, e53]; omega) (by rw [e54]; exact (show Xd 71 0 (30 * sv + r) = X 71 0 (30 * sv + r) from (by rw [hGXd 71 0 (30 * sv + r) (show 7100 ∉ [5600, 6000, 5700, 5800, 5900, 8500, 4042, 4043, 4044] by first | exact nlm_ni rfl | decide), hX22, u3_k _ _ _ _ (by first | exact Nat.ne_of_beq_eq_false rfl | decide), hGXb 71 0 (30 * sv + r) (show 7100 ∉ [5500, 5600] by first | exact nlm_ni rfl | decide), hGXa 71 0 (30 * sv + r) (show 7100 ∉ [8500] by first | exact nlm_ni rfl | decide), hX1, u3_k _ _ _ _ (by first | exact Nat.ne_of_beq_eq_false rfl | decide)])).symm)) (cwV 4 hts gX9_restore_X9_fieldsBack rfl rfl rfl (by first | exact hd_X9_fieldsBack | decide +kernel) ⟨Nat.le_of_ble_eq_true rfl, Nat.le_of_ble_eq_true rfl⟩) hK hw (by first | exact Int.le_refl 0 | omega) (by first | exact zlt hc40 | omega) sl_40_0 rfl rfl hl.1 rfl (Nat.le_of_ble_eq_true rfl) dX9_restore_201 ⟨Nat.le_of_ble_eq_true rfl, Nat.le_of_ble_eq_true rfl⟩) hS (fun z55 u56 H locs p57 hw hS => ?_)
                              obtain ⟨X58, eu56, hRX58, hG59, hMIX58, p57, hloX58, hfeX58⟩ := p57
                              subst eu56
                              have hFX58 : Frm [4001, 4014, 5500, 5600, 4029, 6000, 5700, 5800, 5900, 8500, 4042, 4043, 4044] X X58 := Frm.tr hFXd (Frm.mono hG59 (by first | exact nls_of rfl | decide))
                              have hOlX58 : Old X X58 := hOd.lo hG59 (by decide) hloX58
                              refine lv_istore (lv' := [(6, .int (jI z55)), (0, .ref (ad 40 0)), (1, .int (jI sv)), (2, .int (jI rule)), (3, .int (jI (X 40 0 13))), (4, .int (jI (X 70 0 sv))), (5, .int (jI r))]) hx hb dX9_restore_204 hl (by decide) rfl (fun ls hl => ?_)
                              refine lv_iload hx hb dX9_restore_206 (lv_at hl 0 rfl) ?_
                              refine x_if_eq (tgt := 219) hx hb (by omega) dX9_restore_208 (by decide) (fun c60 => ?_) (fun c60 => ?_)
                              · refine lv_iinc (v := jI (r + 1)) (lv' := [(5, .int (jI (r + 1))), (6, .int (jI z55)), (0, .ref (ad 40 0)), (1, .int (jI sv)), (2, .int (jI rule)), (3, .int (jI (X 40 0 13))), (4, .int (jI (X 70 0 sv)))]) hx hb dX9_restore_219 hl (k := 6) rfl (jI_add _ _) (by decide) rfl (fun ls hl => ?_)
                                refine lv_goto (tgt := 188) hx hb dX9_restore_222 (by decide) ?_
                                have q61 : Frm [5600, 6000, 5700, 5800, 5900, 8500, 4042, 4043, 4044] X22 Xd := Frm.tr Frm.rf (Frm.mono hGXd (by first | exact nls_of rfl | decide))
                                have q62 : Frm [5600, 6000, 5700, 5800, 5900, 8500, 4042, 4043, 4044] X22 X58 := Frm.tr q61 (Frm.mono hG59 (by first | exact nls_of rfl | decide))
                                exact ih188 (r + 1) X58 _ _ _ (by omega) hRX58 q62 (by omega) (hMIX58) (hOlX58) ((by rcases hfeX58 with ⟨-, q⟩ | ⟨q, -⟩; exact rTrM.push hTr (by omega) q; exfalso; omega)) (by omega) (hgI) hw hS (lv_sub hl [2, 3, 4, 5, 6, 0] rfl)
                              · refine lv_aload_n hx hb dX9_restore_211 rfl (lv_at hl 1 rfl) ?_
                                refine lv_iload_n hx hb dX9_restore_212 rfl (lv_at hl 4 rfl) ?_
                                refine x_puti (jz := 13) hx hb hf9 ⟨tyX9_ok, nmX9⟩ hw hS (by first | exact Int.le_refl 0 | omega) (by first | exact zlt hc40 | omega) sl_40_13 rfl lk151 rfl (tyX9_ok 13 (by decide)) rfl rfl dX9_restore_213 (fun H locs hw hS => ?_)
                                obtain ⟨X63, hX63⟩ : ∃ Xq, Xq = u3 X58 40 0 13 (X 40 0 13) := ⟨_, rfl⟩
                                rw [← hX63] at hw
                                have hRX63 : Rng X63 := by rw [hX63]; exact rng_set hRX58 (show 0 ≤ (X 40 0 13) ∧ (X 40 0 13) ≤ 30 by omega)
                                have hVX63 : X63 40 0 13 = (X 40 0 13) := by rw [hX63]; exact u3_s _ _ _ _ _
                                have hFX63 : Frm [4001, 4014, 5500, 5600, 4029, 6000, 5700, 5800, 5900, 8500, 4042, 4043, 4044] X X63 := by rw [hX63]; exact Frm.set hFX58 (show 4014 ∈ [4001, 4014, 5500, 5600, 4029, 6000, 5700, 5800, 5900, 8500, 4042, 4043, 4044] by first | exact nlm_in rfl | decide)
                                refine lv_iload hx hb dX9_restore_216 (lv_at hl 0 rfl) ?_
                                rw [hQ9]
                                refine ret_i (mc := 0) (ms := 0) hx hb hr hlocks hw hS (by first | exact Nat.le_of_ble_eq_true rfl | omega) (by first | exact Nat.le_of_ble_eq_true rfl | omega) dX9_restore_218 ?_
                                have q64 : Frm [4014] X58 X63 := by rw [hX63]; exact Frm.set Frm.rf (show 4014 ∈ [4014] by first | exact nlm_in rfl | decide)
                                exact ⟨X63, rfl, hRX63, hFX63, minv_rst_back hMI hR hFX63 (hOlX58.frm q64 (by decide)) hVX63, by omega, Or.inr (Or.inr (Or.inr ⟨(by (try delta Hid at *); omega), (by (try delta Hid at *); omega), by omega, _, hgI, Or.inr ⟨r, Xd, X58, by omega, by omega, hTr, hfeX58, by omega, hVX63, q64⟩⟩))⟩
                        have q66 : Frm [4001, 4014, 5500, 5600, 8500] X X1 := by rw [hX1]; exact Frm.set Frm.rf (show 4001 ∈ [4001, 4014, 5500, 5600, 8500] by first | exact nlm_in rfl | decide)
                        have q67 : Frm [4001, 4014, 5500, 5600, 8500] X Xa := Frm.tr q66 (Frm.mono hGXa (by first | exact nls_of rfl | decide))
                        have q68 : Frm [4001, 4014, 5500, 5600, 8500] X Xb := Frm.tr q67 (Frm.mono hGXb (by first | exact nls_of rfl | decide))
                        have q69 : Frm [4001, 4014, 5500, 5600, 8500] X X22 := by rw [hX22]; exact Frm.set q68 (show 4014 ∈ [4001, 4014, 5500, 5600, 8500] by first | exact nlm_in rfl | decide)
                        have q70 : Frm [4014] Xb X22 := by rw [hX22]; exact Frm.set Frm.rf (show 4014 ∈ [4014] by first | exact nlm_in rfl | decide)
                        exact lp188 (30 - 0 : Int).toNat.succ 0 X22 _ _ _ (by omega) hRX22 Frm.rf (by omega) (minv_rst_in (n := X 70 0 sv) hMI hR (by omega) q69 (hOl.frm q70 (by decide)) (fun r1 a b => ⟨(by rw [hX22, u3_k _ _ _ _ (by first | exact Nat.ne_of_beq_eq_false rfl | decide)]; exact (hNw r1 a b).1), fun q q0 q1 => (by rw [hX22, u3_k _ _ _ _ (by first | exact Nat.ne_of_beq_eq_false rfl | decide)]; exact (hNw r1 a b).2 q q0 q1)⟩) (by omega) rfl hVX22) ((hOl.frm q70 (by decide))) (rfl) (by omega) (⟨(by rw [hVX22] <;> omega), fun j a b => (by rw [hX22, u3_k _ _ _ _ (by first | exact Nat.ne_of_beq_eq_false rfl | decide), hGXb 85 0 j (show 8500 ∉ [5500, 5600] by first | exact nlm_ni rfl | decide)]; exact hbk j a (by omega)), hOl.frm q70 (by decide), (fun r1 a b => ⟨(by rw [hX22, u3_k _ _ _ _ (by first | exact Nat.ne_of_beq_eq_false rfl | decide)]; exact (hNw r1 a (by omega)).1), fun q q0 q1 => (by rw [hX22, u3_k _ _ _ _ (by first | exact Nat.ne_of_beq_eq_false rfl | decide)]; exact (hNw r1 a (by omega)).2 q q0 q1)⟩), q69⟩) hw hS (lv_sub hl [1, 2, 3, 4, 5, 0] rfl)
                      · refine lv_aload_n hx hb dX9_restore_96 rfl (lv_at hl 0 rfl) ?_
                        refine x_geto hx hb hf9 hw (by first | exact Int.le_refl 0 | omega) (by first | exact zlt hc40 | omega) sl_40_30 lk84 dX9_restore_97 ?_
                        refine lv_bipush (v := jI 30) hx hb dX9_restore_100 (by decide) ?_
                        refine lv_iload_n hx hb dX9_restore_102 rfl (lv_at hl 1 rfl) ?_
                        refine x_imul hx hb dX9_restore_103 ?_
                        refine lv_iload hx hb dX9_restore_104 (lv_at hl 5 rfl) ?_
                        refine x_iadd hx hb dX9_restore_106 ?_
                        refine x_iald hx hb hK.1 hw (by first | exact Int.le_refl 0 | omega) (by first | exact zlt hc71 | omega) ar_71 (len_E ar_71 (by first | exact Nat.ne_of_beq_eq_false rfl | decide)) (by omega) (by omega) (by omega) dX9_restore_107 ?_
                        have e77 : ∀ p9 q9 : Int, Xb 71 p9 q9 = X 71 p9 q9 := fun p9 q9 => by rw [hGXb 71 p9 q9 (show 7100 ∉ [5500, 5600] by first | exact nlm_ni rfl | decide), hGXa 71 p9 q9 (show 7100 ∉ [8500] by first | exact nlm_ni rfl | decide), hX1, u3_k _ _ _ _ (by first | exact Nat.ne_of_beq_eq_false rfl | decide)]
                        rw [e77 0 ((30 * sv) + r)]
                        have f78 : 0 ≤ X 71 0 ((30 * sv) + r) ∧ X 71 0 ((30 * sv) + r) ≤ 7 := hR 71 0 ((30 * sv) + r)
                        refine lv_istore (lv' := [(6, .int (jI (X 71 0 ((30 * sv) + r)))), (0, .ref (ad 40 0)), (1, .int (jI sv)), (2, .int (jI rule)), (3, .int (jI (X 40 0 13))), (4, .int (jI (X 70 0 sv))), (5, .int (jI r))]) hx hb dX9_restore_108 hl (by decide) rfl (fun ls hl => ?_)
                        refine lv_aload_n hx hb dX9_restore_110 rfl (lv_at hl 1 rfl) ?_
                        refine x_geto hx hb hf9 hw (by first | exact Int.le_refl 0 | omega) (by first | exact zlt hc40 | omega) sl_40_14 lk45 dX9_restore_111 ?_
                        refine lv_iload_n hx hb dX9_restore_114 rfl (lv_at hl 4 rfl) ?_
                        refine lv_iload hx hb dX9_restore_115 (lv_at hl 6 rfl) ?_
                        refine x_iadd hx hb dX9_restore_117 ?_
                        refine lv_iload hx hb dX9_restore_118 (lv_at hl 0 rfl) ?_
                        refine x_iast hx hb hK.1 hw hS (by first | exact Int.le_refl 0 | omega) (by first | exact zlt hc55 | omega) ar_55 (len_E ar_55 (by first | exact Nat.ne_of_beq_eq_false rfl | decide)) (by omega) (by omega) (by omega) dX9_restore_120 (fun H locs hw hS => ?_)
                        obtain ⟨X79, hX79⟩ : ∃ Xq, Xq = u3 Xb 55 0 ((X 40 0 13) + r) (X 71 0 ((30 * sv) + r)) := ⟨_, rfl⟩
                        rw [← hX79] at hw
                        have hRX79 : Rng X79 := by rw [hX79]; exact rng_set hRXb (show 0 ≤ (X 71 0 ((30 * sv) + r)) ∧ (X 71 0 ((30 * sv) + r)) ≤ 7 by omega)
                        have hVX79 : X79 55 0 ((X 40 0 13) + r) = (X 71 0 ((30 * sv) + r)) := by rw [hX79]; exact u3_s _ _ _ _ _
                        have hFX79 : Frm [4001, 4014, 5500, 5600, 4029, 6000, 5700, 5800, 5900, 8500, 4042, 4043, 4044] X X79 := by rw [hX79]; exact Frm.set hFXb (show 5500 ∈ [4001, 4014, 5500, 5600, 4029, 6000, 5700, 5800, 5900, 8500, 4042, 4043, 4044] by first | exact nlm_in rfl | decide)
                        refine lv_iconst (v := jI 0) hx hb dX9_restore_121 rfl ?_
                        refine lv_istore (lv' := [(7, .int (jI 0)), (6, .int (jI (X 71 0 ((30 * sv) + r)))), (0, .ref (ad 40 0)), (1, .int (jI sv)), (2, .int (jI rule)), (3, .int (jI (X 40 0 13))), (4, .int (jI (X 70 0 sv))), (5, .int (jI r))]) hx hb dX9_restore_122 hl (by decide) rfl (fun ls hl => ?_)
                        have lp124 : ∀ (nn : Nat) (k : Int) (Xc : Nat → Int → Int → Int) (H : Heap) (locs : List Loc) (ls : Array Slot), (5 - k) < (nn : Int) → (Rng Xc) → (Frm [5600] X79 Xc) → (0 ≤ k ∧ k ≤ 5) → (Old X Xc) → (New X Xc sv r) → (Xc 55 0 (X 40 0 13 + r) = X 71 0 (30 * sv + r)) → (∀ q, 0 ≤ q → q < k → Xc 56 0 (5 * (X 40 0 13 + r) + q) = X 47 0 (5 * X 71 0 (30 * sv + r) + q)) → wd D tc base (ad, cnt, Xc, Y, ln) H → va_S (frA base) s.heap H locs → lv_has ls 8 [(0, .ref (ad 40 0)), (1, .int (jI sv)), (2, .int (jI rule)), (3, .int (jI (X 40 0 13))), (4, .int (jI (X 70 0 sv))), (5, .int (jI r)), (6, .int (jI (X 71 0 ((30 * sv) + r)))), (7, .int (jI k))] → W p l e ({ frames := 4, cells := 0, slots := 0, locals := 105 } : Room) s m av9 below meth c H locs 0 0 Q9 (F0 m 124 ls []) := by
                          intro nn
                          induction nn with
                          | zero => intro k Xc H locs ls hm hRXc hGXc hk hOl hNw hN5 hNv hw hS hl; exfalso; omega
                          | succ nn ih124 =>
                            intro k Xc H locs ls hm hRXc hGXc hk hOl hNw hN5 hNv hw hS hl
                            have hFXc : Frm [4001, 4014, 5500, 5600, 4029, 6000, 5700, 5800, 5900, 8500, 4042, 4043, 4044] X Xc := Frm.tr hFX79 (Frm.mono hGXc (by first | exact nls_of rfl | decide))
                            refine lv_iload hx hb dX9_restore_124 (lv_at hl 7 rfl) ?_
                            refine lv_aload_n hx hb dX9_restore_126 rfl (lv_at hl 0 rfl) ?_
                            refine x_geto hx hb hf9 hw (by first | exact Int.le_refl 0 | omega) (by first | exact zlt hc40 | omega) sl_40_3 lk13 dX9_restore_127 ?_
                            refine lv_iload hx hb dX9_restore_130 (lv_at hl 6 rfl) ?_
                            refine x_iald hx hb hK.1 hw (by first | exact Int.le_refl 0 | omega) (by first | exact zlt hc44 | omega) ar_44 (len_E ar_44 (by first | exact Nat.ne_of_beq_eq_false rfl | decide)) (by omega) (by omega) (by omega) dX9_restore_132 ?_
                            have e80 : ∀ p9 q9 : Int, Xc 44 p9 q9 = X 44 p9 q9 := fun p9 q9 => by rw [hGXc 44 p9 q9 (show 4400 ∉ [5600] by first | exact nlm_ni rfl | decide), hX79, u3_k _ _ _ _ (by first | exact Nat.ne_of_beq_eq_false rfl | decide), hGXb 44 p9 q9 (show 4400 ∉ [5500, 5600] by first | exact nlm_ni rfl | decide), hGXa 44 p9 q9 (show 4400 ∉ [8500] by first | exact nlm_ni rfl | decide), hX1, u3_k _ _ _ _ (by first | exact Nat.ne_of_beq_eq_false rfl | decide)]
                            rw [e80 0 (X 71 0 ((30 * sv) + r))]
                            have f81 : 0 ≤ X 44 0 (X 71 0 ((30 * sv) + r)) ∧ X 44 0 (X 71 0 ((30 * sv) + r)) ≤ 5 := hR 44 0 (X 71 0 ((30 * sv) + r))
                            refine x_icmp_ge (tgt := 168) hx hb (by omega) (by omega) dX9_restore_133 (by decide) (fun c82 => ?_) (fun c82 => ?_)
                            · refine lv_iinc (v := jI (r + 1)) (lv' := [(5, .int (jI (r + 1))), (0, .ref (ad 40 0)), (1, .int (jI sv)), (2, .int (jI rule)), (3, .int (jI (X 40 0 13))), (4, .int (jI (X 70 0 sv))), (6, .int (jI (X 71 0 ((30 * sv) + r)))), (7, .int (jI k))]) hx hb dX9_restore_168 hl (k := 5) rfl (jI_add _ _) (by decide) rfl (fun ls hl => ?_)
                              refine lv_goto (tgt := 89) hx hb dX9_restore_171 (by decide) ?_
                              have q83 : Frm [5500, 5600] Xa Xb := Frm.tr Frm.rf (Frm.mono hGXb (by first | exact nls_of rfl | decide))
                              have q84 : Frm [5500, 5600] Xa X79 := by rw [hX79]; exact Frm.set q83 (show 5500 ∈ [5500, 5600] by first | exact nlm_in rfl | decide)
                              have q85 : Frm [5500, 5600] Xa Xc := Frm.tr q84 (Frm.mono hGXc (by first | exact nls_of rfl | decide))
                              exact ih89 (r + 1) Xc _ _ _ (by omega) hRXc q85 (by omega) (hOl) (hNw.next hN5 (fun q a b => hNv q a (by omega))) (by omega) hw hS (lv_sub hl [1, 2, 3, 4, 5, 0] rfl)
                            · refine lv_aload_n hx hb dX9_restore_136 rfl (lv_at hl 0 rfl) ?_
                              refine x_geto hx hb hf9 hw (by first | exact Int.le_refl 0 | omega) (by first | exact zlt hc40 | omega) sl_40_15 lk48 dX9_restore_137 ?_
                              refine lv_iconst (v := jI 5) hx hb dX9_restore_140 rfl ?_
                              refine lv_iload_n hx hb dX9_restore_141 rfl (lv_at hl 3 rfl) ?_
                              refine lv_iload hx hb dX9_restore_142 (lv_at hl 5 rfl) ?_
                              refine x_iadd hx hb dX9_restore_144 ?_
                              refine x_imul hx hb dX9_restore_145 ?_
                              refine lv_iload hx hb dX9_restore_146 (lv_at hl 7 rfl) ?_
                              refine x_iadd hx hb dX9_restore_148 ?_
                              refine lv_aload_n hx hb dX9_restore_149 rfl (lv_at hl 0 rfl) ?_
                              refine x_geto hx hb hf9 hw (by first | exact Int.le_refl 0 | omega) (by first | exact zlt hc40 | omega) sl_40_6 lk23 dX9_restore_150 ?_
                              refine lv_iconst (v := jI 5) hx hb dX9_restore_153 rfl ?_
                              refine lv_iload hx hb dX9_restore_154 (lv_at hl 6 rfl) ?_
                              refine x_imul hx hb dX9_restore_156 ?_
                              refine lv_iload hx hb dX9_restore_157 (lv_at hl 7 rfl) ?_
                              refine x_iadd hx hb dX9_restore_159 ?_
                              refine x_lald hx hb hK.1 hw (by first | exact Int.le_refl 0 | omega) (by first | exact zlt hc47 | omega) ar_47 (len_E ar_47 (by first | exact Nat.ne_of_beq_eq_false rfl | decide)) (by omega) (by omega) (by omega) dX9_restore_160 ?_
                              have e86 : ∀ p9 q9 : Int, Xc 47 p9 q9 = X 47 p9 q9 := fun p9 q9 => by rw [hGXc 47 p9 q9 (show 4700 ∉ [5600] by first | exact nlm_ni rfl | decide), hX79, u3_k _ _ _ _ (by first | exact Nat.ne_of_beq_eq_false rfl | decide), hGXb 47 p9 q9 (show 4700 ∉ [5500, 5600] by first | exact nlm_ni rfl | decide), hGXa 47 p9 q9 (show 4700 ∉ [8500] by first | exact nlm_ni rfl | decide), hX1, u3_k _ _ _ _ (by first | exact Nat.ne_of_beq_eq_false rfl | decide)]
                              rw [e86 0 ((5 * (X 71 0 ((30 * sv) + r))) + k)]
                              have f87 : (-9223372036854775808) ≤ X 47 0 ((5 * (X 71 0 ((30 * sv) + r))) + k) ∧ X 47 0 ((5 * (X 71 0 ((30 * sv) + r))) + k) ≤ 9223372036854775807 := hR 47 0 ((5 * (X 71 0 ((30 * sv) + r))) + k)
                              refine x_last hx hb hK.1 hw hS (by first | exact Int.le_refl 0 | omega) (by first | exact zlt hc56 | omega) ar_56 (len_E ar_56 (by first | exact Nat.ne_of_beq_eq_false rfl | decide)) (by omega) (by omega) (by omega) dX9_restore_161 (fun H locs hw hS => ?_)
                              obtain ⟨X88, hX88⟩ : ∃ Xq, Xq = u3 Xc 56 0 ((5 * ((X 40 0 13) + r)) + k) (X 47 0 ((5 * (X 71 0 ((30 * sv) + r))) + k)) := ⟨_, rfl⟩
                              rw [← hX88] at hw
                              have hRX88 : Rng X88 := by rw [hX88]; exact rng_set hRXc (show (-9223372036854775808) ≤ (X 47 0 ((5 * (X 71 0 ((30 * sv) + r))) + k)) ∧ (X 47 0 ((5 * (X 71 0 ((30 * sv) + r))) + k)) ≤ 9223372036854775807 by omega)
                              have hVX88 : X88 56 0 ((5 * ((X 40 0 13) + r)) + k) = (X 47 0 ((5 * (X 71 0 ((30 * sv) + r))) + k)) := by rw [hX88]; exact u3_s _ _ _ _ _
                              have hFX88 : Frm [4001, 4014, 5500, 5600, 4029, 6000, 5700, 5800, 5900, 8500, 4042, 4043, 4044] X X88 := by rw [hX88]; exact Frm.set hFXc (show 5600 ∈ [4001, 4014, 5500, 5600, 4029, 6000, 5700, 5800, 5900, 8500, 4042, 4043, 4044] by first | exact nlm_in rfl | decide)
                              refine lv_iinc (v := jI (k + 1)) (lv' := [(7, .int (jI (k + 1))), (0, .ref (ad 40 0)), (1, .int (jI sv)), (2, .int (jI rule)), (3, .int (jI (X 40 0 13))), (4, .int (jI (X 70 0 sv))), (5, .int (jI r)), (6, .int (jI (X 71 0 ((30 * sv) + r))))]) hx hb dX9_restore_162 hl (k := 7) rfl (jI_add _ _) (by decide) rfl (fun ls hl => ?_)
                              refine lv_goto (tgt := 124) hx hb dX9_restore_165 (by decide) ?_
                              have q89 : Frm [5600] X79 Xc := Frm.tr Frm.rf (Frm.mono hGXc (by first | exact nls_of rfl | decide))
                              have q90 : Frm [5600] X79 X88 := by rw [hX88]; exact Frm.set q89 (show 5600 ∈ [5600] by first | exact nlm_in rfl | decide)
                              exact ih124 (k + 1) X88 _ _ _ (by omega) hRX88 q90 (by omega) ((by rw [hX88]; exact hOl.s56 (by omega))) ((by rw [hX88]; exact hNw.s56 hR (by omega))) ((by rw [hX88, u3_k _ _ _ _ (by first | exact Nat.ne_of_beq_eq_false rfl | decide)]; exact hN5)) (fun q a b => if hq : q = k then (by rw [hq]; exact hVX88) else (by rw [hX88, u3_j _ _ _ _ (by omega)]; exact hNv q a (by omega))) hw hS (lv_sub hl [1, 2, 3, 4, 5, 6, 7, 0] rfl)
                        exact lp124 (5 - 0 : Int).toNat.succ 0 X79 _ _ _ (by omega) hRX79 Frm.rf (by omega) ((by rw [hX79]; exact hOl.s55 (by omega))) ((by rw [hX79]; exact hNw.s55 (by omega))) (hVX79) (fun q a b => by omega) hw hS (lv_sub hl [2, 3, 4, 5, 6, 7, 1, 0] rfl)
                  have q91 : Frm [4001, 8500] X X1 := by rw [hX1]; exact Frm.set Frm.rf (show 4001 ∈ [4001, 8500] by first | exact nlm_in rfl | decide)
                  have q92 : Frm [4001, 8500] X Xa := Frm.tr q91 (Frm.mono hGXa (by first | exact nls_of rfl | decide))
                  exact lp89 (30 - 0 : Int).toNat.succ 0 Xa _ _ _ (by omega) hRXa Frm.rf (by omega) (Old.rf q92 (by decide)) (New.nil) (by omega) hw hS (lv_sub hl [1, 2, 3, 4, 5, 0] rfl)
                · refine lv_aload_n hx hb dX9_restore_72 rfl (lv_at hl 0 rfl) ?_
                  refine x_geto hx hb hf9 hw (by first | exact Int.le_refl 0 | omega) (by first | exact zlt hc40 | omega) sl_40_44 lk127 dX9_restore_73 ?_
                  refine lv_iload hx hb dX9_restore_76 (lv_at hl 5 rfl) ?_
                  refine lv_iconst (v := jI (-1)) hx hb dX9_restore_78 rfl ?_
                  refine x_iast hx hb hK.1 hw hS (by first | exact Int.le_refl 0 | omega) (by first | exact zlt hc85 | omega) ar_85 (len_E ar_85 (by first | exact Nat.ne_of_beq_eq_false rfl | decide)) (by omega) (by omega) (by omega) dX9_restore_79 (fun H locs hw hS => ?_)
                  obtain ⟨X93, hX93⟩ : ∃ Xq, Xq = u3 Xa 85 0 k (-1) := ⟨_, rfl⟩
                  rw [← hX93] at hw
                  have hRX93 : Rng X93 := by rw [hX93]; exact rng_set hRXa (show (-1) ≤ (-1) ∧ (-1) ≤ 399 by omega)
                  have hVX93 : X93 85 0 k = (-1) := by rw [hX93]; exact u3_s _ _ _ _ _
                  have hFX93 : Frm [4001, 4014, 5500, 5600, 4029, 6000, 5700, 5800, 5900, 8500, 4042, 4043, 4044] X X93 := by rw [hX93]; exact Frm.set hFXa (show 8500 ∈ [4001, 4014, 5500, 5600, 4029, 6000, 5700, 5800, 5900, 8500, 4042, 4043, 4044] by first | exact nlm_in rfl | decide)
                  refine lv_iinc (v := jI (k + 1)) (lv' := [(5, .int (jI (k + 1))), (0, .ref (ad 40 0)), (1, .int (jI sv)), (2, .int (jI rule)), (3, .int (jI (X 40 0 13))), (4, .int (jI (X 70 0 sv)))]) hx hb dX9_restore_80 hl (k := 5) rfl (jI_add _ _) (by decide) rfl (fun ls hl => ?_)
                  refine lv_goto (tgt := 64) hx hb dX9_restore_83 (by decide) ?_
                  have q94 : Frm [8500] X1 Xa := Frm.tr Frm.rf (Frm.mono hGXa (by first | exact nls_of rfl | decide))
                  have q95 : Frm [8500] X1 X93 := by rw [hX93]; exact Frm.set q94 (show 8500 ∈ [8500] by first | exact nlm_in rfl | decide)
                  exact ih64 (k + 1) X93 _ _ _ (by omega) hRX93 q95 (by omega) (fun j a b => if hj : j = k then (by rw [hX93, hj]; exact u3_s _ _ _ _ _) else (by rw [hX93, u3_j _ _ _ _ hj]; exact hbk j a (by omega))) hw hS (lv_sub hl [1, 2, 3, 4, 5, 0] rfl)
            exact lp64 (450 - 0 : Int).toNat.succ 0 X1 _ _ _ (by omega) hRX1 Frm.rf (by omega) (fun j a b => by omega) hw hS (lv_sub hl [3, 4, 5, 2, 1, 0] rfl)
          · refine lv_bipush (v := jI (-4)) hx hb dX9_restore_58 (by decide) ?_
            rw [hQ9]
            refine ret_i (mc := 0) (ms := 0) hx hb hr hlocks hw hS (by first | exact Nat.le_of_ble_eq_true rfl | omega) (by first | exact Nat.le_of_ble_eq_true rfl | omega) dX9_restore_60 ?_
            have hMq96 : MInv X1 := minv_frm hMI q900027 (by decide)
            exact ⟨X1, rfl, hRX1, hFX1, hMq96, by omega, Or.inr (Or.inr (Or.inl ⟨(by (try delta Hid at *); omega), (by (try delta Hid at *); omega), by omega, by omega, q900027⟩))⟩
        · refine lv_bipush (v := jI (-2)) hx hb dX9_restore_33 (by decide) ?_
          rw [hQ9]
          refine ret_i (mc := 0) (ms := 0) hx hb hr hlocks hw hS (by first | exact Nat.le_of_ble_eq_true rfl | omega) (by first | exact Nat.le_of_ble_eq_true rfl | omega) dX9_restore_35 ?_
          have hMq99 : MInv X1 := minv_frm hMI q900027 (by decide)
          exact ⟨X1, rfl, hRX1, hFX1, hMq99, by omega, Or.inr (Or.inl ⟨(by (try delta Hid at *); omega), (fun q => by (try delta Hid at *); omega), by omega, q900027⟩)⟩
    · refine lv_iconst (v := jI (-1)) hx hb dX9_restore_22 rfl ?_
      rw [hQ9]
      refine ret_i (mc := 0) (ms := 0) hx hb hr hlocks hw hS (by first | exact Nat.le_of_ble_eq_true rfl | omega) (by first | exact Nat.le_of_ble_eq_true rfl | omega) dX9_restore_23 ?_
      have hMq102 : MInv X1 := minv_frm hMI q900027 (by decide)
      exact ⟨X1, rfl, hRX1, hFX1, hMq102, by omega, Or.inl ⟨(fun q => by (try delta Hid at *); omega), by omega, q900027⟩⟩
  · subst ez2
    refine x_if_eqT (tgt := 22) hx hb (by omega) (by decide) dX9_restore_10 (by decide) ?_
    refine lv_iconst (v := jI (-1)) hx hb dX9_restore_22 rfl ?_
    rw [hQ9]
    refine ret_i (mc := 0) (ms := 0) hx hb hr hlocks hw hS (by first | exact Nat.le_of_ble_eq_true rfl | omega) (by first | exact Nat.le_of_ble_eq_true rfl | omega) dX9_restore_23 ?_
    have hMq105 : MInv X1 := minv_frm hMI q900027 (by decide)
    exact ⟨X1, rfl, hRX1, hFX1, hMq105, by omega, Or.inl ⟨(fun q => by (try delta Hid at *); omega), by omega, q900027⟩⟩
end
section
set_option maxHeartbeats 4000000 in
set_option maxRecDepth 100000 in
theorem c_X9_differs (l : Launch) (D : va_G) (tc : Nat → ClassId) (base : Nat) (ad : Nat → Int → Nat) (cnt : Nat → Int) (X : Nat → Int → Int → Int) (Y : Nat → Int → Int → Option Int) (ln : Int → Int) (hR : Rng X) (hFx : Fx cnt) (hMI : MInv X) (sv x : Int) (hsv : -2147483648 ≤ sv ∧ sv ≤ 2147483647) (hx : -2147483648 ≤ x ∧ x ≤ 2147483647) : KI l D tc base yX9_differs wsX9_differs ({ frames := 2, cells := 0, slots := 0, locals := 53 } : Room) [.ref (ad 40 0), .int (jI sv), .int (jI x)] (ad, cnt, X, Y, ln) 0 0 (fun z u => ∃ X1 : Nat → Int → Int → Int, u = (ad, cnt, X1, Y, ln) ∧ Rng X1 ∧ Frm [4001, 7100, 7200, 7300, 7400, 7500, 8000, 7000, 8100, 7700, 7800, 7900, 7600, 4042, 4043, 4044] X X1 ∧ MInv X1 ∧ (-2147483648 ≤ z ∧ z ≤ 2147483647) ∧ S4 X X1 ∧ S5 X X1 ∧ ((¬ ((0 ≤ sv ∧ sv < 4) ∧ X 70 0 sv ≠ 0 ∧ (0 ≤ x ∧ x < X 40 0 13)) ∧ z = -2) ∨ (((0 ≤ sv ∧ sv < 4) ∧ X 70 0 sv ≠ 0 ∧ (0 ≤ x ∧ x < X 40 0 13)) ∧ (rmT X1 (recR (fcM X) (lnM X) (mRid X) (mRid X) x 30) ∧ rmR X1 (recR (fcM X) (lnM X) (mRid X) (mRid X) x 30) ∧ rmV X1 (recR (fcM X) (lnM X) (mRid X) (mRid X) x 30) (recR (fcM X) (lnM X) (mRid X) (mRid X) x 30 0 0) 0) ∧ dfP (mxM X1 sv) (shM X1 sv) (fun r => X1 72 0 (30 * sv + r)) (vqM X1 sv) (fun r f => X1 73 0 (5 * (30 * sv + r) + f)) z))) := by
  refine K_of (cc := cX9_differs) (maxL := 12) (ret := (some .int)) (by decide) rfl (Nat.le_of_ble_eq_true rfl) ?_
  intro p e s m below meth c ls hx hb hr hml hown hts hlocks hl hK hw hS
  have hown : s.vm.findClass RX9 = some m.cls := hown
  obtain ⟨av9, hav9⟩ : ∃ a9 : Array Value, a9 = ([.ref (ad 40 0), .int (jI sv), .int (jI x)] : List Value).toArray := ⟨_, rfl⟩
  rw [← hav9] at hts ⊢
  obtain ⟨Q9, hQ9⟩ : ∃ q9Q : State → Prop, q9Q = MQ below (QI D tc base (fun z u => ∃ X1 : Nat → Int → Int → Int, u = (ad, cnt, X1, Y, ln) ∧ Rng X1 ∧ Frm [4001, 7100, 7200, 7300, 7400, 7500, 8000, 7000, 8100, 7700, 7800, 7900, 7600, 4042, 4043, 4044] X X1 ∧ MInv X1 ∧ (-2147483648 ≤ z ∧ z ≤ 2147483647) ∧ S4 X X1 ∧ S5 X X1 ∧ ((¬ ((0 ≤ sv ∧ sv < 4) ∧ X 70 0 sv ≠ 0 ∧ (0 ≤ x ∧ x < X 40 0 13)) ∧ z = -2) ∨ (((0 ≤ sv ∧ sv < 4) ∧ X 70 0 sv ≠ 0 ∧ (0 ≤ x ∧ x < X 40 0 13)) ∧ (rmT X1 (recR (fcM X) (lnM X) (mRid X) (mRid X) x 30) ∧ rmR X1 (recR (fcM X) (lnM X) (mRid X) (mRid X) x 30) ∧ rmV X1 (recR (fcM X) (lnM X) (mRid X) (mRid X) x 30) (recR (fcM X) (lnM X) (mRid X) (mRid X) x 30 0 0) 0) ∧ dfP (mxM X1 sv) (shM X1 sv) (fun r => X1 72 0 (30 * sv + r)) (vqM X1 sv) (fun r f => X1 73 0 (5 * (30 * sv + r) + f)) z)))) av9 s 0 0 (frA base) := ⟨_, rfl⟩
  rw [← hQ9]
  have hi9 : ∀ w ∈ wsX90, w ∈ wsX9_differs := fun w h => List.mem_cons_of_mem _ (List.mem_append_right _ h)
  have hf9 : fctx s m _ RX9 wsX9_differs D tc RX9 TX9 51 9 := ⟨hts, hi9, hown, hK.1, rfl⟩
  have lk81 := hts (.fieldLink RX9 81 (TX9 29).1 (TX9 29).2.1 (TX9 29).2.2.1) (gj_X9_differs_0 _ (gp_1 gp_h))
  have lk84 := hts (.fieldLink RX9 84 (TX9 30).1 (TX9 30).2.1 (TX9 30).2.2.1) (gj_X9_differs_0 _ (gp_1 (gp_1 gp_h)))
  have lk87 := hts (.fieldLink RX9 87 (TX9 31).1 (TX9 31).2.1 (TX9 31).2.2.1) (gj_X9_differs_0 _ (gp_1 (gp_1 (gp_1 gp_h))))
  have lk90 := hts (.fieldLink RX9 90 (TX9 32).1 (TX9 32).2.1 (TX9 32).2.2.1) (gj_X9_differs_0 _ (gp_4 gp_h))
  have lk93 := hts (.fieldLink RX9 93 (TX9 33).1 (TX9 33).2.1 (TX9 33).2.2.1) (gj_X9_differs_0 _ (gp_4 (gp_1 gp_h)))
  have lk96 := hts (.fieldLink RX9 96 (TX9 34).1 (TX9 34).2.1 (TX9 34).2.2.1) (gj_X9_differs_0 _ (gp_4 (gp_1 (gp_1 gp_h))))
  have lk145 := hts (.fieldLink RX9 145 (TX9 0).1 (TX9 0).2.1 (TX9 0).2.2.1) (gj_X9_differs_0 _ (gp_h))
  have hc40 : cnt 40 = 1 := hFx.at 40 1 (by decide)
  have hc70 : cnt 70 = 1 := hFx.at 70 1 (by decide)
  have hc71 : cnt 71 = 1 := hFx.at 71 1 (by decide)
  have hc72 : cnt 72 = 1 := hFx.at 72 1 (by decide)
  have hc73 : cnt 73 = 1 := hFx.at 73 1 (by decide)
  have hc74 : cnt 74 = 1 := hFx.at 74 1 (by decide)
  have hc75 : cnt 75 = 1 := hFx.at 75 1 (by decide)
  have hl : lv_has ls 12 [(0, .ref (ad 40 0)), (1, .int (jI sv)), (2, .int (jI x))] := hl
  have fstypes : 0 ≤ X 40 0 2 ∧ X 40 0 2 ≤ 8 := hR 40 0 2
  have fsthings : 0 ≤ X 40 0 13 ∧ X 40 0 13 ≤ 30 := hR 40 0 13
  have fsmarks : 0 ≤ X 40 0 20 ∧ X 40 0 20 ≤ 4 := hR 40 0 20
  have fsnotes : 0 ≤ X 40 0 22 ∧ X 40 0 22 ≤ 80 := hR 40 0 22
  refine lv_aload_n hx hb dX9_differs_0 rfl (lv_at hl 0 rfl) ?_
  refine lv_iconst (v := jI 0) hx hb dX9_differs_1 rfl ?_
  refine x_puti (jz := 0) hx hb hf9 ⟨tyX9_ok, nmX9⟩ hw hS (by first | exact Int.le_refl 0 | omega) (by first | exact zlt hc40 | omega) sl_40_0 rfl lk145 rfl (tyX9_ok 0 (by decide)) rfl rfl dX9_differs_2 (fun H locs hw hS => ?_)
  obtain ⟨X1, hX1⟩ : ∃ Xq, Xq = u3 X 40 0 0 0 := ⟨_, rfl⟩
  rw [← hX1] at hw
  have hRX1 : Rng X1 := by rw [hX1]; exact rng_set hR (show (-2147483648) ≤ 0 ∧ 0 ≤ 2147483647 by omega)
  have hVX1 : X1 40 0 0 = 0 := by rw [hX1]; exact u3_s _ _ _ _ _
  have hFX1 : Frm [4001, 7100, 7200, 7300, 7400, 7500, 8000, 7000, 8100, 7700, 7800, 7900, 7600, 4042, 4043, 4044] X X1 := by rw [hX1]; exact Frm.set Frm.rf (show 4001 ∈ [4001, 7100, 7200, 7300, 7400, 7500, 8000, 7000, 8100, 7700, 7800, 7900, 7600, 4042, 4043, 4044] by first | exact nlm_in rfl | decide)
  refine lv_aload_n hx hb dX9_differs_5 rfl (lv_at hl 0 rfl) ?_
  refine lv_iload_n hx hb dX9_differs_6 rfl (lv_at hl 1 rfl) ?_
  refine gos_i (run_V (As := [.int (jI sv)]) (rest := []) hx hb hml hown hts (c_X9_isSave l D tc base ad cnt X1 Y ln hRX1 hFx sv (by omega)) (cwV 1 hts gX9_differs_X9_isSave rfl rfl rfl (by first | exact hd_X9_isSave | decide +kernel) ⟨Nat.le_of_ble_eq_true rfl, Nat.le_of_ble_eq_true rfl⟩) hK hw (by first | exact Int.le_refl 0 | omega) (by first | exact zlt hc40 | omega) sl_40_0 rfl rfl hl.1 rfl (Nat.le_of_ble_eq_true rfl) dX9_differs_7 ⟨Nat.le_of_ble_eq_true rfl, Nat.le_of_ble_eq_true rfl⟩) hS (fun z2 u3 H locs p4 hw hS => ?_)
  obtain ⟨eu3, p4⟩ := p4
  subst eu3
  have q900029 : Frm [4001] X X1 := by rw [hX1]; exact Frm.set Frm.rf (show 4001 ∈ [4001] by first | exact nlm_in rfl | decide)
  rcases p4 with ⟨ez2, p4⟩ | ⟨ez2, p4⟩
  · subst ez2
    refine x_if_eqF (tgt := 30) hx hb (by omega) (by decide) dX9_differs_10 (by decide) ?_
    refine lv_aload_n hx hb dX9_differs_13 rfl (lv_at hl 0 rfl) ?_
    refine x_geto hx hb hf9 hw (by first | exact Int.le_refl 0 | omega) (by first | exact zlt hc40 | omega) sl_40_29 lk81 dX9_differs_14 ?_
    refine lv_iload_n hx hb dX9_differs_17 rfl (lv_at hl 1 rfl) ?_
    refine x_iald hx hb hK.1 hw (by first | exact Int.le_refl 0 | omega) (by first | exact zlt hc70 | omega) ar_70 (len_E ar_70 (by first | exact Nat.ne_of_beq_eq_false rfl | decide)) (by omega) (by omega) (by omega) dX9_differs_18 ?_
    have e5 : ∀ p9 q9 : Int, X1 70 p9 q9 = X 70 p9 q9 := fun p9 q9 => by rw [hX1, u3_k _ _ _ _ (by first | exact Nat.ne_of_beq_eq_false rfl | decide)]
    rw [e5 0 sv]
    have f6 : 0 ≤ X 70 0 sv ∧ X 70 0 sv ≤ 30 := hR 70 0 sv
    refine x_if_eq (tgt := 30) hx hb (by omega) dX9_differs_19 (by decide) (fun c7 => ?_) (fun c7 => ?_)
    · refine lv_bipush (v := jI (-2)) hx hb dX9_differs_30 (by decide) ?_
      rw [hQ9]
      refine ret_i (mc := 0) (ms := 0) hx hb hr hlocks hw hS (by first | exact Nat.le_of_ble_eq_true rfl | omega) (by first | exact Nat.le_of_ble_eq_true rfl | omega) dX9_differs_32 ?_
      have q9 : Frm [4001] X X1 := by rw [hX1]; exact Frm.set Frm.rf (show 4001 ∈ [4001] by first | exact nlm_in rfl | decide)
      have hMq8 : MInv X1 := minv_frm hMI q9 (by decide)
      have q10 : Frm [4001] X X1 := by rw [hX1]; exact Frm.set Frm.rf (show 4001 ∈ [4001] by first | exact nlm_in rfl | decide)
      exact ⟨X1, rfl, hRX1, hFX1, hMq8, by omega, S4.frm q10 (by decide), S5.frm q10 (by decide), Or.inl ⟨(fun q => by (try delta Hid at *); omega), by omega⟩⟩
    · refine lv_aload_n hx hb dX9_differs_22 rfl (lv_at hl 0 rfl) ?_
      refine lv_iload_n hx hb dX9_differs_23 rfl (lv_at hl 2 rfl) ?_
      refine gos_i (run_V (As := [.int (jI x)]) (rest := []) hx hb hml hown hts (c_X9_isThing l D tc base ad cnt X1 Y ln hRX1 hFx x (by omega)) (cwV 1 hts gX9_differs_X9_isThing rfl rfl rfl (by first | exact hd_X9_isThing | decide +kernel) ⟨Nat.le_of_ble_eq_true rfl, Nat.le_of_ble_eq_true rfl⟩) hK hw (by first | exact Int.le_refl 0 | omega) (by first | exact zlt hc40 | omega) sl_40_0 rfl rfl hl.1 rfl (Nat.le_of_ble_eq_true rfl) dX9_differs_24 ⟨Nat.le_of_ble_eq_true rfl, Nat.le_of_ble_eq_true rfl⟩) hS (fun z11 u12 H locs p13 hw hS => ?_)
      obtain ⟨eu12, p13⟩ := p13
      subst eu12
      have e14 : X1 40 0 13 = X 40 0 13 := by rw [hX1, u3_j _ _ _ _ (by decide)]
      simp only [e14] at p13
      rcases p13 with ⟨ez11, p13⟩ | ⟨ez11, p13⟩
      · subst ez11
        refine x_if_neT (tgt := 33) hx hb (by omega) (by decide) dX9_differs_27 (by decide) ?_
        refine lv_aload_n hx hb dX9_differs_33 rfl (lv_at hl 0 rfl) ?_
        refine lv_iload_n hx hb dX9_differs_34 rfl (lv_at hl 2 rfl) ?_
        refine lv_iconst (v := jI 0) hx hb dX9_differs_35 rfl ?_
        have q16 : Frm [4001] X X1 := by rw [hX1]; exact Frm.set Frm.rf (show 4001 ∈ [4001] by first | exact nlm_in rfl | decide)
        have hMq15 : MInv X1 := minv_frm hMI q16 (by decide)
        have e17 : X1 40 0 13 = X 40 0 13 := by rw [hX1, u3_j _ _ _ _ (by decide)]
        refine gos_i (run_V (As := [.int (jI x), .int (jI 0)]) (rest := []) hx hb hml hown hts (c_X9_saves l D tc base ad cnt X1 Y ln hRX1 hFx hMq15 x 0 (by omega) (by simp only [e17]; omega) (by omega)) (cwV 2 hts gX9_differs_X9_saves rfl rfl rfl (by first | exact hd_X9_saves | decide +kernel) ⟨Nat.le_of_ble_eq_true rfl, Nat.le_of_ble_eq_true rfl⟩) hK hw (by first | exact Int.le_refl 0 | omega) (by first | exact zlt hc40 | omega) sl_40_0 rfl rfl hl.1 rfl (Nat.le_of_ble_eq_true rfl) dX9_differs_36 ⟨Nat.le_of_ble_eq_true rfl, Nat.le_of_ble_eq_true rfl⟩) hS (fun z18 u19 H locs p20 hw hS => ?_)
        obtain ⟨X21, eu19, hRX21, hG22, hMIX21, p20, h4X21, hcX21, hsvX21, h5X21, hm20X21⟩ := p20
        subst eu19
        have hFX21 : Frm [4001, 7100, 7200, 7300, 7400, 7500, 8000, 7000, 8100, 7700, 7800, 7900, 7600, 4042, 4043, 4044] X X21 := Frm.tr hFX1 (Frm.mono hG22 (by first | exact nls_of rfl | decide))
        refine lv_pop hx hb dX9_differs_39 rfl ?_
        have lp74 : ∀ (nn : Nat) (nz : Int) (r : Int) (H : Heap) (locs : List Loc) (ls : Array Slot), (30 - r) < (nn : Int) → (0 ≤ nz ∧ nz ≤ 30) → (0 ≤ r ∧ r ≤ 30) → (nz = mxM X21 sv) → (∀ r', 0 ≤ r' → r' < r → shM X21 sv r' ∧ ∀ f, 0 ≤ f → f < X21 72 0 (30 * sv + r') → vqM X21 sv r' f) → wd D tc base (ad, cnt, X21, Y, ln) H → va_S (frA base) s.heap H locs → lv_has ls 12 [(0, .ref (ad 40 0)), (1, .int (jI sv)), (2, .int (jI x)), (3, .int (jI nz)), (4, .int (jI r))] → W p l e ({ frames := 2, cells := 0, slots := 0, locals := 53 } : Room) s m av9 below meth c H locs 0 0 Q9 (F0 m 74 ls []) := by
          intro nn
          induction nn with
          | zero => intro nz r H locs ls hm hnz hr0 hnzv hall hw hS hl; exfalso; omega
          | succ nn ih74 =>
            intro nz r H locs ls hm hnz hr0 hnzv hall hw hS hl
            refine lv_iload hx hb dX9_differs_74 (lv_at hl 4 rfl) ?_
            refine lv_iload_n hx hb dX9_differs_76 rfl (lv_at hl 3 rfl) ?_
            refine x_icmp_ge (tgt := 417) hx hb (by omega) (by omega) dX9_differs_77 (by decide) (fun c23 => ?_) (fun c23 => ?_)
            · refine lv_iconst (v := jI (-1)) hx hb dX9_differs_417 rfl ?_
              rw [hQ9]
              refine ret_i (mc := 0) (ms := 0) hx hb hr hlocks hw hS (by first | exact Nat.le_of_ble_eq_true rfl | omega) (by first | exact Nat.le_of_ble_eq_true rfl | omega) dX9_differs_418 ?_
              have hrd25 := rdr_eq (L := [4001]) q900029 (by decide)
              have hsx26 := hsvX21
              rw [hrd25.1, hrd25.2.1, hrd25.2.2, Frm.arr q900029 48 (by decide +kernel) (by decide), Frm.arr q900029 55 (by decide +kernel) (by decide)] at hsx26
              exact ⟨X21, rfl, hRX21, hFX21, hMIX21, by omega, S4.tr (S4.frm q900029 (by decide)) h4X21, S5.tr (S5.frm q900029 (by decide)) h5X21, Or.inr ⟨(by (try delta Hid at *); omega), (by rcases hsx26 with ⟨-, q, -⟩ | ⟨-, -, q⟩; exact absurd q (by decide); exact q), Or.inl ⟨rfl, fun r9 a b => hall r9 a (by omega)⟩⟩⟩
            · refine lv_iload hx hb dX9_differs_80 (lv_at hl 4 rfl) ?_
              refine lv_aload_n hx hb dX9_differs_82 rfl (lv_at hl 0 rfl) ?_
              refine x_geto hx hb hf9 hw (by first | exact Int.le_refl 0 | omega) (by first | exact zlt hc40 | omega) sl_40_29 lk81 dX9_differs_83 ?_
              refine lv_iload_n hx hb dX9_differs_86 rfl (lv_at hl 1 rfl) ?_
              refine x_iald hx hb hK.1 hw (by first | exact Int.le_refl 0 | omega) (by first | exact zlt hc70 | omega) ar_70 (len_E ar_70 (by first | exact Nat.ne_of_beq_eq_false rfl | decide)) (by omega) (by omega) (by omega) dX9_differs_87 ?_
              have f27 : 0 ≤ X21 70 0 sv ∧ X21 70 0 sv ≤ 30 := hRX21 70 0 sv
              refine x_icmp_ge (tgt := 102) hx hb (by omega) (by omega) dX9_differs_88 (by decide) (fun c28 => ?_) (fun c28 => ?_)
              · refine lv_bipush (v := jI 100) hx hb dX9_differs_102 (by decide) ?_
                refine lv_iload hx hb dX9_differs_104 (lv_at hl 4 rfl) ?_
                refine x_imul hx hb dX9_differs_106 ?_
                refine lv_bipush (v := jI 99) hx hb dX9_differs_107 (by decide) ?_
                refine x_iadd hx hb dX9_differs_109 ?_
                rw [hQ9]
                refine ret_i (mc := 0) (ms := 0) hx hb hr hlocks hw hS (by first | exact Nat.le_of_ble_eq_true rfl | omega) (by first | exact Nat.le_of_ble_eq_true rfl | omega) dX9_differs_110 ?_
                have hrd30 := rdr_eq (L := [4001]) q900029 (by decide)
                have hsx31 := hsvX21
                rw [hrd30.1, hrd30.2.1, hrd30.2.2, Frm.arr q900029 48 (by decide +kernel) (by decide), Frm.arr q900029 55 (by decide +kernel) (by decide)] at hsx31
                exact ⟨X21, rfl, hRX21, hFX21, hMIX21, by omega, S4.tr (S4.frm q900029 (by decide)) h4X21, S5.tr (S5.frm q900029 (by decide)) h5X21, Or.inr ⟨(by (try delta Hid at *); omega), (by rcases hsx31 with ⟨-, q, -⟩ | ⟨-, -, q⟩; exact absurd q (by decide); exact q), Or.inr ⟨r, by omega, by omega, hall, Or.inl ⟨(fun q => by have q1 := q.1; have q2 := q.2.1; omega), by omega⟩⟩⟩⟩
              · refine lv_iload hx hb dX9_differs_91 (lv_at hl 4 rfl) ?_
                refine lv_aload_n hx hb dX9_differs_93 rfl (lv_at hl 0 rfl) ?_
                refine x_geto hx hb hf9 hw (by first | exact Int.le_refl 0 | omega) (by first | exact zlt hc40 | omega) sl_40_29 lk81 dX9_differs_94 ?_
                refine lv_iconst (v := jI 4) hx hb dX9_differs_97 rfl ?_
                refine x_iald hx hb hK.1 hw (by first | exact Int.le_refl 0 | omega) (by first | exact zlt hc70 | omega) ar_70 (len_E ar_70 (by first | exact Nat.ne_of_beq_eq_false rfl | decide)) (by omega) (by omega) (by omega) dX9_differs_98 ?_
                have f32 : 0 ≤ X21 70 0 4 ∧ X21 70 0 4 ≤ 30 := hRX21 70 0 4
                refine x_icmp_lt (tgt := 111) hx hb (by omega) (by omega) dX9_differs_99 (by decide) (fun c33 => ?_) (fun c33 => ?_)
                · refine lv_bipush (v := jI 30) hx hb dX9_differs_111 (by decide) ?_
                  refine lv_iload_n hx hb dX9_differs_113 rfl (lv_at hl 1 rfl) ?_
                  refine x_imul hx hb dX9_differs_114 ?_
                  refine lv_iload hx hb dX9_differs_115 (lv_at hl 4 rfl) ?_
                  refine x_iadd hx hb dX9_differs_117 ?_
                  refine lv_istore (lv' := [(5, .int (jI ((30 * sv) + r))), (0, .ref (ad 40 0)), (1, .int (jI sv)), (2, .int (jI x)), (3, .int (jI nz)), (4, .int (jI r))]) hx hb dX9_differs_118 hl (by decide) rfl (fun ls hl => ?_)
                  refine lv_bipush (v := jI 120) hx hb dX9_differs_120 (by decide) ?_
                  refine lv_iload hx hb dX9_differs_122 (lv_at hl 5 rfl) ?_
                  refine x_iadd hx hb dX9_differs_124 ?_
                  refine lv_istore (lv' := [(6, .int (jI (120 + r))), (5, .int (jI ((30 * sv) + r))), (0, .ref (ad 40 0)), (1, .int (jI sv)), (2, .int (jI x)), (3, .int (jI nz)), (4, .int (jI r))]) hx hb dX9_differs_125 hl (by decide) rfl (fun ls hl => ?_)
                  have lp171 : ∀ (nn : Nat) (sm : Int) (k : Int) (H : Heap) (locs : List Loc) (ls : Array Slot), (5 - k) < (nn : Int) → (0 ≤ sm ∧ sm ≤ 1) → (0 ≤ k ∧ k ≤ 5) → (sm = 1 → X21 71 0 (30 * sv + r) = X21 71 0 (120 + r) ∧ X21 72 0 (30 * sv + r) = X21 72 0 (120 + r) ∧ ∀ j, 0 ≤ j → j < k → X21 73 0 (5 * (30 * sv + r) + j) = X21 73 0 (5 * (120 + r) + j) ∧ X21 74 0 (5 * (30 * sv + r) + j) = X21 74 0 (5 * (120 + r) + j)) → (sm = 0 → ¬ shM X21 sv r) → wd D tc base (ad, cnt, X21, Y, ln) H → va_S (frA base) s.heap H locs → lv_has ls 12 [(0, .ref (ad 40 0)), (1, .int (jI sv)), (2, .int (jI x)), (3, .int (jI nz)), (4, .int (jI r)), (5, .int (jI ((30 * sv) + r))), (6, .int (jI (120 + r))), (7, .int (jI sm)), (8, .int (jI k))] → W p l e ({ frames := 2, cells := 0, slots := 0, locals := 53 } : Room) s m av9 below meth c H locs 0 0 Q9 (F0 m 171 ls []) := by
                    intro nn
                    induction nn with
                    | zero => intro sm k H locs ls hm hsm hk hsm1 hsm0 hw hS hl; exfalso; omega
                    | succ nn ih171 =>
                      intro sm k H locs ls hm hsm hk hsm1 hsm0 hw hS hl
                      skip
                      refine lv_iload hx hb dX9_differs_171 (lv_at hl 7 rfl) ?_
                      have lp272 : ∀ (nn : Nat) (k : Int) (H : Heap) (locs : List Loc) (ls : Array Slot), (5 - k) < (nn : Int) → (0 ≤ k ∧ k ≤ 5) → (shM X21 sv r) → (∀ f, 0 ≤ f → f < k → vqM X21 sv r f) → wd D tc base (ad, cnt, X21, Y, ln) H → va_S (frA base) s.heap H locs → lv_has ls 12 [(0, .ref (ad 40 0)), (1, .int (jI sv)), (2, .int (jI x)), (3, .int (jI nz)), (4, .int (jI r)), (5, .int (jI ((30 * sv) + r))), (6, .int (jI (120 + r))), (8, .int (jI k))] → W p l e ({ frames := 2, cells := 0, slots := 0, locals := 53 } : Room) s m av9 below meth c H locs 0 0 Q9 (F0 m 272 ls []) := by
                        intro nn
                        induction nn with
                        | zero => intro k H locs ls hm hk hsh hvk hw hS hl; exfalso; omega
                        | succ nn ih272 =>
                          intro k H locs ls hm hk hsh hvk hw hS hl
                          refine lv_iload hx hb dX9_differs_272 (lv_at hl 7 rfl) ?_
                          refine lv_aload_n hx hb dX9_differs_274 rfl (lv_at hl 0 rfl) ?_
                          refine x_geto hx hb hf9 hw (by first | exact Int.le_refl 0 | omega) (by first | exact zlt hc40 | omega) sl_40_31 lk87 dX9_differs_275 ?_
                          refine lv_iload hx hb dX9_differs_278 (lv_at hl 5 rfl) ?_
                          refine x_iald hx hb hK.1 hw (by first | exact Int.le_refl 0 | omega) (by first | exact zlt hc72 | omega) ar_72 (len_E ar_72 (by first | exact Nat.ne_of_beq_eq_false rfl | decide)) (by omega) (by omega) (by omega) dX9_differs_280 ?_
                          have f34 : 0 ≤ X21 72 0 ((30 * sv) + r) ∧ X21 72 0 ((30 * sv) + r) ≤ 5 := hRX21 72 0 ((30 * sv) + r)
                          refine x_icmp_ge (tgt := 411) hx hb (by omega) (by omega) dX9_differs_281 (by decide) (fun c35 => ?_) (fun c35 => ?_)
                          · refine lv_iinc (v := jI (r + 1)) (lv' := [(4, .int (jI (r + 1))), (0, .ref (ad 40 0)), (1, .int (jI sv)), (2, .int (jI x)), (3, .int (jI nz)), (5, .int (jI ((30 * sv) + r))), (6, .int (jI (120 + r))), (8, .int (jI k))]) hx hb dX9_differs_411 hl (k := 4) rfl (jI_add _ _) (by decide) rfl (fun ls hl => ?_)
                            refine lv_goto (tgt := 74) hx hb dX9_differs_414 (by decide) ?_
                            exact ih74 nz (r + 1) _ _ _ (by omega) (by omega) (by omega) (hnzv) (fun r' a b => if hr9 : r' = r then (by rw [hr9]; exact ⟨hsh, fun f f0 f1 => hvk f f0 (by omega)⟩) else hall r' a (by omega)) hw hS (lv_sub hl [1, 2, 3, 4, 0] rfl)
                          · refine lv_aload_n hx hb dX9_differs_284 rfl (lv_at hl 0 rfl) ?_
                            refine x_geto hx hb hf9 hw (by first | exact Int.le_refl 0 | omega) (by first | exact zlt hc40 | omega) sl_40_34 lk96 dX9_differs_285 ?_
                            refine lv_iconst (v := jI 5) hx hb dX9_differs_288 rfl ?_
                            refine lv_iload hx hb dX9_differs_289 (lv_at hl 5 rfl) ?_
                            refine x_imul hx hb dX9_differs_291 ?_
                            refine lv_iload hx hb dX9_differs_292 (lv_at hl 7 rfl) ?_
                            refine x_iadd hx hb dX9_differs_294 ?_
                            obtain ⟨hv1, hv2, hv3⟩ := (hMIX21.2.2.1 sv r (by omega) (by omega) (by omega) (by omega)).2 k (by omega) (by omega)
                            refine x_lald hx hb hK.1 hw (by first | exact Int.le_refl 0 | omega) (by first | exact zlt hc75 | omega) ar_75 (len_E ar_75 (by first | exact Nat.ne_of_beq_eq_false rfl | decide)) (by omega) (by omega) (by omega) dX9_differs_295 ?_
                            have f36 : (-9223372036854775808) ≤ X21 75 0 ((5 * ((30 * sv) + r)) + k) ∧ X21 75 0 ((5 * ((30 * sv) + r)) + k) ≤ 9223372036854775807 := hRX21 75 0 ((5 * ((30 * sv) + r)) + k)
                            refine lv_lstore (lv' := [(9, .long (jL (X21 75 0 ((5 * ((30 * sv) + r)) + k)))), (0, .ref (ad 40 0)), (1, .int (jI sv)), (2, .int (jI x)), (3, .int (jI nz)), (4, .int (jI r)), (5, .int (jI ((30 * sv) + r))), (6, .int (jI (120 + r))), (8, .int (jI k))]) hx hb dX9_differs_296 hl (by decide) rfl (fun ls hl => ?_)
                            refine lv_lload hx hb dX9_differs_298 (lv_at hl 0 rfl) ?_
                            refine lv_aload_n hx hb dX9_differs_300 rfl (lv_at hl 1 rfl) ?_
                            refine x_geto hx hb hf9 hw (by first | exact Int.le_refl 0 | omega) (by first | exact zlt hc40 | omega) sl_40_34 lk96 dX9_differs_301 ?_
                            refine lv_iconst (v := jI 5) hx hb dX9_differs_304 rfl ?_
                            refine lv_iload hx hb dX9_differs_305 (lv_at hl 7 rfl) ?_
                            refine x_imul hx hb dX9_differs_307 ?_
                            refine lv_iload hx hb dX9_differs_308 (lv_at hl 8 rfl) ?_
                            refine x_iadd hx hb dX9_differs_310 ?_
                            refine x_lald hx hb hK.1 hw (by first | exact Int.le_refl 0 | omega) (by first | exact zlt hc75 | omega) ar_75 (len_E ar_75 (by first | exact Nat.ne_of_beq_eq_false rfl | decide)) (by omega) (by omega) (by omega) dX9_differs_311 ?_
                            have f37 : (-9223372036854775808) ≤ X21 75 0 ((5 * (120 + r)) + k) ∧ X21 75 0 ((5 * (120 + r)) + k) ≤ 9223372036854775807 := hRX21 75 0 ((5 * (120 + r)) + k)
                            refine x_lcmp hx hb (by omega) (by omega) dX9_differs_312 ?_
                            obtain ⟨z38, ez38⟩ : ∃ y : Int, y = cmpZ (X21 75 0 ((5 * ((30 * sv) + r)) + k)) (X21 75 0 ((5 * (120 + r)) + k)) := ⟨_, rfl⟩
                            rw [← ez38]
                            have gz38 : (z38 < 0 ↔ ((X21 75 0 ((5 * ((30 * sv) + r)) + k)) : Int) < (X21 75 0 ((5 * (120 + r)) + k))) ∧ (z38 = 0 ↔ ((X21 75 0 ((5 * ((30 * sv) + r)) + k)) : Int) = (X21 75 0 ((5 * (120 + r)) + k))) ∧ -1 ≤ z38 ∧ z38 ≤ 1 := by rw [ez38]; exact ⟨cmpZ_lt, cmpZ_eq, (cmpZ_r _ _).1, (cmpZ_r _ _).2⟩
                            clear ez38
                            refine x_if_eq (tgt := 320) hx hb (by omega) dX9_differs_313 (by decide) (fun c39 => ?_) (fun c39 => ?_)
                            · replace c39 := cz_eqT gz38 c39
                              clear gz38
                              refine lv_iconst (v := jI 0) hx hb dX9_differs_320 rfl ?_
                              refine lv_istore (lv' := [(11, .int (jI 0)), (9, .long (jL (X21 75 0 ((5 * ((30 * sv) + r)) + k)))), (0, .ref (ad 40 0)), (1, .int (jI sv)), (2, .int (jI x)), (3, .int (jI nz)), (4, .int (jI r)), (5, .int (jI ((30 * sv) + r))), (6, .int (jI (120 + r))), (8, .int (jI k))]) hx hb dX9_differs_321 hl (by decide) rfl (fun ls hl => ?_)
                              refine lv_iload hx hb dX9_differs_323 (lv_at hl 0 rfl) ?_
                              refine x_if_neF (tgt := 374) hx hb (by omega) (by decide) dX9_differs_325 (by decide) ?_
                              refine lv_aload_n hx hb dX9_differs_328 rfl (lv_at hl 2 rfl) ?_
                              refine x_geto hx hb hf9 hw (by first | exact Int.le_refl 0 | omega) (by first | exact zlt hc40 | omega) sl_40_33 lk93 dX9_differs_329 ?_
                              refine lv_iconst (v := jI 5) hx hb dX9_differs_332 rfl ?_
                              refine lv_iload hx hb dX9_differs_333 (lv_at hl 7 rfl) ?_
                              refine x_imul hx hb dX9_differs_335 ?_
                              refine lv_iload hx hb dX9_differs_336 (lv_at hl 9 rfl) ?_
                              refine x_iadd hx hb dX9_differs_338 ?_
                              refine x_iald hx hb hK.1 hw (by first | exact Int.le_refl 0 | omega) (by first | exact zlt hc74 | omega) ar_74 (len_E ar_74 (by first | exact Nat.ne_of_beq_eq_false rfl | decide)) (by omega) (by omega) (by omega) dX9_differs_339 ?_
                              have f40 : 0 ≤ X21 74 0 ((5 * ((30 * sv) + r)) + k) ∧ X21 74 0 ((5 * ((30 * sv) + r)) + k) ≤ 5 := hRX21 74 0 ((5 * ((30 * sv) + r)) + k)
                              refine lv_iconst (v := jI 2) hx hb dX9_differs_340 rfl ?_
                              refine x_icmp_le (tgt := 378) hx hb (by omega) (by omega) dX9_differs_341 (by decide) (fun c41 => ?_) (fun c41 => ?_)
                              · refine lv_iconst (v := jI 0) hx hb dX9_differs_378 rfl ?_
                                refine lv_istore (lv' := [(11, .int (jI 0)), (9, .long (jL (X21 75 0 ((5 * ((30 * sv) + r)) + k)))), (0, .ref (ad 40 0)), (1, .int (jI sv)), (2, .int (jI x)), (3, .int (jI nz)), (4, .int (jI r)), (5, .int (jI ((30 * sv) + r))), (6, .int (jI (120 + r))), (8, .int (jI k))]) hx hb dX9_differs_379 hl (by decide) rfl (fun ls hl => ?_)
                                refine lv_iload hx hb dX9_differs_381 (lv_at hl 0 rfl) ?_
                                refine x_if_eqT (tgt := 405) hx hb (by omega) (by decide) dX9_differs_383 (by decide) ?_
                                refine lv_iinc (v := jI (k + 1)) (lv' := [(8, .int (jI (k + 1))), (11, .int (jI 0)), (9, .long (jL (X21 75 0 ((5 * ((30 * sv) + r)) + k)))), (0, .ref (ad 40 0)), (1, .int (jI sv)), (2, .int (jI x)), (3, .int (jI nz)), (4, .int (jI r)), (5, .int (jI ((30 * sv) + r))), (6, .int (jI (120 + r)))]) hx hb dX9_differs_405 hl (k := 9) rfl (jI_add _ _) (by decide) rfl (fun ls hl => ?_)
                                refine lv_goto (tgt := 272) hx hb dX9_differs_408 (by decide) ?_
                                exact ih272 (k + 1) _ _ _ (by omega) (by omega) (hsh) (fun f a b => if hf9 : f = k then (by rw [hf9]; exact (by (try delta Hid at *); first | exact ⟨by omega, fun a9 b9 => (by exfalso; omega)⟩ | exact ⟨by omega, fun a9 b9 => (by rcases hrdf with ⟨e9, h9⟩ | ⟨e9, h9⟩; exact h9; exfalso; omega)⟩)) else hvk f a (by omega)) hw hS (lv_sub hl [3, 4, 5, 6, 7, 8, 9, 0] rfl)
                              · refine lv_lload hx hb dX9_differs_344 (lv_at hl 1 rfl) ?_
                                refine lv_lconst (v := jL 0) hx hb dX9_differs_346 (by decide) ?_
                                refine x_lcmp hx hb (by omega) (by omega) dX9_differs_347 ?_
                                obtain ⟨z42, ez42⟩ : ∃ y : Int, y = cmpZ (X21 75 0 ((5 * ((30 * sv) + r)) + k)) 0 := ⟨_, rfl⟩
                                rw [← ez42]
                                have gz42 : (z42 < 0 ↔ ((X21 75 0 ((5 * ((30 * sv) + r)) + k)) : Int) < 0) ∧ (z42 = 0 ↔ ((X21 75 0 ((5 * ((30 * sv) + r)) + k)) : Int) = 0) ∧ -1 ≤ z42 ∧ z42 ≤ 1 := by rw [ez42]; exact ⟨cmpZ_lt, cmpZ_eq, (cmpZ_r _ _).1, (cmpZ_r _ _).2⟩
                                clear ez42
                                refine x_if_lt (tgt := 378) hx hb (by omega) dX9_differs_348 (by decide) (fun c43 => ?_) (fun c43 => ?_)
                                · replace c43 := cz_ltT gz42 c43
                                  clear gz42
                                  refine lv_iconst (v := jI 0) hx hb dX9_differs_378 rfl ?_
                                  refine lv_istore (lv' := [(11, .int (jI 0)), (9, .long (jL (X21 75 0 ((5 * ((30 * sv) + r)) + k)))), (0, .ref (ad 40 0)), (1, .int (jI sv)), (2, .int (jI x)), (3, .int (jI nz)), (4, .int (jI r)), (5, .int (jI ((30 * sv) + r))), (6, .int (jI (120 + r))), (8, .int (jI k))]) hx hb dX9_differs_379 hl (by decide) rfl (fun ls hl => ?_)
                                  refine lv_iload hx hb dX9_differs_381 (lv_at hl 0 rfl) ?_
                                  refine x_if_eqT (tgt := 405) hx hb (by omega) (by decide) dX9_differs_383 (by decide) ?_
                                  refine lv_iinc (v := jI (k + 1)) (lv' := [(8, .int (jI (k + 1))), (11, .int (jI 0)), (9, .long (jL (X21 75 0 ((5 * ((30 * sv) + r)) + k)))), (0, .ref (ad 40 0)), (1, .int (jI sv)), (2, .int (jI x)), (3, .int (jI nz)), (4, .int (jI r)), (5, .int (jI ((30 * sv) + r))), (6, .int (jI (120 + r)))]) hx hb dX9_differs_405 hl (k := 9) rfl (jI_add _ _) (by decide) rfl (fun ls hl => ?_)
                                  refine lv_goto (tgt := 272) hx hb dX9_differs_408 (by decide) ?_
                                  exact ih272 (k + 1) _ _ _ (by omega) (by omega) (hsh) (fun f a b => if hf9 : f = k then (by rw [hf9]; exact (by (try delta Hid at *); first | exact ⟨by omega, fun a9 b9 => (by exfalso; omega)⟩ | exact ⟨by omega, fun a9 b9 => (by rcases hrdf with ⟨e9, h9⟩ | ⟨e9, h9⟩; exact h9; exfalso; omega)⟩)) else hvk f a (by omega)) hw hS (lv_sub hl [3, 4, 5, 6, 7, 8, 9, 0] rfl)
                                · replace c43 := cz_ltF gz42 c43
                                  clear gz42
                                  refine lv_aload_n hx hb dX9_differs_351 rfl (lv_at hl 2 rfl) ?_
                                  refine lv_sipush (v := jI 150) hx hb dX9_differs_352 (by decide) ?_
                                  refine lv_iload_n hx hb dX9_differs_355 rfl (lv_at hl 3 rfl) ?_
                                  refine x_imul hx hb dX9_differs_356 ?_
                                  refine lv_lload hx hb dX9_differs_357 (lv_at hl 1 rfl) ?_
                                  refine x_l2i hx hb dX9_differs_359 ?_
                                  refine x_iadd hx hb dX9_differs_360 ?_
                                  refine lv_sipush (v := jI 600) hx hb dX9_differs_361 (by decide) ?_
                                  refine lv_lload hx hb dX9_differs_364 (lv_at hl 1 rfl) ?_
                                  refine x_l2i hx hb dX9_differs_366 ?_
                                  refine x_iadd hx hb dX9_differs_367 ?_
                                  refine gos_i (run_V (As := [.int (jI ((150 * sv) + (X21 75 0 ((5 * ((30 * sv) + r)) + k)))), .int (jI (600 + (X21 75 0 ((5 * ((30 * sv) + r)) + k))))]) (rest := []) hx hb hml hown hts (c_X9_rowsDiffer l D tc base ad cnt X21 Y ln hRX21 hFx hMIX21 ((150 * sv) + (X21 75 0 ((5 * ((30 * sv) + r)) + k))) (600 + (X21 75 0 ((5 * ((30 * sv) + r)) + k))) (by omega) (by omega)) (cwV 2 hts gX9_differs_X9_rowsDiffer rfl rfl rfl (by first | exact hd_X9_rowsDiffer | decide +kernel) ⟨Nat.le_of_ble_eq_true rfl, Nat.le_of_ble_eq_true rfl⟩) hK hw (by first | exact Int.le_refl 0 | omega) (by first | exact zlt hc40 | omega) sl_40_0 rfl rfl hl.1 rfl (Nat.le_of_ble_eq_true rfl) dX9_differs_368 ⟨Nat.le_of_ble_eq_true rfl, Nat.le_of_ble_eq_true rfl⟩) hS (fun z44 u45 H locs p46 hw hS => ?_)
                                  obtain ⟨eu45, p46, hrdf⟩ := p46
                                  subst eu45
                                  refine x_if_eq (tgt := 378) hx hb (by omega) dX9_differs_371 (by decide) (fun c47 => ?_) (fun c47 => ?_)
                                  · refine lv_iconst (v := jI 0) hx hb dX9_differs_378 rfl ?_
                                    refine lv_istore (lv' := [(11, .int (jI 0)), (9, .long (jL (X21 75 0 ((5 * ((30 * sv) + r)) + k)))), (0, .ref (ad 40 0)), (1, .int (jI sv)), (2, .int (jI x)), (3, .int (jI nz)), (4, .int (jI r)), (5, .int (jI ((30 * sv) + r))), (6, .int (jI (120 + r))), (8, .int (jI k))]) hx hb dX9_differs_379 hl (by decide) rfl (fun ls hl => ?_)
                                    refine lv_iload hx hb dX9_differs_381 (lv_at hl 0 rfl) ?_
                                    refine x_if_eqT (tgt := 405) hx hb (by omega) (by decide) dX9_differs_383 (by decide) ?_
                                    refine lv_iinc (v := jI (k + 1)) (lv' := [(8, .int (jI (k + 1))), (11, .int (jI 0)), (9, .long (jL (X21 75 0 ((5 * ((30 * sv) + r)) + k)))), (0, .ref (ad 40 0)), (1, .int (jI sv)), (2, .int (jI x)), (3, .int (jI nz)), (4, .int (jI r)), (5, .int (jI ((30 * sv) + r))), (6, .int (jI (120 + r)))]) hx hb dX9_differs_405 hl (k := 9) rfl (jI_add _ _) (by decide) rfl (fun ls hl => ?_)
                                    refine lv_goto (tgt := 272) hx hb dX9_differs_408 (by decide) ?_
                                    exact ih272 (k + 1) _ _ _ (by omega) (by omega) (hsh) (fun f a b => if hf9 : f = k then (by rw [hf9]; exact (by (try delta Hid at *); first | exact ⟨by omega, fun a9 b9 => (by exfalso; omega)⟩ | exact ⟨by omega, fun a9 b9 => (by rcases hrdf with ⟨e9, h9⟩ | ⟨e9, h9⟩; exact h9; exfalso; omega)⟩)) else hvk f a (by omega)) hw hS (lv_sub hl [3, 4, 5, 6, 7, 8, 9, 0] rfl)
                                  · refine lv_iconst (v := jI 1) hx hb dX9_differs_374 rfl ?_
                                    refine lv_goto (tgt := 379) hx hb dX9_differs_375 (by decide) ?_
                                    refine lv_istore (lv' := [(11, .int (jI 1)), (9, .long (jL (X21 75 0 ((5 * ((30 * sv) + r)) + k)))), (0, .ref (ad 40 0)), (1, .int (jI sv)), (2, .int (jI x)), (3, .int (jI nz)), (4, .int (jI r)), (5, .int (jI ((30 * sv) + r))), (6, .int (jI (120 + r))), (8, .int (jI k))]) hx hb dX9_differs_379 hl (by decide) rfl (fun ls hl => ?_)
                                    refine lv_iload hx hb dX9_differs_381 (lv_at hl 0 rfl) ?_
                                    refine x_if_eqF (tgt := 405) hx hb (by omega) (by decide) dX9_differs_383 (by decide) ?_
                                    refine lv_bipush (v := jI 100) hx hb dX9_differs_386 (by decide) ?_
                                    refine lv_iload hx hb dX9_differs_388 (lv_at hl 6 rfl) ?_
                                    refine x_imul hx hb dX9_differs_390 ?_
                                    refine lv_aload_n hx hb dX9_differs_391 rfl (lv_at hl 2 rfl) ?_
                                    refine x_geto hx hb hf9 hw (by first | exact Int.le_refl 0 | omega) (by first | exact zlt hc40 | omega) sl_40_32 lk90 dX9_differs_392 ?_
                                    refine lv_iconst (v := jI 5) hx hb dX9_differs_395 rfl ?_
                                    refine lv_iload hx hb dX9_differs_396 (lv_at hl 7 rfl) ?_
                                    refine x_imul hx hb dX9_differs_398 ?_
                                    refine lv_iload hx hb dX9_differs_399 (lv_at hl 9 rfl) ?_
                                    refine x_iadd hx hb dX9_differs_401 ?_
                                    refine x_iald hx hb hK.1 hw (by first | exact Int.le_refl 0 | omega) (by first | exact zlt hc73 | omega) ar_73 (len_E ar_73 (by first | exact Nat.ne_of_beq_eq_false rfl | decide)) (by omega) (by omega) (by omega) dX9_differs_402 ?_
                                    have f48 : 0 ≤ X21 73 0 ((5 * ((30 * sv) + r)) + k) ∧ X21 73 0 ((5 * ((30 * sv) + r)) + k) ≤ 19 := hRX21 73 0 ((5 * ((30 * sv) + r)) + k)
                                    refine x_iadd hx hb dX9_differs_403 ?_
                                    rw [hQ9]
                                    refine ret_i (mc := 0) (ms := 0) hx hb hr hlocks hw hS (by first | exact Nat.le_of_ble_eq_true rfl | omega) (by first | exact Nat.le_of_ble_eq_true rfl | omega) dX9_differs_404 ?_
                                    have hrd50 := rdr_eq (L := [4001]) q900029 (by decide)
                                    have hsx51 := hsvX21
                                    rw [hrd50.1, hrd50.2.1, hrd50.2.2, Frm.arr q900029 48 (by decide +kernel) (by decide), Frm.arr q900029 55 (by decide +kernel) (by decide)] at hsx51
                                    exact ⟨X21, rfl, hRX21, hFX21, hMIX21, by omega, S4.tr (S4.frm q900029 (by decide)) h4X21, S5.tr (S5.frm q900029 (by decide)) h5X21, Or.inr ⟨(by (try delta Hid at *); omega), (by rcases hsx51 with ⟨-, q, -⟩ | ⟨-, -, q⟩; exact absurd q (by decide); exact q), Or.inr ⟨r, by omega, by omega, hall, Or.inr ⟨hsh, k, by omega, (show k < X21 72 0 (30 * sv + r) by omega), hvk, (fun q => by (try delta Hid at *); first | (have q1 := q.1; omega) | exact absurd (q.2 (by omega) (by omega)) (by assumption) | (rcases hrdf with ⟨e9, h9⟩ | ⟨e9, h9⟩; omega; exact h9 (q.2 (by omega) (by omega)))), (show _ = 100 * r + X21 73 0 (5 * (30 * sv + r) + k) by omega)⟩⟩⟩⟩
                            · replace c39 := cz_eqF gz38 c39
                              clear gz38
                              refine lv_iconst (v := jI 1) hx hb dX9_differs_316 rfl ?_
                              refine lv_goto (tgt := 321) hx hb dX9_differs_317 (by decide) ?_
                              refine lv_istore (lv' := [(11, .int (jI 1)), (9, .long (jL (X21 75 0 ((5 * ((30 * sv) + r)) + k)))), (0, .ref (ad 40 0)), (1, .int (jI sv)), (2, .int (jI x)), (3, .int (jI nz)), (4, .int (jI r)), (5, .int (jI ((30 * sv) + r))), (6, .int (jI (120 + r))), (8, .int (jI k))]) hx hb dX9_differs_321 hl (by decide) rfl (fun ls hl => ?_)
                              refine lv_iload hx hb dX9_differs_323 (lv_at hl 0 rfl) ?_
                              refine x_if_neT (tgt := 374) hx hb (by omega) (by decide) dX9_differs_325 (by decide) ?_
                              refine lv_iconst (v := jI 1) hx hb dX9_differs_374 rfl ?_
                              refine lv_goto (tgt := 379) hx hb dX9_differs_375 (by decide) ?_
                              refine lv_istore (lv' := [(11, .int (jI 1)), (9, .long (jL (X21 75 0 ((5 * ((30 * sv) + r)) + k)))), (0, .ref (ad 40 0)), (1, .int (jI sv)), (2, .int (jI x)), (3, .int (jI nz)), (4, .int (jI r)), (5, .int (jI ((30 * sv) + r))), (6, .int (jI (120 + r))), (8, .int (jI k))]) hx hb dX9_differs_379 hl (by decide) rfl (fun ls hl => ?_)
                              refine lv_iload hx hb dX9_differs_381 (lv_at hl 0 rfl) ?_
                              refine x_if_eqF (tgt := 405) hx hb (by omega) (by decide) dX9_differs_383 (by decide) ?_
                              refine lv_bipush (v := jI 100) hx hb dX9_differs_386 (by decide) ?_
                              refine lv_iload hx hb dX9_differs_388 (lv_at hl 6 rfl) ?_
                              refine x_imul hx hb dX9_differs_390 ?_
                              refine lv_aload_n hx hb dX9_differs_391 rfl (lv_at hl 2 rfl) ?_
                              refine x_geto hx hb hf9 hw (by first | exact Int.le_refl 0 | omega) (by first | exact zlt hc40 | omega) sl_40_32 lk90 dX9_differs_392 ?_
                              refine lv_iconst (v := jI 5) hx hb dX9_differs_395 rfl ?_
                              refine lv_iload hx hb dX9_differs_396 (lv_at hl 7 rfl) ?_
                              refine x_imul hx hb dX9_differs_398 ?_
                              refine lv_iload hx hb dX9_differs_399 (lv_at hl 9 rfl) ?_
                              refine x_iadd hx hb dX9_differs_401 ?_
                              refine x_iald hx hb hK.1 hw (by first | exact Int.le_refl 0 | omega) (by first | exact zlt hc73 | omega) ar_73 (len_E ar_73 (by first | exact Nat.ne_of_beq_eq_false rfl | decide)) (by omega) (by omega) (by omega) dX9_differs_402 ?_
                              have f52 : 0 ≤ X21 73 0 ((5 * ((30 * sv) + r)) + k) ∧ X21 73 0 ((5 * ((30 * sv) + r)) + k) ≤ 19 := hRX21 73 0 ((5 * ((30 * sv) + r)) + k)
                              refine x_iadd hx hb dX9_differs_403 ?_
                              rw [hQ9]
                              refine ret_i (mc := 0) (ms := 0) hx hb hr hlocks hw hS (by first | exact Nat.le_of_ble_eq_true rfl | omega) (by first | exact Nat.le_of_ble_eq_true rfl | omega) dX9_differs_404 ?_
                              have hrd54 := rdr_eq (L := [4001]) q900029 (by decide)
                              have hsx55 := hsvX21
                              rw [hrd54.1, hrd54.2.1, hrd54.2.2, Frm.arr q900029 48 (by decide +kernel) (by decide), Frm.arr q900029 55 (by decide +kernel) (by decide)] at hsx55
                              exact ⟨X21, rfl, hRX21, hFX21, hMIX21, by omega, S4.tr (S4.frm q900029 (by decide)) h4X21, S5.tr (S5.frm q900029 (by decide)) h5X21, Or.inr ⟨(by (try delta Hid at *); omega), (by rcases hsx55 with ⟨-, q, -⟩ | ⟨-, -, q⟩; exact absurd q (by decide); exact q), Or.inr ⟨r, by omega, by omega, hall, Or.inr ⟨hsh, k, by omega, (show k < X21 72 0 (30 * sv + r) by omega), hvk, (fun q => by (try delta Hid at *); first | (have q1 := q.1; omega) | exact absurd (q.2 (by omega) (by omega)) (by assumption) | (rcases hrdf with ⟨e9, h9⟩ | ⟨e9, h9⟩; omega; exact h9 (q.2 (by omega) (by omega)))), (show _ = 100 * r + X21 73 0 (5 * (30 * sv + r) + k) by omega)⟩⟩⟩⟩
                      refine x_if_eq (tgt := 255) hx hb (by omega) dX9_differs_173 (by decide) (fun c56 => ?_) (fun c56 => ?_)
                      · refine lv_iload hx hb dX9_differs_255 (lv_at hl 7 rfl) ?_
                        refine x_if_ne (tgt := 269) hx hb (by omega) dX9_differs_257 (by decide) (fun c57 => ?_) (fun c57 => ?_)
                        · refine lv_iconst (v := jI 0) hx hb dX9_differs_269 rfl ?_
                          refine lv_istore (lv' := [(8, .int (jI 0)), (0, .ref (ad 40 0)), (1, .int (jI sv)), (2, .int (jI x)), (3, .int (jI nz)), (4, .int (jI r)), (5, .int (jI ((30 * sv) + r))), (6, .int (jI (120 + r))), (7, .int (jI sm))]) hx hb dX9_differs_270 hl (by decide) rfl (fun ls hl => ?_)
                          exact lp272 (5 - 0 : Int).toNat.succ 0 _ _ _ (by omega) (by omega) ((by obtain ⟨q1, q2, q3⟩ := hsm1 (by omega); exact ⟨by omega, by omega, q1, q2, fun j a b => q3 j a (by omega)⟩)) (fun f a b => by omega) hw hS (lv_sub hl [1, 2, 3, 4, 5, 6, 7, 0] rfl)
                        · refine lv_bipush (v := jI 100) hx hb dX9_differs_260 (by decide) ?_
                          refine lv_iload hx hb dX9_differs_262 (lv_at hl 4 rfl) ?_
                          refine x_imul hx hb dX9_differs_264 ?_
                          refine lv_bipush (v := jI 99) hx hb dX9_differs_265 (by decide) ?_
                          refine x_iadd hx hb dX9_differs_267 ?_
                          rw [hQ9]
                          refine ret_i (mc := 0) (ms := 0) hx hb hr hlocks hw hS (by first | exact Nat.le_of_ble_eq_true rfl | omega) (by first | exact Nat.le_of_ble_eq_true rfl | omega) dX9_differs_268 ?_
                          have hrd59 := rdr_eq (L := [4001]) q900029 (by decide)
                          have hsx60 := hsvX21
                          rw [hrd59.1, hrd59.2.1, hrd59.2.2, Frm.arr q900029 48 (by decide +kernel) (by decide), Frm.arr q900029 55 (by decide +kernel) (by decide)] at hsx60
                          exact ⟨X21, rfl, hRX21, hFX21, hMIX21, by omega, S4.tr (S4.frm q900029 (by decide)) h4X21, S5.tr (S5.frm q900029 (by decide)) h5X21, Or.inr ⟨(by (try delta Hid at *); omega), (by rcases hsx60 with ⟨-, q, -⟩ | ⟨-, -, q⟩; exact absurd q (by decide); exact q), Or.inr ⟨r, by omega, by omega, hall, Or.inl ⟨hsm0 (by omega), by omega⟩⟩⟩⟩
                      · refine lv_iload hx hb dX9_differs_176 (lv_at hl 8 rfl) ?_
                        refine lv_aload_n hx hb dX9_differs_178 rfl (lv_at hl 0 rfl) ?_
                        refine x_geto hx hb hf9 hw (by first | exact Int.le_refl 0 | omega) (by first | exact zlt hc40 | omega) sl_40_31 lk87 dX9_differs_179 ?_
                        refine lv_iload hx hb dX9_differs_182 (lv_at hl 5 rfl) ?_
                        refine x_iald hx hb hK.1 hw (by first | exact Int.le_refl 0 | omega) (by first | exact zlt hc72 | omega) ar_72 (len_E ar_72 (by first | exact Nat.ne_of_beq_eq_false rfl | decide)) (by omega) (by omega) (by omega) dX9_differs_184 ?_
                        have f61 : 0 ≤ X21 72 0 ((30 * sv) + r) ∧ X21 72 0 ((30 * sv) + r) ≤ 5 := hRX21 72 0 ((30 * sv) + r)
                        refine x_icmp_ge (tgt := 255) hx hb (by omega) (by omega) dX9_differs_185 (by decide) (fun c62 => ?_) (fun c62 => ?_)
                        · refine lv_iload hx hb dX9_differs_255 (lv_at hl 7 rfl) ?_
                          refine x_if_ne (tgt := 269) hx hb (by omega) dX9_differs_257 (by decide) (fun c63 => ?_) (fun c63 => ?_)
                          · refine lv_iconst (v := jI 0) hx hb dX9_differs_269 rfl ?_
                            refine lv_istore (lv' := [(8, .int (jI 0)), (0, .ref (ad 40 0)), (1, .int (jI sv)), (2, .int (jI x)), (3, .int (jI nz)), (4, .int (jI r)), (5, .int (jI ((30 * sv) + r))), (6, .int (jI (120 + r))), (7, .int (jI sm))]) hx hb dX9_differs_270 hl (by decide) rfl (fun ls hl => ?_)
                            exact lp272 (5 - 0 : Int).toNat.succ 0 _ _ _ (by omega) (by omega) ((by obtain ⟨q1, q2, q3⟩ := hsm1 (by omega); exact ⟨by omega, by omega, q1, q2, fun j a b => q3 j a (by omega)⟩)) (fun f a b => by omega) hw hS (lv_sub hl [1, 2, 3, 4, 5, 6, 7, 0] rfl)
                          · refine lv_bipush (v := jI 100) hx hb dX9_differs_260 (by decide) ?_
                            refine lv_iload hx hb dX9_differs_262 (lv_at hl 4 rfl) ?_
                            refine x_imul hx hb dX9_differs_264 ?_
                            refine lv_bipush (v := jI 99) hx hb dX9_differs_265 (by decide) ?_
                            refine x_iadd hx hb dX9_differs_267 ?_
                            rw [hQ9]
                            refine ret_i (mc := 0) (ms := 0) hx hb hr hlocks hw hS (by first | exact Nat.le_of_ble_eq_true rfl | omega) (by first | exact Nat.le_of_ble_eq_true rfl | omega) dX9_differs_268 ?_
                            have hrd65 := rdr_eq (L := [4001]) q900029 (by decide)
                            have hsx66 := hsvX21
                            rw [hrd65.1, hrd65.2.1, hrd65.2.2, Frm.arr q900029 48 (by decide +kernel) (by decide), Frm.arr q900029 55 (by decide +kernel) (by decide)] at hsx66
                            exact ⟨X21, rfl, hRX21, hFX21, hMIX21, by omega, S4.tr (S4.frm q900029 (by decide)) h4X21, S5.tr (S5.frm q900029 (by decide)) h5X21, Or.inr ⟨(by (try delta Hid at *); omega), (by rcases hsx66 with ⟨-, q, -⟩ | ⟨-, -, q⟩; exact absurd q (by decide); exact q), Or.inr ⟨r, by omega, by omega, hall, Or.inl ⟨hsm0 (by omega), by omega⟩⟩⟩⟩
                        · refine lv_aload_n hx hb dX9_differs_188 rfl (lv_at hl 0 rfl) ?_
                          refine x_geto hx hb hf9 hw (by first | exact Int.le_refl 0 | omega) (by first | exact zlt hc40 | omega) sl_40_32 lk90 dX9_differs_189 ?_
                          refine lv_iconst (v := jI 5) hx hb dX9_differs_192 rfl ?_
                          refine lv_iload hx hb dX9_differs_193 (lv_at hl 5 rfl) ?_
                          refine x_imul hx hb dX9_differs_195 ?_
                          refine lv_iload hx hb dX9_differs_196 (lv_at hl 8 rfl) ?_
                          refine x_iadd hx hb dX9_differs_198 ?_
                          refine x_iald hx hb hK.1 hw (by first | exact Int.le_refl 0 | omega) (by first | exact zlt hc73 | omega) ar_73 (len_E ar_73 (by first | exact Nat.ne_of_beq_eq_false rfl | decide)) (by omega) (by omega) (by omega) dX9_differs_199 ?_
                          have f67 : 0 ≤ X21 73 0 ((5 * ((30 * sv) + r)) + k) ∧ X21 73 0 ((5 * ((30 * sv) + r)) + k) ≤ 19 := hRX21 73 0 ((5 * ((30 * sv) + r)) + k)
                          refine lv_aload_n hx hb dX9_differs_200 rfl (lv_at hl 0 rfl) ?_
                          refine x_geto hx hb hf9 hw (by first | exact Int.le_refl 0 | omega) (by first | exact zlt hc40 | omega) sl_40_32 lk90 dX9_differs_201 ?_
                          refine lv_iconst (v := jI 5) hx hb dX9_differs_204 rfl ?_
                          refine lv_iload hx hb dX9_differs_205 (lv_at hl 6 rfl) ?_
                          refine x_imul hx hb dX9_differs_207 ?_
                          refine lv_iload hx hb dX9_differs_208 (lv_at hl 8 rfl) ?_
                          refine x_iadd hx hb dX9_differs_210 ?_
                          refine x_iald hx hb hK.1 hw (by first | exact Int.le_refl 0 | omega) (by first | exact zlt hc73 | omega) ar_73 (len_E ar_73 (by first | exact Nat.ne_of_beq_eq_false rfl | decide)) (by omega) (by omega) (by omega) dX9_differs_211 ?_
                          have f68 : 0 ≤ X21 73 0 ((5 * (120 + r)) + k) ∧ X21 73 0 ((5 * (120 + r)) + k) ≤ 19 := hRX21 73 0 ((5 * (120 + r)) + k)
                          refine x_icmp_ne (tgt := 246) hx hb (by omega) (by omega) dX9_differs_212 (by decide) (fun c69 => ?_) (fun c69 => ?_)
                          · refine lv_iconst (v := jI 0) hx hb dX9_differs_246 rfl ?_
                            refine lv_istore (lv' := [(7, .int (jI 0)), (0, .ref (ad 40 0)), (1, .int (jI sv)), (2, .int (jI x)), (3, .int (jI nz)), (4, .int (jI r)), (5, .int (jI ((30 * sv) + r))), (6, .int (jI (120 + r))), (8, .int (jI k))]) hx hb dX9_differs_247 hl (by decide) rfl (fun ls hl => ?_)
                            refine lv_iinc (v := jI (k + 1)) (lv' := [(8, .int (jI (k + 1))), (7, .int (jI 0)), (0, .ref (ad 40 0)), (1, .int (jI sv)), (2, .int (jI x)), (3, .int (jI nz)), (4, .int (jI r)), (5, .int (jI ((30 * sv) + r))), (6, .int (jI (120 + r)))]) hx hb dX9_differs_249 hl (k := 8) rfl (jI_add _ _) (by decide) rfl (fun ls hl => ?_)
                            refine lv_goto (tgt := 171) hx hb dX9_differs_252 (by decide) ?_
                            exact ih171 0 (k + 1) _ _ _ (by omega) (by omega) (by omega) (fun q => (by obtain ⟨q1, q2, q3⟩ := hsm1 (by omega); exact ⟨q1, q2, fun j a b => if hj : j = k then (by rw [hj]; exact ⟨by omega, by omega⟩) else q3 j a (by omega)⟩)) (fun q e => (by have h9 := e.2.2.2.2 k (by omega) (by omega); omega)) hw hS (lv_sub hl [2, 3, 4, 5, 6, 7, 8, 1, 0] rfl)
                          · refine lv_aload_n hx hb dX9_differs_215 rfl (lv_at hl 0 rfl) ?_
                            refine x_geto hx hb hf9 hw (by first | exact Int.le_refl 0 | omega) (by first | exact zlt hc40 | omega) sl_40_33 lk93 dX9_differs_216 ?_
                            refine lv_iconst (v := jI 5) hx hb dX9_differs_219 rfl ?_
                            refine lv_iload hx hb dX9_differs_220 (lv_at hl 5 rfl) ?_
                            refine x_imul hx hb dX9_differs_222 ?_
                            refine lv_iload hx hb dX9_differs_223 (lv_at hl 8 rfl) ?_
                            refine x_iadd hx hb dX9_differs_225 ?_
                            refine x_iald hx hb hK.1 hw (by first | exact Int.le_refl 0 | omega) (by first | exact zlt hc74 | omega) ar_74 (len_E ar_74 (by first | exact Nat.ne_of_beq_eq_false rfl | decide)) (by omega) (by omega) (by omega) dX9_differs_226 ?_
                            have f70 : 0 ≤ X21 74 0 ((5 * ((30 * sv) + r)) + k) ∧ X21 74 0 ((5 * ((30 * sv) + r)) + k) ≤ 5 := hRX21 74 0 ((5 * ((30 * sv) + r)) + k)
                            refine lv_aload_n hx hb dX9_differs_227 rfl (lv_at hl 0 rfl) ?_
                            refine x_geto hx hb hf9 hw (by first | exact Int.le_refl 0 | omega) (by first | exact zlt hc40 | omega) sl_40_33 lk93 dX9_differs_228 ?_
                            refine lv_iconst (v := jI 5) hx hb dX9_differs_231 rfl ?_
                            refine lv_iload hx hb dX9_differs_232 (lv_at hl 6 rfl) ?_
                            refine x_imul hx hb dX9_differs_234 ?_
                            refine lv_iload hx hb dX9_differs_235 (lv_at hl 8 rfl) ?_
                            refine x_iadd hx hb dX9_differs_237 ?_
                            refine x_iald hx hb hK.1 hw (by first | exact Int.le_refl 0 | omega) (by first | exact zlt hc74 | omega) ar_74 (len_E ar_74 (by first | exact Nat.ne_of_beq_eq_false rfl | decide)) (by omega) (by omega) (by omega) dX9_differs_238 ?_
                            have f71 : 0 ≤ X21 74 0 ((5 * (120 + r)) + k) ∧ X21 74 0 ((5 * (120 + r)) + k) ≤ 5 := hRX21 74 0 ((5 * (120 + r)) + k)
                            refine x_icmp_ne (tgt := 246) hx hb (by omega) (by omega) dX9_differs_239 (by decide) (fun c72 => ?_) (fun c72 => ?_)
                            · refine lv_iconst (v := jI 0) hx hb dX9_differs_246 rfl ?_
                              refine lv_istore (lv' := [(7, .int (jI 0)), (0, .ref (ad 40 0)), (1, .int (jI sv)), (2, .int (jI x)), (3, .int (jI nz)), (4, .int (jI r)), (5, .int (jI ((30 * sv) + r))), (6, .int (jI (120 + r))), (8, .int (jI k))]) hx hb dX9_differs_247 hl (by decide) rfl (fun ls hl => ?_)
                              refine lv_iinc (v := jI (k + 1)) (lv' := [(8, .int (jI (k + 1))), (7, .int (jI 0)), (0, .ref (ad 40 0)), (1, .int (jI sv)), (2, .int (jI x)), (3, .int (jI nz)), (4, .int (jI r)), (5, .int (jI ((30 * sv) + r))), (6, .int (jI (120 + r)))]) hx hb dX9_differs_249 hl (k := 8) rfl (jI_add _ _) (by decide) rfl (fun ls hl => ?_)
                              refine lv_goto (tgt := 171) hx hb dX9_differs_252 (by decide) ?_
                              exact ih171 0 (k + 1) _ _ _ (by omega) (by omega) (by omega) (fun q => (by obtain ⟨q1, q2, q3⟩ := hsm1 (by omega); exact ⟨q1, q2, fun j a b => if hj : j = k then (by rw [hj]; exact ⟨by omega, by omega⟩) else q3 j a (by omega)⟩)) (fun q e => (by have h9 := e.2.2.2.2 k (by omega) (by omega); omega)) hw hS (lv_sub hl [2, 3, 4, 5, 6, 7, 8, 1, 0] rfl)
                            · refine lv_iconst (v := jI 1) hx hb dX9_differs_242 rfl ?_
                              refine lv_goto (tgt := 247) hx hb dX9_differs_243 (by decide) ?_
                              refine lv_istore (lv' := [(7, .int (jI 1)), (0, .ref (ad 40 0)), (1, .int (jI sv)), (2, .int (jI x)), (3, .int (jI nz)), (4, .int (jI r)), (5, .int (jI ((30 * sv) + r))), (6, .int (jI (120 + r))), (8, .int (jI k))]) hx hb dX9_differs_247 hl (by decide) rfl (fun ls hl => ?_)
                              refine lv_iinc (v := jI (k + 1)) (lv' := [(8, .int (jI (k + 1))), (7, .int (jI 1)), (0, .ref (ad 40 0)), (1, .int (jI sv)), (2, .int (jI x)), (3, .int (jI nz)), (4, .int (jI r)), (5, .int (jI ((30 * sv) + r))), (6, .int (jI (120 + r)))]) hx hb dX9_differs_249 hl (k := 8) rfl (jI_add _ _) (by decide) rfl (fun ls hl => ?_)
                              refine lv_goto (tgt := 171) hx hb dX9_differs_252 (by decide) ?_
                              exact ih171 1 (k + 1) _ _ _ (by omega) (by omega) (by omega) (fun q => (by obtain ⟨q1, q2, q3⟩ := hsm1 (by omega); exact ⟨q1, q2, fun j a b => if hj : j = k then (by rw [hj]; exact ⟨by omega, by omega⟩) else q3 j a (by omega)⟩)) (fun q e => (by have h9 := e.2.2.2.2 k (by omega) (by omega); omega)) hw hS (lv_sub hl [2, 3, 4, 5, 6, 7, 8, 1, 0] rfl)
                  refine lv_aload_n hx hb dX9_differs_127 rfl (lv_at hl 2 rfl) ?_
                  refine x_geto hx hb hf9 hw (by first | exact Int.le_refl 0 | omega) (by first | exact zlt hc40 | omega) sl_40_30 lk84 dX9_differs_128 ?_
                  refine lv_iload hx hb dX9_differs_131 (lv_at hl 1 rfl) ?_
                  refine x_iald hx hb hK.1 hw (by first | exact Int.le_refl 0 | omega) (by first | exact zlt hc71 | omega) ar_71 (len_E ar_71 (by first | exact Nat.ne_of_beq_eq_false rfl | decide)) (by omega) (by omega) (by omega) dX9_differs_133 ?_
                  have f73 : 0 ≤ X21 71 0 ((30 * sv) + r) ∧ X21 71 0 ((30 * sv) + r) ≤ 7 := hRX21 71 0 ((30 * sv) + r)
                  refine lv_aload_n hx hb dX9_differs_134 rfl (lv_at hl 2 rfl) ?_
                  refine x_geto hx hb hf9 hw (by first | exact Int.le_refl 0 | omega) (by first | exact zlt hc40 | omega) sl_40_30 lk84 dX9_differs_135 ?_
                  refine lv_iload hx hb dX9_differs_138 (lv_at hl 0 rfl) ?_
                  refine x_iald hx hb hK.1 hw (by first | exact Int.le_refl 0 | omega) (by first | exact zlt hc71 | omega) ar_71 (len_E ar_71 (by first | exact Nat.ne_of_beq_eq_false rfl | decide)) (by omega) (by omega) (by omega) dX9_differs_140 ?_
                  have f74 : 0 ≤ X21 71 0 (120 + r) ∧ X21 71 0 (120 + r) ≤ 7 := hRX21 71 0 (120 + r)
                  refine x_icmp_ne (tgt := 165) hx hb (by omega) (by omega) dX9_differs_141 (by decide) (fun c75 => ?_) (fun c75 => ?_)
                  · refine lv_iconst (v := jI 0) hx hb dX9_differs_165 rfl ?_
                    refine lv_istore (lv' := [(7, .int (jI 0)), (6, .int (jI (120 + r))), (5, .int (jI ((30 * sv) + r))), (0, .ref (ad 40 0)), (1, .int (jI sv)), (2, .int (jI x)), (3, .int (jI nz)), (4, .int (jI r))]) hx hb dX9_differs_166 hl (by decide) rfl (fun ls hl => ?_)
                    refine lv_iconst (v := jI 0) hx hb dX9_differs_168 rfl ?_
                    refine lv_istore (lv' := [(8, .int (jI 0)), (7, .int (jI 0)), (6, .int (jI (120 + r))), (5, .int (jI ((30 * sv) + r))), (0, .ref (ad 40 0)), (1, .int (jI sv)), (2, .int (jI x)), (3, .int (jI nz)), (4, .int (jI r))]) hx hb dX9_differs_169 hl (by decide) rfl (fun ls hl => ?_)
                    exact lp171 (5 - 0 : Int).toNat.succ 0 0 _ _ _ (by omega) (by omega) (by omega) (fun q => ⟨by omega, by omega, fun j a b => by omega⟩) (fun q e => by obtain ⟨q1, q2, q3, q4, -⟩ := e; omega) hw hS (lv_sub hl [4, 5, 6, 7, 8, 3, 2, 1, 0] rfl)
                  · refine lv_aload_n hx hb dX9_differs_144 rfl (lv_at hl 2 rfl) ?_
                    refine x_geto hx hb hf9 hw (by first | exact Int.le_refl 0 | omega) (by first | exact zlt hc40 | omega) sl_40_31 lk87 dX9_differs_145 ?_
                    refine lv_iload hx hb dX9_differs_148 (lv_at hl 1 rfl) ?_
                    refine x_iald hx hb hK.1 hw (by first | exact Int.le_refl 0 | omega) (by first | exact zlt hc72 | omega) ar_72 (len_E ar_72 (by first | exact Nat.ne_of_beq_eq_false rfl | decide)) (by omega) (by omega) (by omega) dX9_differs_150 ?_
                    have f76 : 0 ≤ X21 72 0 ((30 * sv) + r) ∧ X21 72 0 ((30 * sv) + r) ≤ 5 := hRX21 72 0 ((30 * sv) + r)
                    refine lv_aload_n hx hb dX9_differs_151 rfl (lv_at hl 2 rfl) ?_
                    refine x_geto hx hb hf9 hw (by first | exact Int.le_refl 0 | omega) (by first | exact zlt hc40 | omega) sl_40_31 lk87 dX9_differs_152 ?_
                    refine lv_iload hx hb dX9_differs_155 (lv_at hl 0 rfl) ?_
                    refine x_iald hx hb hK.1 hw (by first | exact Int.le_refl 0 | omega) (by first | exact zlt hc72 | omega) ar_72 (len_E ar_72 (by first | exact Nat.ne_of_beq_eq_false rfl | decide)) (by omega) (by omega) (by omega) dX9_differs_157 ?_
                    have f77 : 0 ≤ X21 72 0 (120 + r) ∧ X21 72 0 (120 + r) ≤ 5 := hRX21 72 0 (120 + r)
                    refine x_icmp_ne (tgt := 165) hx hb (by omega) (by omega) dX9_differs_158 (by decide) (fun c78 => ?_) (fun c78 => ?_)
                    · refine lv_iconst (v := jI 0) hx hb dX9_differs_165 rfl ?_
                      refine lv_istore (lv' := [(7, .int (jI 0)), (6, .int (jI (120 + r))), (5, .int (jI ((30 * sv) + r))), (0, .ref (ad 40 0)), (1, .int (jI sv)), (2, .int (jI x)), (3, .int (jI nz)), (4, .int (jI r))]) hx hb dX9_differs_166 hl (by decide) rfl (fun ls hl => ?_)
                      refine lv_iconst (v := jI 0) hx hb dX9_differs_168 rfl ?_
                      refine lv_istore (lv' := [(8, .int (jI 0)), (7, .int (jI 0)), (6, .int (jI (120 + r))), (5, .int (jI ((30 * sv) + r))), (0, .ref (ad 40 0)), (1, .int (jI sv)), (2, .int (jI x)), (3, .int (jI nz)), (4, .int (jI r))]) hx hb dX9_differs_169 hl (by decide) rfl (fun ls hl => ?_)
                      exact lp171 (5 - 0 : Int).toNat.succ 0 0 _ _ _ (by omega) (by omega) (by omega) (fun q => ⟨by omega, by omega, fun j a b => by omega⟩) (fun q e => by obtain ⟨q1, q2, q3, q4, -⟩ := e; omega) hw hS (lv_sub hl [4, 5, 6, 7, 8, 3, 2, 1, 0] rfl)
                    · refine lv_iconst (v := jI 1) hx hb dX9_differs_161 rfl ?_
                      refine lv_goto (tgt := 166) hx hb dX9_differs_162 (by decide) ?_
                      refine lv_istore (lv' := [(7, .int (jI 1)), (6, .int (jI (120 + r))), (5, .int (jI ((30 * sv) + r))), (0, .ref (ad 40 0)), (1, .int (jI sv)), (2, .int (jI x)), (3, .int (jI nz)), (4, .int (jI r))]) hx hb dX9_differs_166 hl (by decide) rfl (fun ls hl => ?_)
                      refine lv_iconst (v := jI 0) hx hb dX9_differs_168 rfl ?_
                      refine lv_istore (lv' := [(8, .int (jI 0)), (7, .int (jI 1)), (6, .int (jI (120 + r))), (5, .int (jI ((30 * sv) + r))), (0, .ref (ad 40 0)), (1, .int (jI sv)), (2, .int (jI x)), (3, .int (jI nz)), (4, .int (jI r))]) hx hb dX9_differs_169 hl (by decide) rfl (fun ls hl => ?_)
                      exact lp171 (5 - 0 : Int).toNat.succ 1 0 _ _ _ (by omega) (by omega) (by omega) (fun q => ⟨by omega, by omega, fun j a b => by omega⟩) (fun q e => by obtain ⟨q1, q2, q3, q4, -⟩ := e; omega) hw hS (lv_sub hl [4, 5, 6, 7, 8, 3, 2, 1, 0] rfl)
                · refine lv_bipush (v := jI 100) hx hb dX9_differs_102 (by decide) ?_
                  refine lv_iload hx hb dX9_differs_104 (lv_at hl 4 rfl) ?_
                  refine x_imul hx hb dX9_differs_106 ?_
                  refine lv_bipush (v := jI 99) hx hb dX9_differs_107 (by decide) ?_
                  refine x_iadd hx hb dX9_differs_109 ?_
                  rw [hQ9]
                  refine ret_i (mc := 0) (ms := 0) hx hb hr hlocks hw hS (by first | exact Nat.le_of_ble_eq_true rfl | omega) (by first | exact Nat.le_of_ble_eq_true rfl | omega) dX9_differs_110 ?_
                  have hrd80 := rdr_eq (L := [4001]) q900029 (by decide)
                  have hsx81 := hsvX21
                  rw [hrd80.1, hrd80.2.1, hrd80.2.2, Frm.arr q900029 48 (by decide +kernel) (by decide), Frm.arr q900029 55 (by decide +kernel) (by decide)] at hsx81
                  exact ⟨X21, rfl, hRX21, hFX21, hMIX21, by omega, S4.tr (S4.frm q900029 (by decide)) h4X21, S5.tr (S5.frm q900029 (by decide)) h5X21, Or.inr ⟨(by (try delta Hid at *); omega), (by rcases hsx81 with ⟨-, q, -⟩ | ⟨-, -, q⟩; exact absurd q (by decide); exact q), Or.inr ⟨r, by omega, by omega, hall, Or.inl ⟨(fun q => by have q1 := q.1; have q2 := q.2.1; omega), by omega⟩⟩⟩⟩
        refine lv_aload_n hx hb dX9_differs_40 rfl (lv_at hl 0 rfl) ?_
        refine x_geto hx hb hf9 hw (by first | exact Int.le_refl 0 | omega) (by first | exact zlt hc40 | omega) sl_40_29 lk81 dX9_differs_41 ?_
        refine lv_iload_n hx hb dX9_differs_44 rfl (lv_at hl 1 rfl) ?_
        refine x_iald hx hb hK.1 hw (by first | exact Int.le_refl 0 | omega) (by first | exact zlt hc70 | omega) ar_70 (len_E ar_70 (by first | exact Nat.ne_of_beq_eq_false rfl | decide)) (by omega) (by omega) (by omega) dX9_differs_45 ?_
        have f82 : 0 ≤ X21 70 0 sv ∧ X21 70 0 sv ≤ 30 := hRX21 70 0 sv
        refine lv_aload_n hx hb dX9_differs_46 rfl (lv_at hl 0 rfl) ?_
        refine x_geto hx hb hf9 hw (by first | exact Int.le_refl 0 | omega) (by first | exact zlt hc40 | omega) sl_40_29 lk81 dX9_differs_47 ?_
        refine lv_iconst (v := jI 4) hx hb dX9_differs_50 rfl ?_
        refine x_iald hx hb hK.1 hw (by first | exact Int.le_refl 0 | omega) (by first | exact zlt hc70 | omega) ar_70 (len_E ar_70 (by first | exact Nat.ne_of_beq_eq_false rfl | decide)) (by omega) (by omega) (by omega) dX9_differs_51 ?_
        have f83 : 0 ≤ X21 70 0 4 ∧ X21 70 0 4 ≤ 30 := hRX21 70 0 4
        refine x_icmp_le (tgt := 64) hx hb (by omega) (by omega) dX9_differs_52 (by decide) (fun c84 => ?_) (fun c84 => ?_)
        · refine lv_aload_n hx hb dX9_differs_64 rfl (lv_at hl 0 rfl) ?_
          refine x_geto hx hb hf9 hw (by first | exact Int.le_refl 0 | omega) (by first | exact zlt hc40 | omega) sl_40_29 lk81 dX9_differs_65 ?_
          refine lv_iconst (v := jI 4) hx hb dX9_differs_68 rfl ?_
          refine x_iald hx hb hK.1 hw (by first | exact Int.le_refl 0 | omega) (by first | exact zlt hc70 | omega) ar_70 (len_E ar_70 (by first | exact Nat.ne_of_beq_eq_false rfl | decide)) (by omega) (by omega) (by omega) dX9_differs_69 ?_
          have f85 : 0 ≤ X21 70 0 4 ∧ X21 70 0 4 ≤ 30 := hRX21 70 0 4
          refine lv_istore_n (lv' := [(3, .int (jI (X21 70 0 4))), (0, .ref (ad 40 0)), (1, .int (jI sv)), (2, .int (jI x))]) hx hb dX9_differs_70 rfl hl (by decide) rfl (fun ls hl => ?_)
          refine lv_iconst (v := jI 0) hx hb dX9_differs_71 rfl ?_
          refine lv_istore (lv' := [(4, .int (jI 0)), (3, .int (jI (X21 70 0 4))), (0, .ref (ad 40 0)), (1, .int (jI sv)), (2, .int (jI x))]) hx hb dX9_differs_72 hl (by decide) rfl (fun ls hl => ?_)
          exact lp74 (30 - 0 : Int).toNat.succ (X21 70 0 4) 0 _ _ _ (by omega) (by omega) (by omega) (by unfold mxM; split <;> omega) (fun r' a b => by omega) hw hS (lv_sub hl [2, 3, 4, 1, 0] rfl)
        · refine lv_aload_n hx hb dX9_differs_55 rfl (lv_at hl 0 rfl) ?_
          refine x_geto hx hb hf9 hw (by first | exact Int.le_refl 0 | omega) (by first | exact zlt hc40 | omega) sl_40_29 lk81 dX9_differs_56 ?_
          refine lv_iload_n hx hb dX9_differs_59 rfl (lv_at hl 1 rfl) ?_
          refine x_iald hx hb hK.1 hw (by first | exact Int.le_refl 0 | omega) (by first | exact zlt hc70 | omega) ar_70 (len_E ar_70 (by first | exact Nat.ne_of_beq_eq_false rfl | decide)) (by omega) (by omega) (by omega) dX9_differs_60 ?_
          have f86 : 0 ≤ X21 70 0 sv ∧ X21 70 0 sv ≤ 30 := hRX21 70 0 sv
          refine lv_goto (tgt := 70) hx hb dX9_differs_61 (by decide) ?_
          refine lv_istore_n (lv' := [(3, .int (jI (X21 70 0 sv))), (0, .ref (ad 40 0)), (1, .int (jI sv)), (2, .int (jI x))]) hx hb dX9_differs_70 rfl hl (by decide) rfl (fun ls hl => ?_)
          refine lv_iconst (v := jI 0) hx hb dX9_differs_71 rfl ?_
          refine lv_istore (lv' := [(4, .int (jI 0)), (3, .int (jI (X21 70 0 sv))), (0, .ref (ad 40 0)), (1, .int (jI sv)), (2, .int (jI x))]) hx hb dX9_differs_72 hl (by decide) rfl (fun ls hl => ?_)
          exact lp74 (30 - 0 : Int).toNat.succ (X21 70 0 sv) 0 _ _ _ (by omega) (by omega) (by omega) (by unfold mxM; split <;> omega) (fun r' a b => by omega) hw hS (lv_sub hl [2, 3, 4, 1, 0] rfl)
      · subst ez11
        refine x_if_neF (tgt := 33) hx hb (by omega) (by decide) dX9_differs_27 (by decide) ?_
        refine lv_bipush (v := jI (-2)) hx hb dX9_differs_30 (by decide) ?_
        rw [hQ9]
        refine ret_i (mc := 0) (ms := 0) hx hb hr hlocks hw hS (by first | exact Nat.le_of_ble_eq_true rfl | omega) (by first | exact Nat.le_of_ble_eq_true rfl | omega) dX9_differs_32 ?_
        have hMq87 : MInv X1 := minv_frm hMI q900029 (by decide)
        exact ⟨X1, rfl, hRX1, hFX1, hMq87, by omega, S4.frm q900029 (by decide), S5.frm q900029 (by decide), Or.inl ⟨(fun q => by (try delta Hid at *); omega), by omega⟩⟩
  · subst ez2
    refine x_if_eqT (tgt := 30) hx hb (by omega) (by decide) dX9_differs_10 (by decide) ?_
    refine lv_bipush (v := jI (-2)) hx hb dX9_differs_30 (by decide) ?_
    rw [hQ9]
    refine ret_i (mc := 0) (ms := 0) hx hb hr hlocks hw hS (by first | exact Nat.le_of_ble_eq_true rfl | omega) (by first | exact Nat.le_of_ble_eq_true rfl | omega) dX9_differs_32 ?_
    have hMq90 : MInv X1 := minv_frm hMI q900029 (by decide)
    exact ⟨X1, rfl, hRX1, hFX1, hMq90, by omega, S4.frm q900029 (by decide), S5.frm q900029 (by decide), Or.inl ⟨(fun q => by (try delta Hid at *); omega), by omega⟩⟩
end
section
/-! what holds of the class between calls: printed by wip/tools/cinv.py -/
def LnOK (ln : Int → Int) : Prop := ∀ i, 0 ≤ ln i ∧ ln i ≤ 12
def cTh (Y : Nat → Int → Int → Option Int) : Prop := ∀ x, 0 ≤ x → x < 30 → Y 2 0 x = some x
def cNt (Y : Nat → Int → Int → Option Int) : Prop := ∀ n, 0 ≤ n → n < 80 → Y 30 0 n = some n
def cSv (Y : Nat → Int → Int → Option Int) : Prop := (∀ q, 0 ≤ q → q < 4 → Y 4 0 q ≠ none) ∧ Y 0 0 6 ≠ none ∧ Y 0 0 7 ≠ none
def cTy (cnt : Nat → Int) (X : Nat → Int → Int → Int) (Y : Nat → Int → Int → Option Int) : Prop := cnt 19 = X 0 0 1 ∧ ∀ t, 0 ≤ t → t < X 0 0 1 → Y 1 0 t = some t ∧ X 19 t 0 = t
def cTt (X : Nat → Int → Int → Int) (Y : Nat → Int → Int → Option Int) : Prop := ∀ x, 0 ≤ x → x < X 0 0 3 → Y 15 x 0 ≠ none
def cCk (X : Nat → Int → Int → Int) (Y : Nat → Int → Int → Option Int) : Prop := ∀ q j, 0 ≤ q → q < X 0 0 1 → 0 ≤ j → j < X 19 q 6 → Y 24 q j ≠ none
def cRc (X : Nat → Int → Int → Int) : Prop := ∀ q r, 0 ≤ q → q < 6 → 0 ≤ r → r < X 7 q 0 → X 8 q r < X 0 0 1
def cNo (X : Nat → Int → Int → Int) (Y : Nat → Int → Int → Option Int) (ln : Int → Int) : Prop := ∀ n, 0 ≤ n → n < 80 → (Y 28 n 0 ≠ none → X 28 n 1 ≤ 4) ∧ (Y 28 n 0 = none → ∀ w, Y 28 n 3 = some w → X 28 n 1 < ln w)
def CInv (cnt : Nat → Int) (X : Nat → Int → Int → Int) (Y : Nat → Int → Int → Option Int) (ln : Int → Int) : Prop := cTh Y ∧ cNt Y ∧ cSv Y ∧ cTy cnt X Y ∧ cTt X Y ∧ cCk X Y ∧ cRc X ∧ cNo X Y ln
theorem cinv_frm {M N : List Nat} {cnt : Nat → Int} {X X1 : Nat → Int → Int → Int} {Y Y1 : Nat → Int → Int → Option Int} {ln : Int → Int} (h : CInv cnt X Y ln) (hF : Frm M X X1) (hH : Frm N Y Y1) (hd : ∀ c ∈ [2, 4, 1901, 1907, 701, 800, 2802], c ∉ M) (he : ∀ c ∈ [200, 3000, 400, 7, 8, 100, 1501, 2400, 2801, 2804], c ∉ N) : CInv cnt X1 Y1 ln := by
  have a1 : X1 0 0 1 = X 0 0 1 := hF 0 0 1 (hd 2 (by decide))
  have a2 : X1 0 0 3 = X 0 0 3 := hF 0 0 3 (hd 4 (by decide))
  have a3 : ∀ i, X1 19 i 6 = X 19 i 6 := fun i => hF 19 i 6 (hd 1907 (by decide))
  have a3b : ∀ i, X1 19 i 0 = X 19 i 0 := fun i => hF 19 i 0 (hd 1901 (by decide))
  have a4 : ∀ i, X1 7 i 0 = X 7 i 0 := fun i => hF 7 i 0 (hd 701 (by decide))
  have a5 : ∀ i j, X1 8 i j = X 8 i j := fun i j => hF 8 i j (hd 800 (by decide))
  have a10 : ∀ i, X1 28 i 1 = X 28 i 1 := fun i => hF 28 i 1 (hd 2802 (by decide))
  have b1 : ∀ j, Y1 2 0 j = Y 2 0 j := fun j => hH 2 0 j (he 200 (by decide))
  have b2 : ∀ j, Y1 30 0 j = Y 30 0 j := fun j => hH 30 0 j (he 3000 (by decide))
  have b3 : ∀ j, Y1 4 0 j = Y 4 0 j := fun j => hH 4 0 j (he 400 (by decide))
  have b4 : Y1 0 0 6 = Y 0 0 6 := hH 0 0 6 (he 7 (by decide))
  have b5 : Y1 0 0 7 = Y 0 0 7 := hH 0 0 7 (he 8 (by decide))
  have b6 : ∀ j, Y1 1 0 j = Y 1 0 j := fun j => hH 1 0 j (he 100 (by decide))
  have b7 : ∀ i, Y1 15 i 0 = Y 15 i 0 := fun i => hH 15 i 0 (he 1501 (by decide))
  have b8 : ∀ i j, Y1 24 i j = Y 24 i j := fun i j => hH 24 i j (he 2400 (by decide))
  have b9 : ∀ i, Y1 28 i 0 = Y 28 i 0 := fun i => hH 28 i 0 (he 2801 (by decide))
  have b10 : ∀ i, Y1 28 i 3 = Y 28 i 3 := fun i => hH 28 i 3 (he 2804 (by decide))
  unfold CInv cTh cNt cSv cTy cTt cCk cRc cNo at *
  simp only [a1, a2, a3, a3b, a4, a5, a10, b1, b2, b3, b4, b5, b6, b7, b8, b9, b10]
  exact h
/-! what the records keep of things and rows -/
def cRv (X : Nat → Int → Int → Int) : Prop := ∀ q j, 0 ≤ q → q < 6 → 0 ≤ j → j < 150 → 2 ≤ X 11 q j → -1 ≤ X 12 q j ∧ X 12 q j ≤ 149
def cRx (X : Nat → Int → Int → Int) (g e : Int) : Prop := ∀ q j, 0 ≤ q → q < 6 → 0 ≤ j → j < 150 → ¬ (q = g ∧ j = e) → 2 ≤ X 11 q j → -1 ≤ X 12 q j ∧ X 12 q j ≤ 149
section CV
variable {M N : List Nat} {cnt cnt1 : Nat → Int} {X X1 : Nat → Int → Int → Int} {Y Y1 : Nat → Int → Int → Option Int} {ln : Int → Int}
theorem cRv.frm (h : cRv X) (hF : Frm M X X1) (hd : ∀ c ∈ [1100, 1200], c ∉ M) : cRv X1 := fun q j a b c d => by
  rw [hF 11 q j (hd 1100 (by decide)), hF 12 q j (hd 1200 (by decide))]; exact h q j a b c d
theorem cRx.frm {g e : Int} (h : cRx X g e) (hF : Frm M X X1) (hd : ∀ c ∈ [1100, 1200], c ∉ M) : cRx X1 g e := fun q j a b c d => by
  rw [hF 11 q j (hd 1100 (by decide)), hF 12 q j (hd 1200 (by decide))]; exact h q j a b c d
theorem u3_ij {α : Type} {Z : Nat → Int → Int → α} {k : Nat} {i j i1 j1 : Int} {v : α} (h : ¬ (i1 = i ∧ j1 = j)) : u3 Z k i j v k i1 j1 = Z k i1 j1 := by
  simp only [u3]
  rw [if_neg (fun q => h q.2)]
theorem cRv.lane {g e v : Int} (h : cRv X) : cRx (u3 X 11 g e v) g e := fun q j a b c d hn => by
  rw [u3_ij hn, u3_k _ _ _ _ (by first | exact Nat.ne_of_beq_eq_false rfl | decide)]; exact h q j a b c d
theorem cRx.val {g e v : Int} (h : cRx X g e) (hv : 2 ≤ X 11 g e → -1 ≤ v ∧ v ≤ 149) : cRv (u3 X 12 g e v) := fun q j a b c d => by
  by_cases hn : q = g ∧ j = e
  · obtain ⟨rfl, rfl⟩ := hn
    rw [u3_k _ _ _ _ (by first | exact Nat.ne_of_beq_eq_false rfl | decide), u3_s]; exact hv
  · rw [u3_k _ _ _ _ (by first | exact Nat.ne_of_beq_eq_false rfl | decide), u3_ij hn]; exact h q j a b c d hn
/-! the class's changes of state -/
theorem cinv_note (h : CInv cnt X Y ln) (hF : Frm [2802, 2803, 2902] X X1) (hH : Frm [2801, 2804] Y Y1) {n : Int} (e1 : ∀ m, m ≠ n → X1 28 m 1 = X 28 m 1 ∧ Y1 28 m 0 = Y 28 m 0 ∧ Y1 28 m 3 = Y 28 m 3) (hn : (Y1 28 n 0 ≠ none → X1 28 n 1 ≤ 4) ∧ (Y1 28 n 0 = none → ∀ w, Y1 28 n 3 = some w → X1 28 n 1 < ln w)) : CInv cnt X1 Y1 ln := by
  obtain ⟨a, b, c, d, e, f, g, k⟩ := h
  have a1 : X1 0 0 1 = X 0 0 1 := hF 0 0 1 (show 2 ∉ _ by decide)
  have a2 : X1 0 0 3 = X 0 0 3 := hF 0 0 3 (show 4 ∉ _ by decide)
  have a3 : ∀ i, X1 19 i 6 = X 19 i 6 := fun i => hF 19 i 6 (show 1907 ∉ _ by decide)
  have a3b : ∀ i, X1 19 i 0 = X 19 i 0 := fun i => hF 19 i 0 (show 1901 ∉ _ by decide)
  have a4 : ∀ i, X1 7 i 0 = X 7 i 0 := fun i => hF 7 i 0 (show 701 ∉ _ by decide)
  have a5 : ∀ i j, X1 8 i j = X 8 i j := fun i j => hF 8 i j (show 800 ∉ _ by decide)
  have b1 : ∀ j, Y1 2 0 j = Y 2 0 j := fun j => hH 2 0 j (show 200 ∉ _ by decide)
  have b2 : ∀ j, Y1 30 0 j = Y 30 0 j := fun j => hH 30 0 j (show 3000 ∉ _ by decide)
  have b3 : ∀ j, Y1 4 0 j = Y 4 0 j := fun j => hH 4 0 j (show 400 ∉ _ by decide)
  have b4 : Y1 0 0 6 = Y 0 0 6 := hH 0 0 6 (show 7 ∉ _ by decide)
  have b5 : Y1 0 0 7 = Y 0 0 7 := hH 0 0 7 (show 8 ∉ _ by decide)
  have b6 : ∀ j, Y1 1 0 j = Y 1 0 j := fun j => hH 1 0 j (show 100 ∉ _ by decide)
  have b7 : ∀ i, Y1 15 i 0 = Y 15 i 0 := fun i => hH 15 i 0 (show 1501 ∉ _ by decide)
  have b8 : ∀ i j, Y1 24 i j = Y 24 i j := fun i j => hH 24 i j (show 2400 ∉ _ by decide)
  refine ⟨?_, ?_, ?_, ?_, ?_, ?_, ?_, ?_⟩
  · unfold cTh at *; simp only [b1]; exact a
  · unfold cNt at *; simp only [b2]; exact b
  · unfold cSv at *; simp only [b3, b4, b5]; exact c
  · unfold cTy at *; simp only [a1, a3b, b6]; exact d
  · unfold cTt at *; simp only [a2, b7]; exact e
  · unfold cCk at *; simp only [a1, a3, b8]; exact f
  · unfold cRc at *; simp only [a1, a4, a5]; exact g
  · intro m m0 m1
    by_cases hm : m = n
    · rw [hm]; exact hn
    · obtain ⟨q1, q2, q3⟩ := e1 m hm
      rw [q1, q2, q3]; exact k m m0 m1
theorem cinv_y15 {x q : Int} (h : CInv cnt X Y ln) : CInv cnt X (u3 Y 15 x 0 (some q)) ln := by
  have e : ∀ (k : Nat) (i j : Int), k ≠ 15 → u3 Y 15 x 0 (some q) k i j = Y k i j := fun k i j hk => by rw [u3_k _ _ _ _ hk]
  obtain ⟨a, b, c, d, f, g, k, o⟩ := h
  refine ⟨?_, ?_, ?_, ?_, ?_, ?_, k, ?_⟩
  · unfold cTh at *; simp only [e 2 _ _ (by decide)]; exact a
  · unfold cNt at *; simp only [e 30 _ _ (by decide)]; exact b
  · unfold cSv at *; simp only [e 4 _ _ (by decide), e 0 _ _ (by decide)]; exact c
  · unfold cTy at *; simp only [e 1 _ _ (by decide)]; exact d
  · intro x' h0 h1
    by_cases hx : x' = x
    · rw [hx, u3_s]; exact fun q => by cases q
    · rw [u3_ij (fun q => hx q.1)]; exact f x' h0 h1
  · unfold cCk at *; simp only [e 24 _ _ (by decide)]; exact g
  · unfold cNo at *; simp only [e 28 _ _ (by decide)]; exact o
/-- things come or go -/
theorem cinv_things (h : CInv cnt X Y ln) (hF : Frm [4] X X1) (ht : ∀ x, 0 ≤ x → x < X1 0 0 3 → X 0 0 3 ≤ x → Y 15 x 0 ≠ none) : CInv cnt X1 Y ln := by
  obtain ⟨a, b, c, d, e, f, g, k⟩ := h
  have a1 : X1 0 0 1 = X 0 0 1 := hF 0 0 1 (show 2 ∉ _ by decide)
  have a3 : ∀ i, X1 19 i 6 = X 19 i 6 := fun i => hF 19 i 6 (show 1907 ∉ _ by decide)
  have a3b : ∀ i, X1 19 i 0 = X 19 i 0 := fun i => hF 19 i 0 (show 1901 ∉ _ by decide)
  have a4 : ∀ i, X1 7 i 0 = X 7 i 0 := fun i => hF 7 i 0 (show 701 ∉ _ by decide)
  have a5 : ∀ i j, X1 8 i j = X 8 i j := fun i j => hF 8 i j (show 800 ∉ _ by decide)
  have a6 : ∀ i, X1 28 i 1 = X 28 i 1 := fun i => hF 28 i 1 (show 2802 ∉ _ by decide)
  refine ⟨a, b, c, ?_, fun x h0 h1 => ?_, ?_, ?_, ?_⟩
  · unfold cTy at *; simp only [a1, a3b]; exact d
  · by_cases hx : x < X 0 0 3
    · exact e x h0 hx
    · exact ht x h0 h1 (by omega)
  · unfold cCk at *; simp only [a1, a3]; exact f
  · unfold cRc at *; simp only [a1, a4, a5]; exact g
  · unfold cNo at *; simp only [a6]; exact k
/-- checks come or go -/
theorem cinv_checks {q : Int} (h : CInv cnt X Y ln) (hF : Frm [1907] X X1) (hH : Frm [2400] Y Y1) (e1 : ∀ i, i ≠ q → X1 19 i 6 = X 19 i 6) (e2 : ∀ i j, ¬ (i = q ∧ X 19 q 6 ≤ j) → Y1 24 i j = Y 24 i j) (ht : ∀ j, 0 ≤ j → j < X1 19 q 6 → X 19 q 6 ≤ j → Y1 24 q j ≠ none) : CInv cnt X1 Y1 ln := by
  obtain ⟨a, b, c, d, e, f, g, k⟩ := h
  have a1 : X1 0 0 1 = X 0 0 1 := hF 0 0 1 (show 2 ∉ _ by decide)
  have a2 : X1 0 0 3 = X 0 0 3 := hF 0 0 3 (show 4 ∉ _ by decide)
  have a3b : ∀ i, X1 19 i 0 = X 19 i 0 := fun i => hF 19 i 0 (show 1901 ∉ _ by decide)
  have a4 : ∀ i, X1 7 i 0 = X 7 i 0 := fun i => hF 7 i 0 (show 701 ∉ _ by decide)
  have a5 : ∀ i j, X1 8 i j = X 8 i j := fun i j => hF 8 i j (show 800 ∉ _ by decide)
  have a6 : ∀ i, X1 28 i 1 = X 28 i 1 := fun i => hF 28 i 1 (show 2802 ∉ _ by decide)
  have b1 : ∀ j, Y1 2 0 j = Y 2 0 j := fun j => hH 2 0 j (show 200 ∉ _ by decide)
  have b2 : ∀ j, Y1 30 0 j = Y 30 0 j := fun j => hH 30 0 j (show 3000 ∉ _ by decide)
  have b3 : ∀ j, Y1 4 0 j = Y 4 0 j := fun j => hH 4 0 j (show 400 ∉ _ by decide)
  have b4 : Y1 0 0 6 = Y 0 0 6 := hH 0 0 6 (show 7 ∉ _ by decide)
  have b5 : Y1 0 0 7 = Y 0 0 7 := hH 0 0 7 (show 8 ∉ _ by decide)
  have b6 : ∀ j, Y1 1 0 j = Y 1 0 j := fun j => hH 1 0 j (show 100 ∉ _ by decide)
  have b7 : ∀ i, Y1 15 i 0 = Y 15 i 0 := fun i => hH 15 i 0 (show 1501 ∉ _ by decide)
  have b9 : ∀ i, Y1 28 i 0 = Y 28 i 0 := fun i => hH 28 i 0 (show 2801 ∉ _ by decide)
  have b10 : ∀ i, Y1 28 i 3 = Y 28 i 3 := fun i => hH 28 i 3 (show 2804 ∉ _ by decide)
  refine ⟨?_, ?_, ?_, ?_, ?_, ?_, ?_, ?_⟩
  · unfold cTh at *; simp only [b1]; exact a
  · unfold cNt at *; simp only [b2]; exact b
  · unfold cSv at *; simp only [b3, b4, b5]; exact c
  · unfold cTy at *; simp only [a1, a3b, b6]; exact d
  · unfold cTt at *; simp only [a2, b7]; exact e
  · intro i j i0 i1 j0 j1
    rw [a1] at i1
    by_cases hi : i = q
    · subst hi
      by_cases hj : j < X 19 i 6
      · rw [e2 i j (fun w => by omega)]; exact f i j i0 i1 j0 hj
      · exact ht j j0 j1 (by omega)
    · rw [e1 i hi] at j1
      rw [e2 i j (fun w => hi w.1)]; exact f i j i0 i1 j0 j1
  · unfold cRc at *; simp only [a1, a4, a5]; exact g
  · unfold cNo at *; simp only [a6, b9, b10]; exact k
/-- records begin anew, or one comes -/
theorem cinv_record {g : Int} (h : CInv cnt X Y ln) (hF : Frm [1504, 701, 800, 900, 707] X X1) (hH : Frm [500] Y Y1) (e1 : ∀ i, i ≠ g → X1 7 i 0 = X 7 i 0 ∧ ∀ j, X1 8 i j = X 8 i j) (e2 : ∀ r, 0 ≤ r → r < X1 7 g 0 → X1 8 g r < X 0 0 1) : CInv cnt X1 Y1 ln := by
  obtain ⟨a, b, c, d, e, f, k, o⟩ := h
  have a1 : X1 0 0 1 = X 0 0 1 := hF 0 0 1 (show 2 ∉ _ by decide)
  have a2 : X1 0 0 3 = X 0 0 3 := hF 0 0 3 (show 4 ∉ _ by decide)
  have a3 : ∀ i, X1 19 i 6 = X 19 i 6 := fun i => hF 19 i 6 (show 1907 ∉ _ by decide)
  have a3b : ∀ i, X1 19 i 0 = X 19 i 0 := fun i => hF 19 i 0 (show 1901 ∉ _ by decide)
  have a6 : ∀ i, X1 28 i 1 = X 28 i 1 := fun i => hF 28 i 1 (show 2802 ∉ _ by decide)
  have b1 : ∀ j, Y1 2 0 j = Y 2 0 j := fun j => hH 2 0 j (show 200 ∉ _ by decide)
  have b2 : ∀ j, Y1 30 0 j = Y 30 0 j := fun j => hH 30 0 j (show 3000 ∉ _ by decide)
  have b3 : ∀ j, Y1 4 0 j = Y 4 0 j := fun j => hH 4 0 j (show 400 ∉ _ by decide)
  have b4 : Y1 0 0 6 = Y 0 0 6 := hH 0 0 6 (show 7 ∉ _ by decide)
  have b5 : Y1 0 0 7 = Y 0 0 7 := hH 0 0 7 (show 8 ∉ _ by decide)
  have b6 : ∀ j, Y1 1 0 j = Y 1 0 j := fun j => hH 1 0 j (show 100 ∉ _ by decide)
  have b7 : ∀ i, Y1 15 i 0 = Y 15 i 0 := fun i => hH 15 i 0 (show 1501 ∉ _ by decide)
  have b8 : ∀ i j, Y1 24 i j = Y 24 i j := fun i j => hH 24 i j (show 2400 ∉ _ by decide)
  have b9 : ∀ i, Y1 28 i 0 = Y 28 i 0 := fun i => hH 28 i 0 (show 2801 ∉ _ by decide)
  have b10 : ∀ i, Y1 28 i 3 = Y 28 i 3 := fun i => hH 28 i 3 (show 2804 ∉ _ by decide)
  refine ⟨?_, ?_, ?_, ?_, ?_, ?_, ?_, ?_⟩
  · unfold cTh at *; simp only [b1]; exact a
  · unfold cNt at *; simp only [b2]; exact b
  · unfold cSv at *; simp only [b3, b4, b5]; exact c
  · unfold cTy at *; simp only [a1, a3b, b6]; exact d
  · unfold cTt at *; simp only [a2, b7]; exact e
  · unfold cCk at *; simp only [a1, a3, b8]; exact f
  · intro q r q0 q1 r0 r1
    rw [a1]
    by_cases hq : q = g
    · subst hq; exact e2 r r0 r1
    · rw [(e1 q hq).1] at r1
      rw [(e1 q hq).2]; exact k q r q0 q1 r0 r1
  · unfold cNo at *; simp only [a6, b9, b10]; exact o
theorem cinv_swap {sv a b : Int} (h : CInv cnt X Y ln) : CInv cnt X (u3 (u3 Y 4 0 sv (some a)) 0 0 6 (some b)) ln := by
  have e : ∀ (k : Nat) (i j : Int), k ≠ 4 → k ≠ 0 → u3 (u3 Y 4 0 sv (some a)) 0 0 6 (some b) k i j = Y k i j := fun k i j hk h0 => by rw [u3_k _ _ _ _ h0, u3_k _ _ _ _ hk]
  obtain ⟨p1, p2, c, d, f, g, k, o⟩ := h
  refine ⟨?_, ?_, ⟨fun q q0 q1 => ?_, ?_, ?_⟩, ?_, ?_, ?_, k, ?_⟩
  · unfold cTh at *; simp only [e 2 _ _ (by decide) (by decide)]; exact p1
  · unfold cNt at *; simp only [e 30 _ _ (by decide) (by decide)]; exact p2
  · rw [u3_k _ _ _ _ (by first | exact Nat.ne_of_beq_eq_false rfl | decide)]
    by_cases hq : q = sv
    · rw [hq, u3_s]; exact fun q => by cases q
    · rw [u3_j _ _ _ _ hq]; exact c.1 q q0 q1
  · rw [u3_s]; exact fun q => by cases q
  · rw [u3_j _ _ _ _ (by decide), u3_k _ _ _ _ (by first | exact Nat.ne_of_beq_eq_false rfl | decide)]; exact c.2.2
  · unfold cTy at *; simp only [e 1 _ _ (by decide) (by decide)]; exact d
  · unfold cTt at *; simp only [e 15 _ _ (by decide) (by decide)]; exact f
  · unfold cCk at *; simp only [e 24 _ _ (by decide) (by decide)]; exact g
  · unfold cNo at *; simp only [e 28 _ _ (by decide) (by decide)]; exact o
/-- a type comes: its number is T -/
theorem cinv_type {T : Int} (h : CInv cnt X Y ln) (hT : T = X 0 0 1) (hc : cnt1 19 = T + 1) (hF : Frm [1901, 1902, 1907, 2000, 2100, 2200, 2300, 2] X X1) (hH : Frm [2400, 100] Y Y1) (e0 : X1 0 0 1 = T + 1) (e1 : ∀ i, i ≠ T → X1 19 i 0 = X 19 i 0 ∧ X1 19 i 6 = X 19 i 6 ∧ (∀ j, Y1 24 i j = Y 24 i j) ∧ Y1 1 0 i = Y 1 0 i) (e2 : X1 19 T 0 = T ∧ X1 19 T 6 = 0 ∧ Y1 1 0 T = some T) {ln1 : Int → Int} (hl : ln1 = ln) : CInv cnt1 X1 Y1 ln1 := by
  subst hl
  obtain ⟨a, b, c, d, e, f, g, k⟩ := h
  have a2 : X1 0 0 3 = X 0 0 3 := hF 0 0 3 (show 4 ∉ _ by decide)
  have a4 : ∀ i, X1 7 i 0 = X 7 i 0 := fun i => hF 7 i 0 (show 701 ∉ _ by decide)
  have a5 : ∀ i j, X1 8 i j = X 8 i j := fun i j => hF 8 i j (show 800 ∉ _ by decide)
  have a6 : ∀ i, X1 28 i 1 = X 28 i 1 := fun i => hF 28 i 1 (show 2802 ∉ _ by decide)
  have b1 : ∀ j, Y1 2 0 j = Y 2 0 j := fun j => hH 2 0 j (show 200 ∉ _ by decide)
  have b2 : ∀ j, Y1 30 0 j = Y 30 0 j := fun j => hH 30 0 j (show 3000 ∉ _ by decide)
  have b3 : ∀ j, Y1 4 0 j = Y 4 0 j := fun j => hH 4 0 j (show 400 ∉ _ by decide)
  have b4 : Y1 0 0 6 = Y 0 0 6 := hH 0 0 6 (show 7 ∉ _ by decide)
  have b5 : Y1 0 0 7 = Y 0 0 7 := hH 0 0 7 (show 8 ∉ _ by decide)
  have b7 : ∀ i, Y1 15 i 0 = Y 15 i 0 := fun i => hH 15 i 0 (show 1501 ∉ _ by decide)
  have b9 : ∀ i, Y1 28 i 0 = Y 28 i 0 := fun i => hH 28 i 0 (show 2801 ∉ _ by decide)
  have b10 : ∀ i, Y1 28 i 3 = Y 28 i 3 := fun i => hH 28 i 3 (show 2804 ∉ _ by decide)
  refine ⟨?_, ?_, ?_, ⟨by omega, fun t t0 t1 => ?_⟩, ?_, fun q j q0 q1 j0 j1 => ?_, fun q r q0 q1 r0 r1 => ?_, ?_⟩
  · unfold cTh at *; simp only [b1]; exact a
  · unfold cNt at *; simp only [b2]; exact b
  · unfold cSv at *; simp only [b3, b4, b5]; exact c
  · by_cases ht : t = T
    · rw [ht]; exact ⟨e2.2.2, e2.1⟩
    · rw [(e1 t ht).1, (e1 t ht).2.2.2]; exact d.2 t t0 (by omega)
  · unfold cTt at *; simp only [a2, b7]; exact e
  · by_cases ht : q = T
    · rw [ht, e2.2.1] at j1; omega
    · rw [(e1 q ht).2.1] at j1
      rw [(e1 q ht).2.2.1]; exact f q j q0 (by omega) j0 j1
  · rw [a4] at r1
    rw [a5]
    have := g q r q0 q1 r0 r1
    omega
  · unfold cNo at *; simp only [a6, b9, b10]; exact k
end CV
end
