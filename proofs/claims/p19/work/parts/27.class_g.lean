set_option maxHeartbeats 4000000 in
set_option maxRecDepth 100000 in
theorem c_X8_recordNumberOf (l : Launch) (D : va_G) (tc : Nat → ClassId) (base : Nat) (ad : Nat → Int → Nat) (cnt : Nat → Int) (X : Nat → Int → Int → Int) (Y : Nat → Int → Int → Option Int) (ln : Int → Int) (hR : Rng X) (hFx : Fx cnt) (hLn : LnOK ln) (hCI : CInv cnt X Y ln) (x g : Int) (hx0 : 0 ≤ x ∧ x ≤ 29) (hxt : x < X 0 0 3) (hg : 0 ≤ g ∧ g < 6) (hO : rcOK X Y g) (sg : Nat → Int → Int) (hsg : rcT X Y g sg) : KI l D tc base yX8_recordNumberOf wsX8_recordNumberOf ({ frames := 0, cells := 0, slots := 0, locals := 0 } : Room) [.ref (ad 0 0), .ref (ad 15 x), .ref (ad 7 g)] (ad, cnt, X, Y, ln) 0 0 (fun z u => ∃ (X1 : Nat → Int → Int → Int) (Y1 : Nat → Int → Int → Option Int), u = (ad, cnt, X1, Y1, ln) ∧ Rng X1 ∧ Frm [1504, 701, 800, 900] X X1 ∧ Frm [500] Y Y1 ∧ CInv cnt X1 Y1 ln ∧ (0 ≤ z ∧ z ≤ 29) ∧ rcOK X1 Y1 g ∧ X 7 g 0 ≤ X1 7 g 0 ∧ z = (if nmAt (sg 1) x (sg 0 0).toNat = -1 then sg 0 0 else nmAt (sg 1) x (sg 0 0).toNat) ∧ rcT X1 Y1 g (if nmAt (sg 1) x (sg 0 0).toNat = -1 then u2 (u2 sg 1 (sg 0 0) x) 0 0 (sg 0 0 + 1) else sg) ∧ gK g X X1) := by
  refine K_of (cc := cX8_recordNumberOf) (maxL := 3) (ret := (some .int)) (by decide) rfl (Nat.le_of_ble_eq_true rfl) ?_
  intro p e s m below meth c ls hx hb hr hml hown hts hlocks hl hK hw hS
  have hown : s.vm.findClass RX8 = some m.cls := hown
  obtain ⟨av9, hav9⟩ : ∃ a9 : Array Value, a9 = ([.ref (ad 0 0), .ref (ad 15 x), .ref (ad 7 g)] : List Value).toArray := ⟨_, rfl⟩
  rw [← hav9] at hts ⊢
  obtain ⟨Q9, hQ9⟩ : ∃ q9Q : State → Prop, q9Q = MQ below (QI D tc base (fun z u => ∃ (X1 : Nat → Int → Int → Int) (Y1 : Nat → Int → Int → Option Int), u = (ad, cnt, X1, Y1, ln) ∧ Rng X1 ∧ Frm [1504, 701, 800, 900] X X1 ∧ Frm [500] Y Y1 ∧ CInv cnt X1 Y1 ln ∧ (0 ≤ z ∧ z ≤ 29) ∧ rcOK X1 Y1 g ∧ X 7 g 0 ≤ X1 7 g 0 ∧ z = (if nmAt (sg 1) x (sg 0 0).toNat = -1 then sg 0 0 else nmAt (sg 1) x (sg 0 0).toNat) ∧ rcT X1 Y1 g (if nmAt (sg 1) x (sg 0 0).toNat = -1 then u2 (u2 sg 1 (sg 0 0) x) 0 0 (sg 0 0 + 1) else sg) ∧ gK g X X1)) av9 s 0 0 (frA base) := ⟨_, rfl⟩
  rw [← hQ9]
  have hi4 : ∀ w ∈ wsX40, w ∈ wsX8_recordNumberOf := fun w h => List.mem_cons_of_mem _ (List.mem_append_left _ (List.mem_append_left _ (List.mem_append_right _ h)))
  have hf4 : fctx s m _ RX8 wsX8_recordNumberOf D tc RX4 TX4 9 4 := ⟨hts, hi4, hown, hK.1, rfl⟩
  have hi6 : ∀ w ∈ wsX60, w ∈ wsX8_recordNumberOf := fun w h => List.mem_cons_of_mem _ (List.mem_append_left _ (List.mem_append_left _ (List.mem_append_left _ (List.mem_append_right _ h))))
  have hf6 : fctx s m _ RX8 wsX8_recordNumberOf D tc RX6 TX6 4 6 := ⟨hts, hi6, hown, hK.1, rfl⟩
  have hi7 : ∀ w ∈ wsX70, w ∈ wsX8_recordNumberOf := fun w h => List.mem_cons_of_mem _ (List.mem_append_right _ h)
  have hf7 : fctx s m _ RX8 wsX8_recordNumberOf D tc RX7 TX7 8 7 := ⟨hts, hi7, hown, hK.1, rfl⟩
  have hi8 : ∀ w ∈ wsX80, w ∈ wsX8_recordNumberOf := fun w h => List.mem_cons_of_mem _ (List.mem_append_left _ (List.mem_append_right _ h))
  have hf8 : fctx s m _ RX8 wsX8_recordNumberOf D tc RX8 TX8 12 8 := ⟨hts, hi8, hown, hK.1, rfl⟩
  have lk39 := hts (.fieldLink RX8 39 (TX8 8).1 (TX8 8).2.1 (TX8 8).2.2.1) (gj_X8_recordNumberOf_0 _ (gp_1 (gp_1 gp_h)))
  have lk85 := hts (.fieldLink RX8 85 (TX7 1).1 (TX7 1).2.1 (TX7 1).2.2.1) (gj_X8_recordNumberOf_0 _ (gp_4 (gp_1 (gp_1 (gp_1 gp_h)))))
  have lk97 := hts (.fieldLink RX8 97 (TX6 0).1 (TX6 0).2.1 (TX6 0).2.2.1) (gj_X8_recordNumberOf_0 _ (gp_4 gp_h))
  have lk205 := hts (.fieldLink RX8 205 (TX7 0).1 (TX7 0).2.1 (TX7 0).2.2.1) (gj_X8_recordNumberOf_0 _ (gp_4 (gp_1 gp_h)))
  have lk231 := hts (.fieldLink RX8 231 (TX4 0).1 (TX4 0).2.1 (TX4 0).2.2.1) (gj_X8_recordNumberOf_0 _ (gp_1 gp_h))
  have lk333 := hts (.fieldLink RX8 333 (TX6 3).1 (TX6 3).2.1 (TX6 3).2.2.1) (gj_X8_recordNumberOf_0 _ (gp_h))
  have lk336 := hts (.fieldLink RX8 336 (TX4 1).1 (TX4 1).2.1 (TX4 1).2.2.1) (gj_X8_recordNumberOf_0 _ (gp_1 (gp_1 (gp_1 gp_h))))
  have lk338 := hts (.fieldLink RX8 338 (TX4 2).1 (TX4 2).2.1 (TX4 2).2.2.1) (gj_X8_recordNumberOf_0 _ (gp_4 (gp_1 (gp_1 gp_h))))
  have hc0 : cnt 0 = 1 := hFx.at 0 1 (by decide)
  have hc5 : cnt 5 = 1 := hFx.at 5 1 (by decide)
  have hc7 : cnt 7 = 6 := hFx.at 7 6 (by decide)
  have hc8 : cnt 8 = 6 := hFx.at 8 6 (by decide)
  have hc9 : cnt 9 = 6 := hFx.at 9 6 (by decide)
  have hc15 : cnt 15 = 30 := hFx.at 15 30 (by decide)
  have hl : lv_has ls 3 [(0, .ref (ad 0 0)), (1, .ref (ad 15 x)), (2, .ref (ad 7 g))] := hl
  have ftc : 0 ≤ X 0 0 3 ∧ X 0 0 3 ≤ 30 := hR 0 0 3
  have fty : 0 ≤ X 0 0 1 ∧ X 0 0 1 ≤ 8 := hR 0 0 1
  have hct : cnt 19 = X 0 0 1 := hCI.2.2.2.1.1
  have hfj : 0 ≤ X 29 0 3 ∧ X 29 0 3 ≤ 4 := hR 29 0 3
  have hfn : 0 ≤ X 29 0 1 ∧ X 29 0 1 ≤ 80 := hR 29 0 1
  have hsg1 : X 7 g 0 = sg 0 0 := hsg.1
  have hsg0 : 0 ≤ X 7 g 0 ∧ X 7 g 0 ≤ 30 := hR 7 g 0
  refine lv_aload_n hx hb dX8_recordNumberOf_0 rfl (lv_at hl 1 rfl) ?_
  refine x_geti (jz := 3) hx hb hf6 hw (by omega) (by omega) sl_15_3 rfl lk333 dX8_recordNumberOf_1 ?_
  have f1 : (-1) ≤ X 15 x 3 ∧ X 15 x 3 ≤ 29 := hR 15 x 3
  refine lv_iconst (v := jI (-1)) hx hb dX8_recordNumberOf_4 rfl ?_
  refine x_icmp_ne (tgt := 68) hx hb (by omega) (by omega) dX8_recordNumberOf_5 (by decide) (fun c2 => ?_) (fun c2 => ?_)
  · refine lv_aload_n hx hb dX8_recordNumberOf_68 rfl (lv_at hl 1 rfl) ?_
    skip
    refine x_geti (jz := 3) hx hb hf6 hw (by omega) (by omega) sl_15_3 rfl lk333 dX8_recordNumberOf_69 ?_
    have f3 : (-1) ≤ X 15 x 3 ∧ X 15 x 3 ≤ 29 := hR 15 x 3
    rw [hQ9]
    refine ret_i (mc := 0) (ms := 0) hx hb hr hlocks hw hS (by first | exact Nat.le_of_ble_eq_true rfl | omega) (by first | exact Nat.le_of_ble_eq_true rfl | omega) dX8_recordNumberOf_72 ?_
    have hnm4 : X 15 x 3 = nmAt (sg 1) x (sg 0 0).toNat := hsg.2.2 x (by omega) hxt
    exact ⟨X, Y, rfl, hR, Frm.rf, Frm.rf, hCI, by omega, hO, Int.le_refl _, (by rw [if_neg (by omega)]; omega), (by rw [if_neg (by omega)]; exact hsg), gK.rf⟩
  · have hrc : X 7 g 0 ≤ 29 := hO.room hR (by omega) hxt (by omega)
    refine lv_aload_n hx hb dX8_recordNumberOf_8 rfl (lv_at hl 1 rfl) ?_
    refine lv_aload_n hx hb dX8_recordNumberOf_9 rfl (lv_at hl 2 rfl) ?_
    refine x_geti (jz := 0) hx hb hf4 hw (by omega) (by omega) sl_7_0 rfl lk231 dX8_recordNumberOf_10 ?_
    have f5 : 0 ≤ X 7 g 0 ∧ X 7 g 0 ≤ 30 := hR 7 g 0
    refine x_puti (jz := 3) hx hb hf6 ⟨tyX6_ok, nmX6⟩ hw hS (by omega) (by omega) sl_15_3 rfl lk333 rfl (tyX6_ok 3 (by decide)) rfl rfl dX8_recordNumberOf_13 (fun H locs hw hS => ?_)
    obtain ⟨X6, hX6⟩ : ∃ Xq, Xq = u3 X 15 x 3 (X 7 g 0) := ⟨_, rfl⟩
    rw [← hX6] at hw
    have hRX6 : Rng X6 := by rw [hX6]; exact rng_set hR (show (-1) ≤ (X 7 g 0) ∧ (X 7 g 0) ≤ 29 by omega)
    have hVX6 : X6 15 x 3 = (X 7 g 0) := by rw [hX6]; exact u3_s _ _ _ _ _
    have hFX6 : Frm [1504, 701, 800, 900] X X6 := by rw [hX6]; exact Frm.set Frm.rf (show 1504 ∈ [1504, 701, 800, 900] by first | exact nlm_in rfl | decide)
    refine lv_aload_n hx hb dX8_recordNumberOf_16 rfl (lv_at hl 0 rfl) ?_
    refine x_geto hx hb hf8 hw (by first | exact Int.le_refl 0 | omega) (by first | exact zlt hc0 | omega) sl_0_8 lk39 dX8_recordNumberOf_17 ?_
    refine lv_aload_n hx hb dX8_recordNumberOf_20 rfl (lv_at hl 2 rfl) ?_
    refine x_geti (jz := 0) hx hb hf4 hw (by omega) (by omega) sl_7_0 rfl lk231 dX8_recordNumberOf_21 ?_
    have e7 : X6 7 g 0 = X 7 g 0 := by rw [hX6, u3_k _ _ _ _ (by first | exact Nat.ne_of_beq_eq_false rfl | decide)]
    rw [e7]
    have f8 : 0 ≤ X 7 g 0 ∧ X 7 g 0 ≤ 30 := hR 7 g 0
    refine lv_aload_n hx hb dX8_recordNumberOf_24 rfl (lv_at hl 1 rfl) ?_
    refine x_aast hx hb hK.1 hw hS (by first | exact Int.le_refl 0 | omega) (by first | exact zlt hc5 | omega) ar_5 rfl rfl sl_15_0 (len_E ar_5 (by first | exact Nat.ne_of_beq_eq_false rfl | decide)) (by omega) (by omega) (by omega) (by omega) (by omega) dX8_recordNumberOf_25 (fun H locs hw hS => ?_)
    obtain ⟨Y9, hY9⟩ : ∃ Yq, Yq = u3 Y 5 0 (X 7 g 0) (some x) := ⟨_, rfl⟩
    rw [← hY9] at hw
    have hVY9 : Y9 5 0 (X 7 g 0) = (some x) := by rw [hY9]; exact u3_s _ _ _ _ _
    have hHY9 : Frm [500] Y Y9 := by rw [hY9]; exact Frm.set Frm.rf (show 500 ∈ [500] by first | exact nlm_in rfl | decide)
    refine lv_aload_n hx hb dX8_recordNumberOf_26 rfl (lv_at hl 2 rfl) ?_
    refine x_geto hx hb hf4 hw (by omega) (by omega) sl_7_1 lk336 dX8_recordNumberOf_27 ?_
    refine lv_aload_n hx hb dX8_recordNumberOf_30 rfl (lv_at hl 2 rfl) ?_
    refine x_geti (jz := 0) hx hb hf4 hw (by omega) (by omega) sl_7_0 rfl lk231 dX8_recordNumberOf_31 ?_
    have e10 : X6 7 g 0 = X 7 g 0 := by rw [hX6, u3_k _ _ _ _ (by first | exact Nat.ne_of_beq_eq_false rfl | decide)]
    rw [e10]
    have f11 : 0 ≤ X 7 g 0 ∧ X 7 g 0 ≤ 30 := hR 7 g 0
    refine lv_aload_n hx hb dX8_recordNumberOf_34 rfl (lv_at hl 1 rfl) ?_
    refine x_getr (jz := 0) hx hb hf6 hw (by omega) (by omega) sl_15_0 rfl lk97 dX8_recordNumberOf_35 (fun y12 => ?_) (fun r13 y12 gr13 lr13 => ?_)
    · exfalso
      have e14 : Y9 15 x 0 = Y 15 x 0 := by rw [hY9, u3_k _ _ _ _ (by first | exact Nat.ne_of_beq_eq_false rfl | decide)]
      rw [e14] at y12
      exact absurd y12 (hCI.2.2.2.2.1 x (by omega) (by omega))
    · have e15 : Y9 15 x 0 = Y 15 x 0 := by rw [hY9, u3_k _ _ _ _ (by first | exact Nat.ne_of_beq_eq_false rfl | decide)]
      rw [e15] at y12
      refine x_geti (jz := 0) hx hb hf7 hw (by omega) (by omega) sl_19_0 rfl lk205 dX8_recordNumberOf_38 ?_
      have e16 : X6 19 r13 0 = X 19 r13 0 := by rw [hX6, u3_k _ _ _ _ (by first | exact Nat.ne_of_beq_eq_false rfl | decide)]
      rw [e16]
      have f17 : 0 ≤ X 19 r13 0 ∧ X 19 r13 0 ≤ 7 := hR 19 r13 0
      refine x_iast hx hb hK.1 hw hS (by omega) (by omega) ar_8 (len_E ar_8 (by first | exact Nat.ne_of_beq_eq_false rfl | decide)) (by omega) (by omega) (by omega) dX8_recordNumberOf_41 (fun H locs hw hS => ?_)
      obtain ⟨X18, hX18⟩ : ∃ Xq, Xq = u3 X6 8 g (X 7 g 0) (X 19 r13 0) := ⟨_, rfl⟩
      rw [← hX18] at hw
      have hRX18 : Rng X18 := by rw [hX18]; exact rng_set hRX6 (show 0 ≤ (X 19 r13 0) ∧ (X 19 r13 0) ≤ 7 by omega)
      have hVX18 : X18 8 g (X 7 g 0) = (X 19 r13 0) := by rw [hX18]; exact u3_s _ _ _ _ _
      have hFX18 : Frm [1504, 701, 800, 900] X X18 := by rw [hX18]; exact Frm.set hFX6 (show 800 ∈ [1504, 701, 800, 900] by first | exact nlm_in rfl | decide)
      refine lv_aload_n hx hb dX8_recordNumberOf_42 rfl (lv_at hl 2 rfl) ?_
      refine x_geto hx hb hf4 hw (by omega) (by omega) sl_7_2 lk338 dX8_recordNumberOf_43 ?_
      refine lv_aload_n hx hb dX8_recordNumberOf_46 rfl (lv_at hl 2 rfl) ?_
      refine x_geti (jz := 0) hx hb hf4 hw (by omega) (by omega) sl_7_0 rfl lk231 dX8_recordNumberOf_47 ?_
      have e19 : X18 7 g 0 = X 7 g 0 := by rw [hX18, u3_k _ _ _ _ (by first | exact Nat.ne_of_beq_eq_false rfl | decide), hX6, u3_k _ _ _ _ (by first | exact Nat.ne_of_beq_eq_false rfl | decide)]
      rw [e19]
      have f20 : 0 ≤ X 7 g 0 ∧ X 7 g 0 ≤ 30 := hR 7 g 0
      refine lv_aload_n hx hb dX8_recordNumberOf_50 rfl (lv_at hl 1 rfl) ?_
      refine x_getr (jz := 0) hx hb hf6 hw (by omega) (by omega) sl_15_0 rfl lk97 dX8_recordNumberOf_51 (fun y21 => ?_) (fun r22 y21 gr22 lr22 => ?_)
      · exfalso
        have e23 : Y9 15 x 0 = Y 15 x 0 := by rw [hY9, u3_k _ _ _ _ (by first | exact Nat.ne_of_beq_eq_false rfl | decide)]
        rw [e23] at y21
        rw [y12] at y21; cases y21
      · have e24 : Y9 15 x 0 = Y 15 x 0 := by rw [hY9, u3_k _ _ _ _ (by first | exact Nat.ne_of_beq_eq_false rfl | decide)]
        rw [e24] at y21
        have er22 : r22 = r13 := by rw [y12] at y21; cases y21; rfl
        rw [er22]
        refine x_geti (jz := 1) hx hb hf7 hw (by omega) (by omega) sl_19_1 rfl lk85 dX8_recordNumberOf_54 ?_
        have e25 : X18 19 r13 1 = X 19 r13 1 := by rw [hX18, u3_k _ _ _ _ (by first | exact Nat.ne_of_beq_eq_false rfl | decide), hX6, u3_k _ _ _ _ (by first | exact Nat.ne_of_beq_eq_false rfl | decide)]
        rw [e25]
        have f26 : 0 ≤ X 19 r13 1 ∧ X 19 r13 1 ≤ 5 := hR 19 r13 1
        refine x_iast hx hb hK.1 hw hS (by omega) (by omega) ar_9 (len_E ar_9 (by first | exact Nat.ne_of_beq_eq_false rfl | decide)) (by omega) (by omega) (by omega) dX8_recordNumberOf_57 (fun H locs hw hS => ?_)
        obtain ⟨X27, hX27⟩ : ∃ Xq, Xq = u3 X18 9 g (X 7 g 0) (X 19 r13 1) := ⟨_, rfl⟩
        rw [← hX27] at hw
        have hRX27 : Rng X27 := by rw [hX27]; exact rng_set hRX18 (show 0 ≤ (X 19 r13 1) ∧ (X 19 r13 1) ≤ 5 by omega)
        have hVX27 : X27 9 g (X 7 g 0) = (X 19 r13 1) := by rw [hX27]; exact u3_s _ _ _ _ _
        have hFX27 : Frm [1504, 701, 800, 900] X X27 := by rw [hX27]; exact Frm.set hFX18 (show 900 ∈ [1504, 701, 800, 900] by first | exact nlm_in rfl | decide)
        refine lv_aload_n hx hb dX8_recordNumberOf_58 rfl (lv_at hl 2 rfl) ?_
        refine lv_dup hx hb dX8_recordNumberOf_59 rfl ?_
        refine x_geti (jz := 0) hx hb hf4 hw (by omega) (by omega) sl_7_0 rfl lk231 dX8_recordNumberOf_60 ?_
        have e28 : X27 7 g 0 = X 7 g 0 := by rw [hX27, u3_k _ _ _ _ (by first | exact Nat.ne_of_beq_eq_false rfl | decide), hX18, u3_k _ _ _ _ (by first | exact Nat.ne_of_beq_eq_false rfl | decide), hX6, u3_k _ _ _ _ (by first | exact Nat.ne_of_beq_eq_false rfl | decide)]
        rw [e28]
        have f29 : 0 ≤ X 7 g 0 ∧ X 7 g 0 ≤ 30 := hR 7 g 0
        refine lv_iconst (v := jI 1) hx hb dX8_recordNumberOf_63 rfl ?_
        refine x_iadd hx hb dX8_recordNumberOf_64 ?_
        refine x_puti (jz := 0) hx hb hf4 ⟨tyX4_ok, nmX4⟩ hw hS (by omega) (by omega) sl_7_0 rfl lk231 rfl (tyX4_ok 0 (by decide)) rfl rfl dX8_recordNumberOf_65 (fun H locs hw hS => ?_)
        obtain ⟨X30, hX30⟩ : ∃ Xq, Xq = u3 X27 7 g 0 ((X 7 g 0) + 1) := ⟨_, rfl⟩
        rw [← hX30] at hw
        have hRX30 : Rng X30 := by rw [hX30]; exact rng_set hRX27 (show 0 ≤ ((X 7 g 0) + 1) ∧ ((X 7 g 0) + 1) ≤ 30 by omega)
        have hVX30 : X30 7 g 0 = ((X 7 g 0) + 1) := by rw [hX30]; exact u3_s _ _ _ _ _
        have hFX30 : Frm [1504, 701, 800, 900] X X30 := by rw [hX30]; exact Frm.set hFX27 (show 701 ∈ [1504, 701, 800, 900] by first | exact nlm_in rfl | decide)
        refine lv_aload_n hx hb dX8_recordNumberOf_68 rfl (lv_at hl 1 rfl) ?_
        skip
        refine x_geti (jz := 3) hx hb hf6 hw (by omega) (by omega) sl_15_3 rfl lk333 dX8_recordNumberOf_69 ?_
        have e31 : X30 15 x 3 = X6 15 x 3 := by rw [hX30, u3_k _ _ _ _ (by first | exact Nat.ne_of_beq_eq_false rfl | decide), hX27, u3_k _ _ _ _ (by first | exact Nat.ne_of_beq_eq_false rfl | decide), hX18, u3_k _ _ _ _ (by first | exact Nat.ne_of_beq_eq_false rfl | decide)]
        rw [e31]
        rw [hVX6]
        rw [hQ9]
        refine ret_i (mc := 0) (ms := 0) hx hb hr hlocks hw hS (by first | exact Nat.le_of_ble_eq_true rfl | omega) (by first | exact Nat.le_of_ble_eq_true rfl | omega) dX8_recordNumberOf_72 ?_
        have q32 : Frm [1504, 701, 800, 900, 707] X X6 := by rw [hX6]; exact Frm.set Frm.rf (show 1504 ∈ [1504, 701, 800, 900, 707] by first | exact nlm_in rfl | decide)
        have q33 : Frm [1504, 701, 800, 900, 707] X X18 := by rw [hX18]; exact Frm.set q32 (show 800 ∈ [1504, 701, 800, 900, 707] by first | exact nlm_in rfl | decide)
        have q34 : Frm [1504, 701, 800, 900, 707] X X27 := by rw [hX27]; exact Frm.set q33 (show 900 ∈ [1504, 701, 800, 900, 707] by first | exact nlm_in rfl | decide)
        have q35 : Frm [1504, 701, 800, 900, 707] X X30 := by rw [hX30]; exact Frm.set q34 (show 701 ∈ [1504, 701, 800, 900, 707] by first | exact nlm_in rfl | decide)
        have h36 : X 19 r13 0 = r13 := (hCI.2.2.2.1.2 r13 (by omega) (by omega)).2
        have e37 : X30 8 g (X 7 g 0) < X 0 0 1 := (by rw [hX30, u3_k _ _ _ _ (by first | exact Nat.ne_of_beq_eq_false rfl | decide), hX27, u3_k _ _ _ _ (by first | exact Nat.ne_of_beq_eq_false rfl | decide)]; rw [hVX18]; omega)
        have hnm38 : X 15 x 3 = nmAt (sg 1) x (sg 0 0).toNat := hsg.2.2 x (by omega) hxt
        have hnum39 : X 19 r13 0 = r13 := (hCI.2.2.2.1.2 r13 (by omega) (by omega)).2
        have q40 : gK g X X6 := by rw [hX6]; exact gK.set gK.rf (fun _ => by first | rfl | omega)
        have q41 : gK g X X18 := by rw [hX18]; exact gK.set q40 (fun _ => by first | rfl | omega)
        have q42 : gK g X X27 := by rw [hX27]; exact gK.set q41 (fun _ => by first | rfl | omega)
        have q43 : gK g X X30 := by rw [hX30]; exact gK.set q42 (fun _ => by first | rfl | omega)
        refine ⟨X30, Y9, rfl, hRX30, hFX30, hHY9, ?g9p727, ?g9p728, ?g9p729, ?g9p730, ?g9p731, ?g9p732, q43⟩
        case g9p727 => exact cinv_record (g := g) hCI q35 hHY9 (fun i hi => ⟨(by rw [hX30, u3_ij (by omega), hX27, u3_k _ _ _ _ (by first | exact Nat.ne_of_beq_eq_false rfl | decide), hX18, u3_k _ _ _ _ (by first | exact Nat.ne_of_beq_eq_false rfl | decide), hX6, u3_k _ _ _ _ (by first | exact Nat.ne_of_beq_eq_false rfl | decide)]), fun j => (by rw [hX30, u3_k _ _ _ _ (by first | exact Nat.ne_of_beq_eq_false rfl | decide), hX27, u3_k _ _ _ _ (by first | exact Nat.ne_of_beq_eq_false rfl | decide), hX18, u3_ij (by omega), hX6, u3_k _ _ _ _ (by first | exact Nat.ne_of_beq_eq_false rfl | decide)])⟩) (fun r a b => if hr9 : r = X 7 g 0 then (by rw [hr9]; exact e37) else (by rw [hVX30] at b; rw [hX30, u3_k _ _ _ _ (by first | exact Nat.ne_of_beq_eq_false rfl | decide), hX27, u3_k _ _ _ _ (by first | exact Nat.ne_of_beq_eq_false rfl | decide), hX18, u3_ij (by omega), hX6, u3_k _ _ _ _ (by first | exact Nat.ne_of_beq_eq_false rfl | decide)]; exact hCI.2.2.2.2.2.2.1 g r (by omega) (by omega) a (by omega)))
        case g9p728 => omega
        case g9p729 => exact hO.push (x := x) (by omega) (by omega) (by omega) hVX30 (by rw [hX30, u3_k _ _ _ _ (by first | exact Nat.ne_of_beq_eq_false rfl | decide), hX27, u3_k _ _ _ _ (by first | exact Nat.ne_of_beq_eq_false rfl | decide), hX18, u3_k _ _ _ _ (by first | exact Nat.ne_of_beq_eq_false rfl | decide), hX6, u3_k _ _ _ _ (by first | exact Nat.ne_of_beq_eq_false rfl | decide)]) (by rw [hX30, u3_k _ _ _ _ (by first | exact Nat.ne_of_beq_eq_false rfl | decide), hX27, u3_k _ _ _ _ (by first | exact Nat.ne_of_beq_eq_false rfl | decide), hX18, u3_k _ _ _ _ (by first | exact Nat.ne_of_beq_eq_false rfl | decide)]; exact hVX6) (fun i hi => (by rw [hX30, u3_k _ _ _ _ (by first | exact Nat.ne_of_beq_eq_false rfl | decide), hX27, u3_k _ _ _ _ (by first | exact Nat.ne_of_beq_eq_false rfl | decide), hX18, u3_k _ _ _ _ (by first | exact Nat.ne_of_beq_eq_false rfl | decide), hX6, u3_ij (by omega)])) (by exact hVY9) (fun j hj => (by rw [hY9, u3_ij (by omega)]))
        case g9p730 => rw [hVX30]; omega
        case g9p731 => rw [if_pos (by omega)]; omega
        case g9p732 => rw [if_pos (by omega)]; exact rcT.push (x := x) hsg (by omega) ⟨by omega, hxt⟩ (by omega) hVX30 (by rw [hX30, u3_k _ _ _ _ (by first | exact Nat.ne_of_beq_eq_false rfl | decide), hX27, u3_k _ _ _ _ (by first | exact Nat.ne_of_beq_eq_false rfl | decide), hX18, u3_k _ _ _ _ (by first | exact Nat.ne_of_beq_eq_false rfl | decide), hX6, u3_k _ _ _ _ (by first | exact Nat.ne_of_beq_eq_false rfl | decide)]) (by rw [hX30, u3_k _ _ _ _ (by first | exact Nat.ne_of_beq_eq_false rfl | decide), hX27, u3_k _ _ _ _ (by first | exact Nat.ne_of_beq_eq_false rfl | decide), hX18, u3_k _ _ _ _ (by first | exact Nat.ne_of_beq_eq_false rfl | decide)]; exact hVX6) (fun i hi => (by rw [hX30, u3_k _ _ _ _ (by first | exact Nat.ne_of_beq_eq_false rfl | decide), hX27, u3_k _ _ _ _ (by first | exact Nat.ne_of_beq_eq_false rfl | decide), hX18, u3_k _ _ _ _ (by first | exact Nat.ne_of_beq_eq_false rfl | decide), hX6, u3_ij (by omega)])) (by exact hVY9) (fun j hj => (by rw [hY9, u3_ij (by omega)])) (by rw [tyo_some y12]; exact (by rw [hX30, u3_k _ _ _ _ (by first | exact Nat.ne_of_beq_eq_false rfl | decide), hX27, u3_k _ _ _ _ (by first | exact Nat.ne_of_beq_eq_false rfl | decide)]; rw [hVX18]; exact hnum39)) (fun j hj => (by rw [hX30, u3_k _ _ _ _ (by first | exact Nat.ne_of_beq_eq_false rfl | decide), hX27, u3_k _ _ _ _ (by first | exact Nat.ne_of_beq_eq_false rfl | decide), hX18, u3_ij (by omega), hX6, u3_k _ _ _ _ (by first | exact Nat.ne_of_beq_eq_false rfl | decide)])) (by unfold cFc; rw [tyo_some y12]; exact (by rw [hX30, u3_k _ _ _ _ (by first | exact Nat.ne_of_beq_eq_false rfl | decide)]; exact hVX27)) (fun j hj => (by rw [hX30, u3_k _ _ _ _ (by first | exact Nat.ne_of_beq_eq_false rfl | decide), hX27, u3_ij (by omega), hX18, u3_k _ _ _ _ (by first | exact Nat.ne_of_beq_eq_false rfl | decide), hX6, u3_k _ _ _ _ (by first | exact Nat.ne_of_beq_eq_false rfl | decide)])) (fun i => (by rw [hX30, u3_k _ _ _ _ (by first | exact Nat.ne_of_beq_eq_false rfl | decide), hX27, u3_k _ _ _ _ (by first | exact Nat.ne_of_beq_eq_false rfl | decide), hX18, u3_k _ _ _ _ (by first | exact Nat.ne_of_beq_eq_false rfl | decide), hX6, u3_k _ _ _ _ (by first | exact Nat.ne_of_beq_eq_false rfl | decide)])) (fun i => (by rw [hY9, u3_k _ _ _ _ (by first | exact Nat.ne_of_beq_eq_false rfl | decide)]))

set_option maxHeartbeats 4000000 in
set_option maxRecDepth 100000 in
theorem c_X4_numberOf (l : Launch) (D : va_G) (tc : Nat → ClassId) (base : Nat) (ad : Nat → Int → Nat) (cnt : Nat → Int) (X : Nat → Int → Int → Int) (Y : Nat → Int → Int → Option Int) (ln : Int → Int) (hR : Rng X) (hFx : Fx cnt) (hLn : LnOK ln) (hCI : CInv cnt X Y ln) (g r : Int) (hg : 0 ≤ g ∧ g < 6) (hr0 : 0 ≤ r ∧ r < cnt 26) (hrc : X 7 g 6 ≤ 149) (sg : Nat → Int → Int) (hsg : rcR X Y ln g sg) (yy kk : Int) (hyk : 0 ≤ yy ∧ yy < X 0 0 3 ∧ 0 ≤ kk ∧ kk < cFc X Y yy ∧ Y 17 yy kk = some r) : KI l D tc base yX4_numberOf wsX4_numberOf ({ frames := 0, cells := 0, slots := 0, locals := 0 } : Room) [.ref (ad 7 g), .ref (ad 26 r)] (ad, cnt, X, Y, ln) 0 0 (fun z u => ∃ (X1 : Nat → Int → Int → Int), u = (ad, cnt, X1, Y, ln) ∧ Rng X1 ∧ Frm [2602, 1300, 1400, 707] X X1 ∧ CInv cnt X1 Y ln ∧ (-1 ≤ z ∧ z ≤ 149) ∧ X1 7 g 6 ≤ X 7 g 6 + 1 ∧ z = (if nmAt (fun q => cRid Y (sg 3 q) (sg 4 q)) r (sg 2 0).toNat = -1 then sg 2 0 else nmAt (fun q => cRid Y (sg 3 q) (sg 4 q)) r (sg 2 0).toNat) ∧ rcR X1 Y ln g (if nmAt (fun q => cRid Y (sg 3 q) (sg 4 q)) r (sg 2 0).toNat = -1 then u2 (u2 (u2 sg 3 (sg 2 0) yy) 4 (sg 2 0) kk) 2 0 (sg 2 0 + 1) else sg) ∧ gK g X X1) := by
  refine K_of (cc := cX4_numberOf) (maxL := 3) (ret := (some .int)) (by decide) rfl (Nat.le_of_ble_eq_true rfl) ?_
  intro p e s m below meth c ls hx hb hr hml hown hts hlocks hl hK hw hS
  have hown : s.vm.findClass RX4 = some m.cls := hown
  obtain ⟨av9, hav9⟩ : ∃ a9 : Array Value, a9 = ([.ref (ad 7 g), .ref (ad 26 r)] : List Value).toArray := ⟨_, rfl⟩
  rw [← hav9] at hts ⊢
  obtain ⟨Q9, hQ9⟩ : ∃ q9Q : State → Prop, q9Q = MQ below (QI D tc base (fun z u => ∃ (X1 : Nat → Int → Int → Int), u = (ad, cnt, X1, Y, ln) ∧ Rng X1 ∧ Frm [2602, 1300, 1400, 707] X X1 ∧ CInv cnt X1 Y ln ∧ (-1 ≤ z ∧ z ≤ 149) ∧ X1 7 g 6 ≤ X 7 g 6 + 1 ∧ z = (if nmAt (fun q => cRid Y (sg 3 q) (sg 4 q)) r (sg 2 0).toNat = -1 then sg 2 0 else nmAt (fun q => cRid Y (sg 3 q) (sg 4 q)) r (sg 2 0).toNat) ∧ rcR X1 Y ln g (if nmAt (fun q => cRid Y (sg 3 q) (sg 4 q)) r (sg 2 0).toNat = -1 then u2 (u2 (u2 sg 3 (sg 2 0) yy) 4 (sg 2 0) kk) 2 0 (sg 2 0 + 1) else sg) ∧ gK g X X1)) av9 s 0 0 (frA base) := ⟨_, rfl⟩
  rw [← hQ9]
  have hi4 : ∀ w ∈ wsX40, w ∈ wsX4_numberOf := fun w h => List.mem_cons_of_mem _ (List.mem_append_right _ h)
  have hf4 : fctx s m _ RX4 wsX4_numberOf D tc RX4 TX4 9 4 := ⟨hts, hi4, hown, hK.1, rfl⟩
  have hi5 : ∀ w ∈ wsX50, w ∈ wsX4_numberOf := fun w h => List.mem_cons_of_mem _ (List.mem_append_left _ (List.mem_append_right _ h))
  have hf5 : fctx s m _ RX4 wsX4_numberOf D tc RX5 TX5 2 5 := ⟨hts, hi5, hown, hK.1, rfl⟩
  have lk28 := hts (.fieldLink RX4 28 (TX4 7).1 (TX4 7).2.1 (TX4 7).2.2.1) (gj_X4_numberOf_0 _ (gp_1 (gp_1 gp_h)))
  have lk31 := hts (.fieldLink RX4 31 (TX4 8).1 (TX4 8).2.1 (TX4 8).2.2.1) (gj_X4_numberOf_0 _ (gp_4 gp_h))
  have lk34 := hts (.fieldLink RX4 34 (TX5 1).1 (TX5 1).2.1 (TX5 1).2.2.1) (gj_X4_numberOf_0 _ (gp_h))
  have lk40 := hts (.fieldLink RX4 40 (TX4 6).1 (TX4 6).2.1 (TX4 6).2.2.1) (gj_X4_numberOf_0 _ (gp_1 gp_h))
  have lk43 := hts (.fieldLink RX4 43 (TX5 0).1 (TX5 0).2.1 (TX5 0).2.2.1) (gj_X4_numberOf_0 _ (gp_1 (gp_1 (gp_1 gp_h))))
  have hc7 : cnt 7 = 6 := hFx.at 7 6 (by decide)
  have hc13 : cnt 13 = 6 := hFx.at 13 6 (by decide)
  have hc14 : cnt 14 = 6 := hFx.at 14 6 (by decide)
  have hc27 : cnt 27 = cnt 26 := hFx.2.2
  have hl : lv_has ls 3 [(0, .ref (ad 7 g)), (1, .ref (ad 26 r))] := hl
  have ftc : 0 ≤ X 0 0 3 ∧ X 0 0 3 ≤ 30 := hR 0 0 3
  have fty : 0 ≤ X 0 0 1 ∧ X 0 0 1 ≤ 8 := hR 0 0 1
  have hct : cnt 19 = X 0 0 1 := hCI.2.2.2.1.1
  have hfj : 0 ≤ X 29 0 3 ∧ X 29 0 3 ≤ 4 := hR 29 0 3
  have hfn : 0 ≤ X 29 0 1 ∧ X 29 0 1 ≤ 80 := hR 29 0 1
  have hsg1 : X 7 g 6 = sg 2 0 := hsg.1
  have hsg0 : 0 ≤ X 7 g 6 ∧ X 7 g 6 ≤ 150 := hR 7 g 6
  refine lv_aload_n hx hb dX4_numberOf_0 rfl (lv_at hl 1 rfl) ?_
  refine x_geti (jz := 1) hx hb hf5 hw (by omega) (by omega) sl_26_1 rfl lk34 dX4_numberOf_1 ?_
  have f1 : (-1) ≤ X 26 r 1 ∧ X 26 r 1 ≤ 149 := hR 26 r 1
  refine lv_iconst (v := jI (-1)) hx hb dX4_numberOf_4 rfl ?_
  refine x_icmp_ne (tgt := 77) hx hb (by omega) (by omega) dX4_numberOf_5 (by decide) (fun c2 => ?_) (fun c2 => ?_)
  · refine lv_aload_n hx hb dX4_numberOf_77 rfl (lv_at hl 1 rfl) ?_
    refine x_geti (jz := 1) hx hb hf5 hw (by omega) (by omega) sl_26_1 rfl lk34 dX4_numberOf_78 ?_
    have f3 : (-1) ≤ X 26 r 1 ∧ X 26 r 1 ≤ 149 := hR 26 r 1
    rw [hQ9]
    refine ret_i (mc := 0) (ms := 0) hx hb hr hlocks hw hS (by first | exact Nat.le_of_ble_eq_true rfl | omega) (by first | exact Nat.le_of_ble_eq_true rfl | omega) dX4_numberOf_81 ?_
    have hnm4 : X 26 r 1 = nmAt (fun q => cRid Y (sg 3 q) (sg 4 q)) r (sg 2 0).toNat := hsg.2.2 yy kk r hyk.1 hyk.2.1 hyk.2.2.1 hyk.2.2.2.1 hyk.2.2.2.2
    exact ⟨X, rfl, hR, Frm.rf, hCI, by omega, by omega, (by rw [if_neg (by omega)]; omega), (by rw [if_neg (by omega)]; exact hsg), gK.rf⟩
  · refine lv_aload_n hx hb dX4_numberOf_8 rfl (lv_at hl 1 rfl) ?_
    refine lv_aload_n hx hb dX4_numberOf_9 rfl (lv_at hl 0 rfl) ?_
    refine x_geti (jz := 6) hx hb hf4 hw (by omega) (by omega) sl_7_6 rfl lk40 dX4_numberOf_10 ?_
    have f5 : 0 ≤ X 7 g 6 ∧ X 7 g 6 ≤ 150 := hR 7 g 6
    refine x_puti (jz := 1) hx hb hf5 ⟨tyX5_ok, nmX5⟩ hw hS (by omega) (by omega) sl_26_1 rfl lk34 rfl (tyX5_ok 1 (by decide)) rfl rfl dX4_numberOf_13 (fun H locs hw hS => ?_)
    obtain ⟨X6, hX6⟩ : ∃ Xq, Xq = u3 X 26 r 1 (X 7 g 6) := ⟨_, rfl⟩
    rw [← hX6] at hw
    have hRX6 : Rng X6 := by rw [hX6]; exact rng_set hR (show (-1) ≤ (X 7 g 6) ∧ (X 7 g 6) ≤ 149 by omega)
    have hVX6 : X6 26 r 1 = (X 7 g 6) := by rw [hX6]; exact u3_s _ _ _ _ _
    have hFX6 : Frm [2602, 1300, 1400, 707] X X6 := by rw [hX6]; exact Frm.set Frm.rf (show 2602 ∈ [2602, 1300, 1400, 707] by first | exact nlm_in rfl | decide)
    refine lv_aload_n hx hb dX4_numberOf_16 rfl (lv_at hl 0 rfl) ?_
    refine x_geto hx hb hf4 hw (by omega) (by omega) sl_7_7 lk28 dX4_numberOf_17 ?_
    refine lv_aload_n hx hb dX4_numberOf_20 rfl (lv_at hl 0 rfl) ?_
    refine x_geti (jz := 6) hx hb hf4 hw (by omega) (by omega) sl_7_6 rfl lk40 dX4_numberOf_21 ?_
    have e7 : X6 7 g 6 = X 7 g 6 := by rw [hX6, u3_k _ _ _ _ (by first | exact Nat.ne_of_beq_eq_false rfl | decide)]
    rw [e7]
    have f8 : 0 ≤ X 7 g 6 ∧ X 7 g 6 ≤ 150 := hR 7 g 6
    refine lv_aload_n hx hb dX4_numberOf_24 rfl (lv_at hl 1 rfl) ?_
    refine x_geto hx hb hf5 hw (by omega) (by omega) sl_26_0 lk43 dX4_numberOf_25 ?_
    have f9 : 0 ≤ ln r ∧ ln r ≤ 12 := hLn r
    refine x_alenl hx hb hK.1 hw (by omega) (by omega) ar_27 (show lenE ln 27 r = ln r from rfl) (by omega) dX4_numberOf_28 ?_
    refine x_iast hx hb hK.1 hw hS (by omega) (by omega) ar_13 (len_E ar_13 (by first | exact Nat.ne_of_beq_eq_false rfl | decide)) (by omega) (by omega) (by omega) dX4_numberOf_29 (fun H locs hw hS => ?_)
    obtain ⟨X10, hX10⟩ : ∃ Xq, Xq = u3 X6 13 g (X 7 g 6) (ln r) := ⟨_, rfl⟩
    rw [← hX10] at hw
    have hRX10 : Rng X10 := by rw [hX10]; exact rng_set hRX6 (show 0 ≤ (ln r) ∧ (ln r) ≤ 12 by omega)
    have hVX10 : X10 13 g (X 7 g 6) = (ln r) := by rw [hX10]; exact u3_s _ _ _ _ _
    have hFX10 : Frm [2602, 1300, 1400, 707] X X10 := by rw [hX10]; exact Frm.set hFX6 (show 1300 ∈ [2602, 1300, 1400, 707] by first | exact nlm_in rfl | decide)
    refine lv_iconst (v := jI 0) hx hb dX4_numberOf_30 rfl ?_
    refine lv_istore_n (lv' := [(2, .int (jI 0)), (0, .ref (ad 7 g)), (1, .ref (ad 26 r))]) hx hb dX4_numberOf_31 rfl hl (by decide) rfl (fun ls hl => ?_)
    have lp32 : ∀ (nn : Nat) (iz : Int) (Xa : Nat → Int → Int → Int) (H : Heap) (locs : List Loc) (ls : Array Slot), (12 - iz) < (nn : Int) → (Rng Xa) → (Frm [1400] X10 Xa) → (0 ≤ iz ∧ iz ≤ 12) → (∀ j, 0 ≤ j → j < iz → Xa 14 g (12 * X 7 g 6 + j) = X 27 r j) → (∀ p, p < 12 * X 7 g 6 → Xa 14 g p = X 14 g p) → (gK g X10 Xa) → wd D tc base (ad, cnt, Xa, Y, ln) H → va_S (frA base) s.heap H locs → lv_has ls 3 [(0, .ref (ad 7 g)), (1, .ref (ad 26 r)), (2, .int (jI iz))] → W p l e ({ frames := 0, cells := 0, slots := 0, locals := 0 } : Room) s m av9 below meth c H locs 0 0 Q9 (F0 m 32 ls []) := by
      intro nn
      induction nn with
      | zero => intro iz Xa H locs ls hm hRXa hGXa hiz hcp hcl9 hgkXa hw hS hl; exfalso; omega
      | succ nn ih32 =>
        intro iz Xa H locs ls hm hRXa hGXa hiz hcp hcl9 hgkXa hw hS hl
        have hFXa : Frm [2602, 1300, 1400, 707] X Xa := Frm.tr hFX10 (Frm.mono hGXa (by first | exact nls_of rfl | decide))
        refine lv_iload_n hx hb dX4_numberOf_32 rfl (lv_at hl 2 rfl) ?_
        refine lv_aload_n hx hb dX4_numberOf_33 rfl (lv_at hl 1 rfl) ?_
        refine x_geto hx hb hf5 hw (by omega) (by omega) sl_26_0 lk43 dX4_numberOf_34 ?_
        have f11 : 0 ≤ ln r ∧ ln r ≤ 12 := hLn r
        refine x_alenl hx hb hK.1 hw (by omega) (by omega) ar_27 (show lenE ln 27 r = ln r from rfl) (by omega) dX4_numberOf_37 ?_
        refine x_icmp_ge (tgt := 67) hx hb (by omega) (by omega) dX4_numberOf_38 (by decide) (fun c12 => ?_) (fun c12 => ?_)
        · refine lv_aload_n hx hb dX4_numberOf_67 rfl (lv_at hl 0 rfl) ?_
          refine lv_dup hx hb dX4_numberOf_68 rfl ?_
          refine x_geti (jz := 6) hx hb hf4 hw (by omega) (by omega) sl_7_6 rfl lk40 dX4_numberOf_69 ?_
          have e13 : Xa 7 g 6 = X 7 g 6 := by rw [hGXa 7 g 6 (show 707 ∉ [1400] by first | exact nlm_ni rfl | decide), hX10, u3_k _ _ _ _ (by first | exact Nat.ne_of_beq_eq_false rfl | decide), hX6, u3_k _ _ _ _ (by first | exact Nat.ne_of_beq_eq_false rfl | decide)]
          rw [e13]
          have f14 : 0 ≤ X 7 g 6 ∧ X 7 g 6 ≤ 150 := hR 7 g 6
          refine lv_iconst (v := jI 1) hx hb dX4_numberOf_72 rfl ?_
          refine x_iadd hx hb dX4_numberOf_73 ?_
          refine x_puti (jz := 6) hx hb hf4 ⟨tyX4_ok, nmX4⟩ hw hS (by omega) (by omega) sl_7_6 rfl lk40 rfl (tyX4_ok 6 (by decide)) rfl rfl dX4_numberOf_74 (fun H locs hw hS => ?_)
          obtain ⟨X15, hX15⟩ : ∃ Xq, Xq = u3 Xa 7 g 6 ((X 7 g 6) + 1) := ⟨_, rfl⟩
          rw [← hX15] at hw
          have hRX15 : Rng X15 := by rw [hX15]; exact rng_set hRXa (show 0 ≤ ((X 7 g 6) + 1) ∧ ((X 7 g 6) + 1) ≤ 150 by omega)
          have hVX15 : X15 7 g 6 = ((X 7 g 6) + 1) := by rw [hX15]; exact u3_s _ _ _ _ _
          have hFX15 : Frm [2602, 1300, 1400, 707] X X15 := by rw [hX15]; exact Frm.set hFXa (show 707 ∈ [2602, 1300, 1400, 707] by first | exact nlm_in rfl | decide)
          refine lv_aload_n hx hb dX4_numberOf_77 rfl (lv_at hl 1 rfl) ?_
          refine x_geti (jz := 1) hx hb hf5 hw (by omega) (by omega) sl_26_1 rfl lk34 dX4_numberOf_78 ?_
          have e16 : X15 26 r 1 = X6 26 r 1 := by rw [hX15, u3_k _ _ _ _ (by first | exact Nat.ne_of_beq_eq_false rfl | decide), hGXa 26 r 1 (show 2602 ∉ [1400] by first | exact nlm_ni rfl | decide), hX10, u3_k _ _ _ _ (by first | exact Nat.ne_of_beq_eq_false rfl | decide)]
          rw [e16]
          rw [hVX6]
          rw [hQ9]
          refine ret_i (mc := 0) (ms := 0) hx hb hr hlocks hw hS (by first | exact Nat.le_of_ble_eq_true rfl | omega) (by first | exact Nat.le_of_ble_eq_true rfl | omega) dX4_numberOf_81 ?_
          have q17 : Frm [707, 1300, 1400, 2602] X X6 := by rw [hX6]; exact Frm.set Frm.rf (show 2602 ∈ [707, 1300, 1400, 2602] by first | exact nlm_in rfl | decide)
          have q18 : Frm [707, 1300, 1400, 2602] X X10 := by rw [hX10]; exact Frm.set q17 (show 1300 ∈ [707, 1300, 1400, 2602] by first | exact nlm_in rfl | decide)
          have q19 : Frm [707, 1300, 1400, 2602] X Xa := Frm.tr q18 (Frm.mono hGXa (by first | exact nls_of rfl | decide))
          have q20 : Frm [707, 1300, 1400, 2602] X X15 := by rw [hX15]; exact Frm.set q19 (show 707 ∈ [707, 1300, 1400, 2602] by first | exact nlm_in rfl | decide)
          have hCq21 : CInv cnt X15 Y ln := cinv_frm (M := [707, 1300, 1400, 2602]) (N := []) hCI q20 Frm.rf (by decide) (by decide)
          have hnm22 : X 26 r 1 = nmAt (fun q => cRid Y (sg 3 q) (sg 4 q)) r (sg 2 0).toNat := hsg.2.2 yy kk r hyk.1 hyk.2.1 hyk.2.2.1 hyk.2.2.2.1 hyk.2.2.2.2
          have q23 : Frm [707, 1300, 1400, 2602] X X6 := by rw [hX6]; exact Frm.set Frm.rf (show 2602 ∈ [707, 1300, 1400, 2602] by first | exact nlm_in rfl | decide)
          have q24 : Frm [707, 1300, 1400, 2602] X X10 := by rw [hX10]; exact Frm.set q23 (show 1300 ∈ [707, 1300, 1400, 2602] by first | exact nlm_in rfl | decide)
          have q25 : Frm [707, 1300, 1400, 2602] X Xa := Frm.tr q24 (Frm.mono hGXa (by first | exact nls_of rfl | decide))
          have q26 : Frm [707, 1300, 1400, 2602] X X15 := by rw [hX15]; exact Frm.set q25 (show 707 ∈ [707, 1300, 1400, 2602] by first | exact nlm_in rfl | decide)
          have q27 : gK g X X6 := by rw [hX6]; exact gK.set gK.rf (fun _ => by first | rfl | omega)
          have q28 : gK g X X10 := by rw [hX10]; exact gK.set q27 (fun _ => by first | rfl | omega)
          have q29 : gK g X Xa := gK.tr q28 hgkXa
          have q30 : gK g X X15 := by rw [hX15]; exact gK.set q29 (fun _ => by first | rfl | omega)
          refine ⟨X15, rfl, hRX15, hFX15, hCq21, ?g9p733, ?g9p734, ?g9p735, ?g9p736, q30⟩
          case g9p733 => omega
          case g9p734 => rw [hVX15]; omega
          case g9p735 => rw [if_pos (by omega)]; omega
          case g9p736 => rw [if_pos (by omega)]; exact rcR.push (y := yy) (k := kk) (w := r) hsg (by omega) (fun i => (hR 13 g i).2) hyk.2.2.2.2 (by omega) hVX15 (by rw [hX15, u3_k _ _ _ _ (by first | exact Nat.ne_of_beq_eq_false rfl | decide), hGXa 0 0 3 (show 4 ∉ [1400] by first | exact nlm_ni rfl | decide), hX10, u3_k _ _ _ _ (by first | exact Nat.ne_of_beq_eq_false rfl | decide), hX6, u3_k _ _ _ _ (by first | exact Nat.ne_of_beq_eq_false rfl | decide)]) (by rw [hX15, u3_k _ _ _ _ (by first | exact Nat.ne_of_beq_eq_false rfl | decide), hGXa 26 r 1 (show 2602 ∉ [1400] by first | exact nlm_ni rfl | decide), hX10, u3_k _ _ _ _ (by first | exact Nat.ne_of_beq_eq_false rfl | decide)]; exact hVX6) (fun i hi => (by rw [hX15, u3_k _ _ _ _ (by first | exact Nat.ne_of_beq_eq_false rfl | decide), hGXa 26 i 1 (show 2602 ∉ [1400] by first | exact nlm_ni rfl | decide), hX10, u3_k _ _ _ _ (by first | exact Nat.ne_of_beq_eq_false rfl | decide), hX6, u3_ij (by omega)])) (by rw [hX15, u3_k _ _ _ _ (by first | exact Nat.ne_of_beq_eq_false rfl | decide), hGXa 13 g (X 7 g 6) (show 1300 ∉ [1400] by first | exact nlm_ni rfl | decide)]; exact hVX10) (fun i hi => (by rw [hX15, u3_k _ _ _ _ (by first | exact Nat.ne_of_beq_eq_false rfl | decide), hGXa 13 g i (show 1300 ∉ [1400] by first | exact nlm_ni rfl | decide), hX10, u3_ij (by omega), hX6, u3_k _ _ _ _ (by first | exact Nat.ne_of_beq_eq_false rfl | decide)])) (fun j a b => (by rw [hX15, u3_k _ _ _ _ (by first | exact Nat.ne_of_beq_eq_false rfl | decide)]; exact hcp j a (by omega))) (fun p hp9 => (by rw [hX15, u3_k _ _ _ _ (by first | exact Nat.ne_of_beq_eq_false rfl | decide)]; exact hcl9 p hp9)) (fun i j => (by rw [hX15, u3_k _ _ _ _ (by first | exact Nat.ne_of_beq_eq_false rfl | decide), hGXa 27 i j (show 2700 ∉ [1400] by first | exact nlm_ni rfl | decide), hX10, u3_k _ _ _ _ (by first | exact Nat.ne_of_beq_eq_false rfl | decide), hX6, u3_k _ _ _ _ (by first | exact Nat.ne_of_beq_eq_false rfl | decide)])) (fun i => (by rw [hX15, u3_k _ _ _ _ (by first | exact Nat.ne_of_beq_eq_false rfl | decide), hGXa 19 i 1 (show 1902 ∉ [1400] by first | exact nlm_ni rfl | decide), hX10, u3_k _ _ _ _ (by first | exact Nat.ne_of_beq_eq_false rfl | decide), hX6, u3_k _ _ _ _ (by first | exact Nat.ne_of_beq_eq_false rfl | decide)])) (fun i => rfl) (fun i j => rfl)
        · refine lv_aload_n hx hb dX4_numberOf_41 rfl (lv_at hl 0 rfl) ?_
          refine x_geto hx hb hf4 hw (by omega) (by omega) sl_7_8 lk31 dX4_numberOf_42 ?_
          refine lv_aload_n hx hb dX4_numberOf_45 rfl (lv_at hl 0 rfl) ?_
          refine x_geti (jz := 6) hx hb hf4 hw (by omega) (by omega) sl_7_6 rfl lk40 dX4_numberOf_46 ?_
          have e31 : Xa 7 g 6 = X 7 g 6 := by rw [hGXa 7 g 6 (show 707 ∉ [1400] by first | exact nlm_ni rfl | decide), hX10, u3_k _ _ _ _ (by first | exact Nat.ne_of_beq_eq_false rfl | decide), hX6, u3_k _ _ _ _ (by first | exact Nat.ne_of_beq_eq_false rfl | decide)]
          rw [e31]
          have f32 : 0 ≤ X 7 g 6 ∧ X 7 g 6 ≤ 150 := hR 7 g 6
          refine lv_bipush (v := jI 12) hx hb dX4_numberOf_49 (by decide) ?_
          refine x_imul hx hb dX4_numberOf_51 ?_
          refine lv_iload_n hx hb dX4_numberOf_52 rfl (lv_at hl 2 rfl) ?_
          refine x_iadd hx hb dX4_numberOf_53 ?_
          refine lv_aload_n hx hb dX4_numberOf_54 rfl (lv_at hl 1 rfl) ?_
          refine x_geto hx hb hf5 hw (by omega) (by omega) sl_26_0 lk43 dX4_numberOf_55 ?_
          refine lv_iload_n hx hb dX4_numberOf_58 rfl (lv_at hl 2 rfl) ?_
          have f33 : 0 ≤ ln r ∧ ln r ≤ 12 := hLn r
          refine x_lald hx hb hK.1 hw (by omega) (by omega) ar_27 (show lenE ln 27 r = ln r from rfl) (by omega) (by omega) (by omega) dX4_numberOf_59 ?_
          have e34 : ∀ p9 q9 : Int, Xa 27 p9 q9 = X 27 p9 q9 := fun p9 q9 => by rw [hGXa 27 p9 q9 (show 2700 ∉ [1400] by first | exact nlm_ni rfl | decide), hX10, u3_k _ _ _ _ (by first | exact Nat.ne_of_beq_eq_false rfl | decide), hX6, u3_k _ _ _ _ (by first | exact Nat.ne_of_beq_eq_false rfl | decide)]
          rw [e34 r iz]
          have f35 : (-9223372036854775808) ≤ X 27 r iz ∧ X 27 r iz ≤ 9223372036854775807 := hR 27 r iz
          refine x_last hx hb hK.1 hw hS (by omega) (by omega) ar_14 (len_E ar_14 (by first | exact Nat.ne_of_beq_eq_false rfl | decide)) (by omega) (by omega) (by omega) dX4_numberOf_60 (fun H locs hw hS => ?_)
          obtain ⟨X36, hX36⟩ : ∃ Xq, Xq = u3 Xa 14 g (((X 7 g 6) * 12) + iz) (X 27 r iz) := ⟨_, rfl⟩
          rw [← hX36] at hw
          have hRX36 : Rng X36 := by rw [hX36]; exact rng_set hRXa (show (-9223372036854775808) ≤ (X 27 r iz) ∧ (X 27 r iz) ≤ 9223372036854775807 by omega)
          have hVX36 : X36 14 g (((X 7 g 6) * 12) + iz) = (X 27 r iz) := by rw [hX36]; exact u3_s _ _ _ _ _
          have hFX36 : Frm [2602, 1300, 1400, 707] X X36 := by rw [hX36]; exact Frm.set hFXa (show 1400 ∈ [2602, 1300, 1400, 707] by first | exact nlm_in rfl | decide)
          refine lv_iinc (v := jI (iz + 1)) (lv' := [(2, .int (jI (iz + 1))), (0, .ref (ad 7 g)), (1, .ref (ad 26 r))]) hx hb dX4_numberOf_61 hl (k := 2) rfl (jI_add _ _) (by decide) rfl (fun ls hl => ?_)
          refine lv_goto (tgt := 32) hx hb dX4_numberOf_64 (by decide) ?_
          have q37 : Frm [1400] X10 Xa := Frm.tr Frm.rf (Frm.mono hGXa (by first | exact nls_of rfl | decide))
          have q38 : Frm [1400] X10 X36 := by rw [hX36]; exact Frm.set q37 (show 1400 ∈ [1400] by first | exact nlm_in rfl | decide)
          have q39 : gK g X10 Xa := gK.tr gK.rf hgkXa
          have q40 : gK g X10 X36 := by rw [hX36]; exact gK.set q39 (fun _ => by first | rfl | omega)
          exact ih32 (iz + 1) X36 _ _ _ (by omega) hRX36 q38 (by omega) (fun j a b => if hj : j = iz then (by rw [hj, show 12 * X 7 g 6 + iz = X 7 g 6 * 12 + iz by omega]; exact hVX36) else (by rw [hX36, u3_ij (by omega)]; exact hcp j a (by omega))) (fun p hp9 => (by rw [hX36, u3_ij (by omega)]; exact hcl9 p hp9)) (q40) hw hS (lv_sub hl [1, 2, 0] rfl)
    exact lp32 (12 - 0 : Int).toNat.succ 0 X10 _ _ _ (by omega) hRX10 Frm.rf (by omega) (fun j a b => by omega) (fun p _ => (by rw [hX10, u3_k _ _ _ _ (by first | exact Nat.ne_of_beq_eq_false rfl | decide), hX6, u3_k _ _ _ _ (by first | exact Nat.ne_of_beq_eq_false rfl | decide)])) (gK.rf) hw hS (lv_sub hl [1, 2, 0] rfl)

set_option maxHeartbeats 4000000 in
set_option maxRecDepth 100000 in
theorem c_X8_recordedValue (l : Launch) (D : va_G) (tc : Nat → ClassId) (base : Nat) (ad : Nat → Int → Nat) (cnt : Nat → Int) (X : Nat → Int → Int → Int) (Y : Nat → Int → Int → Option Int) (ln : Int → Int) (hR : Rng X) (hFx : Fx cnt) (hLn : LnOK ln) (hCI : CInv cnt X Y ln) (x k g : Int) (hx0 : 0 ≤ x ∧ x ≤ 29) (hxt : x < X 0 0 3) (hk0 : 0 ≤ k ∧ k ≤ 4) (hg : 0 ≤ g ∧ g < 6) (hO : rcOK X Y g) (hrc : X 7 g 6 ≤ 149) (sg : Nat → Int → Int) (hst : rcT X Y g sg) (hsr : rcR X Y ln g sg) (p9 : Int) (hkf : k < cFc X Y x) : KL l D tc base yX8_recordedValue wsX8_recordedValue ({ frames := 1, cells := 0, slots := 0, locals := 22 } : Room) [.ref (ad 0 0), .ref (ad 15 x), .int (jI k), .ref (ad 7 g)] (ad, cnt, X, Y, ln) 0 0 (fun z u => ∃ (X1 : Nat → Int → Int → Int) (Y1 : Nat → Int → Int → Option Int), u = (ad, cnt, X1, Y1, ln) ∧ Rng X1 ∧ Frm [701, 707, 800, 900, 1300, 1400, 1504, 2602] X X1 ∧ Frm [500] Y Y1 ∧ CInv cnt X1 Y1 ln ∧ (-9223372036854775808 ≤ z ∧ z ≤ 9223372036854775807) ∧ rcOK X1 Y1 g ∧ X 7 g 0 ≤ X1 7 g 0 ∧ X1 7 g 6 ≤ X 7 g 6 + 1 ∧ (∀ t, Y 15 x 0 = some t → 2 ≤ X 21 t k → -1 ≤ z ∧ z ≤ 149) ∧ cStp (cLa X Y) (cVl X Y) (cRid Y) x k p9 X1 Y1 ln g sg z ∧ gK g X X1) := by
  refine K_of (cc := cX8_recordedValue) (maxL := 6) (ret := (some .long)) (by decide) rfl (Nat.le_of_ble_eq_true rfl) ?_
  intro p e s m below meth c ls hx hb hr hml hown hts hlocks hl hK hw hS
  have hown : s.vm.findClass RX8 = some m.cls := hown
  obtain ⟨av9, hav9⟩ : ∃ a9 : Array Value, a9 = ([.ref (ad 0 0), .ref (ad 15 x), .int (jI k), .ref (ad 7 g)] : List Value).toArray := ⟨_, rfl⟩
  rw [← hav9] at hts ⊢
  obtain ⟨Q9, hQ9⟩ : ∃ q9Q : State → Prop, q9Q = MQ below (QL D tc base (fun z u => ∃ (X1 : Nat → Int → Int → Int) (Y1 : Nat → Int → Int → Option Int), u = (ad, cnt, X1, Y1, ln) ∧ Rng X1 ∧ Frm [701, 707, 800, 900, 1300, 1400, 1504, 2602] X X1 ∧ Frm [500] Y Y1 ∧ CInv cnt X1 Y1 ln ∧ (-9223372036854775808 ≤ z ∧ z ≤ 9223372036854775807) ∧ rcOK X1 Y1 g ∧ X 7 g 0 ≤ X1 7 g 0 ∧ X1 7 g 6 ≤ X 7 g 6 + 1 ∧ (∀ t, Y 15 x 0 = some t → 2 ≤ X 21 t k → -1 ≤ z ∧ z ≤ 149) ∧ cStp (cLa X Y) (cVl X Y) (cRid Y) x k p9 X1 Y1 ln g sg z ∧ gK g X X1)) av9 s 0 0 (frA base) := ⟨_, rfl⟩
  rw [← hQ9]
  have hi6 : ∀ w ∈ wsX60, w ∈ wsX8_recordedValue := fun w h => List.mem_cons_of_mem _ (List.mem_append_left _ (List.mem_append_left _ (List.mem_append_left _ (List.mem_append_left _ (List.mem_append_right _ h)))))
  have hf6 : fctx s m _ RX8 wsX8_recordedValue D tc RX6 TX6 4 6 := ⟨hts, hi6, hown, hK.1, rfl⟩
  have hi7 : ∀ w ∈ wsX70, w ∈ wsX8_recordedValue := fun w h => List.mem_cons_of_mem _ (List.mem_append_left _ (List.mem_append_left _ (List.mem_append_left _ (List.mem_append_right _ h))))
  have hf7 : fctx s m _ RX8 wsX8_recordedValue D tc RX7 TX7 8 7 := ⟨hts, hi7, hown, hK.1, rfl⟩
  have lk97 := hts (.fieldLink RX8 97 (TX6 0).1 (TX6 0).2.1 (TX6 0).2.2.1) (gj_X8_recordedValue_0 _ (gp_h))
  have lk135 := hts (.fieldLink RX8 135 (TX7 3).1 (TX7 3).2.1 (TX7 3).2.2.1) (gj_X8_recordedValue_0 _ (gp_1 gp_h))
  have lk158 := hts (.fieldLink RX8 158 (TX6 2).1 (TX6 2).2.1 (TX6 2).2.2.1) (gj_X8_recordedValue_0 _ (gp_1 (gp_1 gp_h)))
  have lk193 := hts (.fieldLink RX8 193 (TX6 1).1 (TX6 1).2.1 (TX6 1).2.2.1) (gj_X8_recordedValue_0 _ (gp_4 gp_h))
  have hc0 : cnt 0 = 1 := hFx.at 0 1 (by decide)
  have hc7 : cnt 7 = 6 := hFx.at 7 6 (by decide)
  have hc15 : cnt 15 = 30 := hFx.at 15 30 (by decide)
  have hc16 : cnt 16 = 30 := hFx.at 16 30 (by decide)
  have hc17 : cnt 17 = 30 := hFx.at 17 30 (by decide)
  have hc21 : cnt 21 = cnt 19 := hFx.2.1 21 (by decide)
  have hl : lv_has ls 6 [(0, .ref (ad 0 0)), (1, .ref (ad 15 x)), (2, .int (jI k)), (3, .ref (ad 7 g))] := hl
  have ftc : 0 ≤ X 0 0 3 ∧ X 0 0 3 ≤ 30 := hR 0 0 3
  have fty : 0 ≤ X 0 0 1 ∧ X 0 0 1 ≤ 8 := hR 0 0 1
  have hct : cnt 19 = X 0 0 1 := hCI.2.2.2.1.1
  have hfj : 0 ≤ X 29 0 3 ∧ X 29 0 3 ≤ 4 := hR 29 0 3
  have hfn : 0 ≤ X 29 0 1 ∧ X 29 0 1 ≤ 80 := hR 29 0 1
  skip
  refine lv_aload_n hx hb dX8_recordedValue_0 rfl (lv_at hl 1 rfl) ?_
  refine x_getr (jz := 0) hx hb hf6 hw (by omega) (by omega) sl_15_0 rfl lk97 dX8_recordedValue_1 (fun y1 => ?_) (fun r2 y1 gr2 lr2 => ?_)
  · exfalso
    exact absurd y1 (hCI.2.2.2.2.1 x (by omega) (by omega))
  · refine x_geto hx hb hf7 hw (by omega) (by omega) sl_19_3 lk135 dX8_recordedValue_4 ?_
    refine lv_iload_n hx hb dX8_recordedValue_7 rfl (lv_at hl 2 rfl) ?_
    refine x_iald hx hb hK.1 hw (by omega) (by omega) ar_21 (len_E ar_21 (by first | exact Nat.ne_of_beq_eq_false rfl | decide)) (by omega) (by omega) (by omega) dX8_recordedValue_8 ?_
    have f3 : 0 ≤ X 21 r2 k ∧ X 21 r2 k ≤ 5 := hR 21 r2 k
    refine lv_istore (lv' := [(4, .int (jI (X 21 r2 k))), (0, .ref (ad 0 0)), (1, .ref (ad 15 x)), (2, .int (jI k)), (3, .ref (ad 7 g))]) hx hb dX8_recordedValue_9 hl (by decide) rfl (fun ls hl => ?_)
    refine lv_iload hx hb dX8_recordedValue_11 (lv_at hl 0 rfl) ?_
    refine gos_i (run_S (As := [.int (jI (X 21 r2 k))]) (rest := []) hx hb hml hown hts (c_X8_isRowLane l D tc base ad cnt X Y ln (X 21 r2 k) (by omega)) (cwS 1 hts gX8_recordedValue_X8_isRowLane rfl rfl rfl (by first | exact hd_X8_isRowLane | decide +kernel) ⟨Nat.le_of_ble_eq_true rfl, Nat.le_of_ble_eq_true rfl⟩) hK hw rfl hl.1 rfl (Nat.le_of_ble_eq_true rfl) dX8_recordedValue_13 ⟨Nat.le_of_ble_eq_true rfl, Nat.le_of_ble_eq_true rfl⟩) hS (fun z4 u5 H locs p6 hw hS => ?_)
    obtain ⟨eu5, p6⟩ := p6
    subst eu5
    rcases p6 with ⟨ez4, p6⟩ | ⟨ez4, p6⟩
    · subst ez4
      refine x_if_eqF (tgt := 46) hx hb (by omega) (by decide) dX8_recordedValue_16 (by decide) ?_
      refine lv_aload_n hx hb dX8_recordedValue_19 rfl (lv_at hl 2 rfl) ?_
      refine x_geto hx hb hf6 hw (by omega) (by omega) sl_15_2 lk158 dX8_recordedValue_20 ?_
      refine lv_iload_n hx hb dX8_recordedValue_23 rfl (lv_at hl 3 rfl) ?_
      refine x_aald hx hb hK.1 hw (by omega) (by omega) ar_17 rfl (len_E ar_17 (by first | exact Nat.ne_of_beq_eq_false rfl | decide)) (by omega) (by omega) (by omega) dX8_recordedValue_24 (fun y7 => ?_) (fun r8 y7 gr8 lr8 => ?_)
      · refine lv_ifnonnullN hx hb dX8_recordedValue_25 ?_
        refine lv_ldc2 (v := jL (-1)) hx hb hown (hts (.constantLong RX8 88 (-1)) (by first | exact gj_X8_recordedValue_0 _ (gp_1 (gp_1 (gp_1 gp_h))) | decide +kernel)) dX8_recordedValue_28 ?_
        refine lv_goto (tgt := 45) hx hb dX8_recordedValue_31 (by decide) ?_
        rw [hQ9]
        refine ret_l (mc := 0) (ms := 0) hx hb hr hlocks hw hS (by first | exact Nat.le_of_ble_eq_true rfl | omega) (by first | exact Nat.le_of_ble_eq_true rfl | omega) dX8_recordedValue_45 ?_
        have hla10 : cLa X Y x k = X 21 r2 k := by unfold cLa; rw [tyo_some y1]
        have hst9 : cStp (cLa X Y) (cVl X Y) (cRid Y) x k p9 X Y ln g sg (-1) := cStp_v hst hsr (recP_3n (by rw [hla10]; omega) (by unfold cRid; rw [y7]; decide))
        exact ⟨X, Y, rfl, hR, Frm.rf, Frm.rf, hCI, by omega, hO, (by omega), (by omega), fun t9 ht hl9 => by rw [y1] at ht; cases ht; (try simp only [Hid] at *); omega, hst9, gK.rf⟩
      · refine lv_ifnonnull (tgt := 34) hx hb dX8_recordedValue_25 (by decide) ?_
        refine lv_aload_n hx hb dX8_recordedValue_34 rfl (lv_at hl 4 rfl) ?_
        refine lv_aload_n hx hb dX8_recordedValue_35 rfl (lv_at hl 2 rfl) ?_
        refine x_geto hx hb hf6 hw (by omega) (by omega) sl_15_2 lk158 dX8_recordedValue_36 ?_
        refine lv_iload_n hx hb dX8_recordedValue_39 rfl (lv_at hl 3 rfl) ?_
        refine x_aald hx hb hK.1 hw (by omega) (by omega) ar_17 rfl (len_E ar_17 (by first | exact Nat.ne_of_beq_eq_false rfl | decide)) (by omega) (by omega) (by omega) dX8_recordedValue_40 (fun y11 => ?_) (fun r12 y11 gr12 lr12 => ?_)
        · exfalso
          rw [y7] at y11; cases y11
        · have er12 : r12 = r8 := by rw [y7] at y11; cases y11; rfl
          rw [er12]
          refine gos_i (run_V (As := [.ref (ad 26 r8)]) (rest := []) hx hb hml hown hts (c_X4_numberOf l D tc base ad cnt X Y ln hR hFx hLn hCI g r8 (by omega) (by omega) (by omega) (sg) hsr x k ⟨by omega, (by first | omega | (simp only [Int.add_zero]; omega)), by omega, hkf, y7⟩) (cwV 1 hts gX8_recordedValue_X4_numberOf rfl rfl rfl (by first | exact hd_X4_numberOf | decide +kernel) ⟨Nat.le_of_ble_eq_true rfl, Nat.le_of_ble_eq_true rfl⟩) hK hw (by first | exact Int.le_refl 0 | omega) (by first | exact zlt hc7 | omega) sl_7_0 rfl rfl hl.1 rfl (Nat.le_of_ble_eq_true rfl) dX8_recordedValue_41 ⟨Nat.le_of_ble_eq_true rfl, Nat.le_of_ble_eq_true rfl⟩) hS (fun z13 u14 H locs p15 hw hS => ?_)
          obtain ⟨X16, eu14, hRX16, hG17, hCIX16, p15, hnrX16, hzrX16, hRrX16, hgkX16⟩ := p15
          subst eu14
          have hFX16 : Frm [701, 707, 800, 900, 1300, 1400, 1504, 2602] X X16 := Frm.tr Frm.rf (Frm.mono hG17 (by first | exact nls_of rfl | decide))
          refine x_i2l hx hb (by omega) dX8_recordedValue_44 ?_
          rw [hQ9]
          refine ret_l (mc := 0) (ms := 0) hx hb hr hlocks hw hS (by first | exact Nat.le_of_ble_eq_true rfl | omega) (by first | exact Nat.le_of_ble_eq_true rfl | omega) dX8_recordedValue_45 ?_
          have q18 : Frm [707, 1300, 1400, 2602] X X16 := Frm.tr Frm.rf (Frm.mono hG17 (by first | exact nls_of rfl | decide))
          have hO19 : rcOK X16 Y g := rcOK.frm (M := [707, 1300, 1400, 2602]) (N := []) hO q18 Frm.rf (by decide) (by decide)
          have e20 : X16 7 g 0 = X 7 g 0 := by rw [hG17 7 g 0 (show 701 ∉ [2602, 1300, 1400, 707] by first | exact nlm_ni rfl | decide)]
          have hla22 : cLa X Y x k = X 21 r2 k := by unfold cLa; rw [tyo_some y1]
          have q23 : Frm [707, 1300, 1400, 2602] X X16 := Frm.tr Frm.rf (Frm.mono hG17 (by first | exact nls_of rfl | decide))
          have hT24 : rcT X16 Y g (sg) := rcT.frm (M := [707, 1300, 1400, 2602]) (N := []) hst q23 Frm.rf (by decide) (by decide)
          have hri25 : cRid Y x k = r8 := tyo_some y7
          have hst21 : cStp (cLa X Y) (cVl X Y) (cRid Y) x k p9 X16 Y ln g sg z13 := (by have h8 := hRrX16; have h9 := hzrX16; exact cStp_r (by rw [hla22]; (try delta Hid at *); omega) (by rw [hri25]; omega) hT24 (by rw [hri25]; exact h8) (by rw [hri25]; exact h9))
          have q26 : gK g X X16 := gK.tr gK.rf hgkX16
          exact ⟨X16, Y, rfl, hRX16, hFX16, Frm.rf, hCIX16, by omega, hO19, (by first | omega | (simp only [e20]; omega)), (by omega), fun t9 ht hl9 => by rw [y1] at ht; cases ht; (try simp only [Hid] at *); omega, hst21, q26⟩
    · subst ez4
      refine x_if_eqT (tgt := 46) hx hb (by omega) (by decide) dX8_recordedValue_16 (by decide) ?_
      refine lv_iload hx hb dX8_recordedValue_46 (lv_at hl 0 rfl) ?_
      refine lv_iconst (v := jI 2) hx hb dX8_recordedValue_48 rfl ?_
      refine x_icmp_ne (tgt := 84) hx hb (by omega) (by omega) dX8_recordedValue_49 (by decide) (fun c27 => ?_) (fun c27 => ?_)
      · refine lv_aload_n hx hb dX8_recordedValue_84 rfl (lv_at hl 2 rfl) ?_
        refine x_geto hx hb hf6 hw (by omega) (by omega) sl_15_1 lk193 dX8_recordedValue_85 ?_
        refine lv_iload_n hx hb dX8_recordedValue_88 rfl (lv_at hl 3 rfl) ?_
        refine x_lald hx hb hK.1 hw (by omega) (by omega) ar_16 (len_E ar_16 (by first | exact Nat.ne_of_beq_eq_false rfl | decide)) (by omega) (by omega) (by omega) dX8_recordedValue_89 ?_
        have f28 : (-9223372036854775808) ≤ X 16 x k ∧ X 16 x k ≤ 9223372036854775807 := hR 16 x k
        rw [hQ9]
        refine ret_l (mc := 0) (ms := 0) hx hb hr hlocks hw hS (by first | exact Nat.le_of_ble_eq_true rfl | omega) (by first | exact Nat.le_of_ble_eq_true rfl | omega) dX8_recordedValue_90 ?_
        have hla30 : cLa X Y x k = X 21 r2 k := by unfold cLa; rw [tyo_some y1]
        have hst29 : cStp (cLa X Y) (cVl X Y) (cRid Y) x k p9 X Y ln g sg (X 16 x k) := cStp_v hst hsr (by rw [recP_1 (by rw [hla30]; (try delta Hid at *); omega)]; unfold cVl; rw [if_neg (by rw [hla30]; (try delta Hid at *); omega)])
        exact ⟨X, Y, rfl, hR, Frm.rf, Frm.rf, hCI, by omega, hO, (by omega), (by omega), fun t9 ht hl9 => by rw [y1] at ht; cases ht; (try simp only [Hid] at *); omega, hst29, gK.rf⟩
      · refine lv_aload_n hx hb dX8_recordedValue_52 rfl (lv_at hl 1 rfl) ?_
        refine lv_aload_n hx hb dX8_recordedValue_53 rfl (lv_at hl 2 rfl) ?_
        refine x_geto hx hb hf6 hw (by omega) (by omega) sl_15_1 lk193 dX8_recordedValue_54 ?_
        refine lv_iload_n hx hb dX8_recordedValue_57 rfl (lv_at hl 3 rfl) ?_
        refine x_lald hx hb hK.1 hw (by omega) (by omega) ar_16 (len_E ar_16 (by first | exact Nat.ne_of_beq_eq_false rfl | decide)) (by omega) (by omega) (by omega) dX8_recordedValue_58 ?_
        have f31 : (-9223372036854775808) ≤ X 16 x k ∧ X 16 x k ≤ 9223372036854775807 := hR 16 x k
        refine gos_r (run_V (As := [.long (jL (X 16 x k))]) (rest := []) hx hb hml hown hts (c_X8_thingNumbered l D tc base ad cnt X Y ln hR hFx hLn hCI (X 16 x k) (by omega)) (cwV 1 hts gX8_recordedValue_X8_thingNumbered rfl rfl rfl (by first | exact hd_X8_thingNumbered | decide +kernel) ⟨Nat.le_of_ble_eq_true rfl, Nat.le_of_ble_eq_true rfl⟩) hK hw (by first | exact Int.le_refl 0 | omega) (by first | exact zlt hc0 | omega) sl_0_0 rfl rfl hl.1 rfl (Nat.le_of_ble_eq_true rfl) dX8_recordedValue_59 ⟨Nat.le_of_ble_eq_true rfl, Nat.le_of_ble_eq_true rfl⟩) hS (fun u33 H locs p34 hw hS => ?_) (fun z32 u33 H locs p34 hw hS => ?_)
        · obtain ⟨eu33, hsp34, hnp34⟩ := p34
          subst eu33
          refine lv_astoreN (lv' := [(5, .null), (4, .int (jI (X 21 r2 k))), (0, .ref (ad 0 0)), (1, .ref (ad 15 x)), (2, .int (jI k)), (3, .ref (ad 7 g))]) hx hb dX8_recordedValue_62 hl (by decide) rfl (fun ls hl => ?_)
          refine lv_aloadN hx hb dX8_recordedValue_64 (lv_at hl 0 rfl) ?_
          refine lv_ifnonnullN hx hb dX8_recordedValue_66 ?_
          refine lv_ldc2 (v := jL (-1)) hx hb hown (hts (.constantLong RX8 88 (-1)) (by first | exact gj_X8_recordedValue_0 _ (gp_1 (gp_1 (gp_1 gp_h))) | decide +kernel)) dX8_recordedValue_69 ?_
          refine lv_goto (tgt := 83) hx hb dX8_recordedValue_72 (by decide) ?_
          rw [hQ9]
          refine ret_l (mc := 0) (ms := 0) hx hb hr hlocks hw hS (by first | exact Nat.le_of_ble_eq_true rfl | omega) (by first | exact Nat.le_of_ble_eq_true rfl | omega) dX8_recordedValue_83 ?_
          have hla36 : cLa X Y x k = X 21 r2 k := by unfold cLa; rw [tyo_some y1]
          have hst35 : cStp (cLa X Y) (cVl X Y) (cRid Y) x k p9 X Y ln g sg (-1) := cStp_v hst hsr (recP_2n (by rw [hla36]; omega) (by unfold cVl; rw [if_pos (by rw [hla36]; omega), if_neg (show ¬ (0 ≤ X 16 x k ∧ X 16 x k < X 0 0 3) from hnp34 rfl)]; decide))
          exact ⟨X, Y, rfl, hR, Frm.rf, Frm.rf, hCI, by omega, hO, (by omega), (by omega), fun t9 ht hl9 => by rw [y1] at ht; cases ht; (try simp only [Hid] at *); omega, hst35, gK.rf⟩
        · obtain ⟨eu33, hsp34, hnp34⟩ := p34
          subst eu33
          obtain ⟨ezz32, p34⟩ := hsp34 z32 rfl
          refine lv_astore (lv' := [(5, .ref (ad 15 z32)), (4, .int (jI (X 21 r2 k))), (0, .ref (ad 0 0)), (1, .ref (ad 15 x)), (2, .int (jI k)), (3, .ref (ad 7 g))]) hx hb dX8_recordedValue_62 hl (by decide) rfl (fun ls hl => ?_)
          refine lv_aload hx hb dX8_recordedValue_64 (lv_at hl 0 rfl) ?_
          refine lv_ifnonnull (tgt := 75) hx hb dX8_recordedValue_66 (by decide) ?_
          refine lv_aload_n hx hb dX8_recordedValue_75 rfl (lv_at hl 2 rfl) ?_
          refine lv_aload hx hb dX8_recordedValue_76 (lv_at hl 0 rfl) ?_
          refine lv_aload_n hx hb dX8_recordedValue_78 rfl (lv_at hl 5 rfl) ?_
          refine gos_i (run_V (As := [.ref (ad 15 z32), .ref (ad 7 g)]) (rest := []) hx hb hml hown hts (c_X8_recordNumberOf l D tc base ad cnt X Y ln hR hFx hLn hCI z32 g (by omega) (by omega) (by omega) hO (sg) hst) (cwV 2 hts gX8_recordedValue_X8_recordNumberOf rfl rfl rfl (by first | exact hd_X8_recordNumberOf | decide +kernel) ⟨Nat.le_of_ble_eq_true rfl, Nat.le_of_ble_eq_true rfl⟩) hK hw (by first | exact Int.le_refl 0 | omega) (by first | exact zlt hc0 | omega) sl_0_0 rfl rfl hl.1 rfl (Nat.le_of_ble_eq_true rfl) dX8_recordedValue_79 ⟨Nat.le_of_ble_eq_true rfl, Nat.le_of_ble_eq_true rfl⟩) hS (fun z37 u38 H locs p39 hw hS => ?_)
          obtain ⟨X40, Y41, eu38, hRX40, hG42, hJ43, hCIX40, p39, hOX40, hleX40, hzrX40, hTrX40, hgkX40⟩ := p39
          subst eu38
          have hFX40 : Frm [701, 707, 800, 900, 1300, 1400, 1504, 2602] X X40 := Frm.tr Frm.rf (Frm.mono hG42 (by first | exact nls_of rfl | decide))
          have hHY41 : Frm [500] Y Y41 := Frm.tr Frm.rf (Frm.mono hJ43 (by first | exact nls_of rfl | decide))
          refine x_i2l hx hb (by omega) dX8_recordedValue_82 ?_
          rw [hQ9]
          refine ret_l (mc := 0) (ms := 0) hx hb hr hlocks hw hS (by first | exact Nat.le_of_ble_eq_true rfl | omega) (by first | exact Nat.le_of_ble_eq_true rfl | omega) dX8_recordedValue_83 ?_
          have e44 : X40 7 g 6 = X 7 g 6 := by rw [hG42 7 g 6 (show 707 ∉ [1504, 701, 800, 900] by first | exact nlm_ni rfl | decide)]
          have hla46 : cLa X Y x k = X 21 r2 k := by unfold cLa; rw [tyo_some y1]
          have q47 : Frm [701, 800, 900, 1504] X X40 := Frm.tr Frm.rf (Frm.mono hG42 (by first | exact nls_of rfl | decide))
          have q48 : Frm [500] Y Y41 := Frm.tr Frm.rf (Frm.mono hJ43 (by first | exact nls_of rfl | decide))
          have hR949 : rcR X40 Y41 ln g (sg) := rcR.frm (M := [701, 800, 900, 1504]) (N := [500]) hsr q47 q48 (by decide) (by decide)
          have hvl50 : cVl X Y x k = X 16 x k := by unfold cVl; rw [if_pos (by rw [hla46]; omega), if_pos ⟨by omega, by omega⟩]
          have hst45 : cStp (cLa X Y) (cVl X Y) (cRid Y) x k p9 X40 Y41 ln g sg z37 := (by have h8 := hTrX40; have h9 := hzrX40; rw [ezz32] at h8 h9; exact cStp_t (by rw [hla46]; omega) (by rw [hvl50]; omega) (by rw [hvl50]; exact h8) hR949 (by rw [hvl50]; exact h9))
          have q51 : gK g X X40 := gK.tr gK.rf hgkX40
          exact ⟨X40, Y41, rfl, hRX40, hFX40, hHY41, hCIX40, by omega, hOX40, (by omega), (by first | omega | (simp only [e44]; omega)), fun t9 ht hl9 => by rw [y1] at ht; cases ht; (try simp only [Hid] at *); omega, hst45, q51⟩

set_option maxHeartbeats 4000000 in
set_option maxRecDepth 100000 in
theorem c_X8_recordFields (l : Launch) (D : va_G) (tc : Nat → ClassId) (base : Nat) (ad : Nat → Int → Nat) (cnt : Nat → Int) (X : Nat → Int → Int → Int) (Y : Nat → Int → Int → Option Int) (ln : Int → Int) (hR : Rng X) (hFx : Fx cnt) (hLn : LnOK ln) (hCI : CInv cnt X Y ln) (x r g : Int) (hx0 : 0 ≤ x ∧ x ≤ 29) (hxt : x < X 0 0 3) (hr0 : 0 ≤ r ∧ r ≤ 29) (hg : 0 ≤ g ∧ g < 6) (hO : rcOK X Y g) (hrc : X 7 g 6 ≤ 5 * r) (hRv : cRv X) (sg : Nat → Int → Int) (hst : rcT X Y g sg) (hsr : rcR X Y ln g sg) (hsv : rcV X Y g sg r 0) (hxr : sg 1 r = x) (hrs : r < sg 0 0) : KV l D tc base yX8_recordFields wsX8_recordFields ({ frames := 2, cells := 0, slots := 0, locals := 47 } : Room) [.ref (ad 0 0), .ref (ad 15 x), .int (jI r), .ref (ad 7 g)] (ad, cnt, X, Y, ln) 0 0 (fun u => ∃ (X1 : Nat → Int → Int → Int) (Y1 : Nat → Int → Int → Option Int), u = (ad, cnt, X1, Y1, ln) ∧ Rng X1 ∧ Frm [701, 707, 800, 900, 1000, 1100, 1200, 1300, 1400, 1504, 2602] X X1 ∧ Frm [500] Y Y1 ∧ CInv cnt X1 Y1 ln ∧ (0 : Int) ≤ 0 ∧ rcOK X1 Y1 g ∧ X 7 g 0 ≤ X1 7 g 0 ∧ X1 7 g 6 ≤ 5 * r + 5 ∧ cRv X1 ∧ rcT X1 Y1 g (recK (cLa X Y) (cVl X Y) (cRid Y) sg r (cFc X Y x).toNat) ∧ rcR X1 Y1 ln g (recK (cLa X Y) (cVl X Y) (cRid Y) sg r (cFc X Y x).toNat) ∧ rcV X1 Y1 g (recK (cLa X Y) (cVl X Y) (cRid Y) sg r (cFc X Y x).toNat) (r + 1) 0 ∧ gK g X X1) := by
  refine K_of (cc := cX8_recordFields) (maxL := 6) (ret := none) (by decide) rfl (Nat.le_of_ble_eq_true rfl) ?_
  intro p e s m below meth c ls hx hb hr hml hown hts hlocks hl hK hw hS
  have hown : s.vm.findClass RX8 = some m.cls := hown
  obtain ⟨av9, hav9⟩ : ∃ a9 : Array Value, a9 = ([.ref (ad 0 0), .ref (ad 15 x), .int (jI r), .ref (ad 7 g)] : List Value).toArray := ⟨_, rfl⟩
  rw [← hav9] at hts ⊢
  obtain ⟨Q9, hQ9⟩ : ∃ q9Q : State → Prop, q9Q = MQ below (QV D tc base (fun u => ∃ (X1 : Nat → Int → Int → Int) (Y1 : Nat → Int → Int → Option Int), u = (ad, cnt, X1, Y1, ln) ∧ Rng X1 ∧ Frm [701, 707, 800, 900, 1000, 1100, 1200, 1300, 1400, 1504, 2602] X X1 ∧ Frm [500] Y Y1 ∧ CInv cnt X1 Y1 ln ∧ (0 : Int) ≤ 0 ∧ rcOK X1 Y1 g ∧ X 7 g 0 ≤ X1 7 g 0 ∧ X1 7 g 6 ≤ 5 * r + 5 ∧ cRv X1 ∧ rcT X1 Y1 g (recK (cLa X Y) (cVl X Y) (cRid Y) sg r (cFc X Y x).toNat) ∧ rcR X1 Y1 ln g (recK (cLa X Y) (cVl X Y) (cRid Y) sg r (cFc X Y x).toNat) ∧ rcV X1 Y1 g (recK (cLa X Y) (cVl X Y) (cRid Y) sg r (cFc X Y x).toNat) (r + 1) 0 ∧ gK g X X1)) av9 s 0 0 (frA base) := ⟨_, rfl⟩
  rw [← hQ9]
  have hi4 : ∀ w ∈ wsX40, w ∈ wsX8_recordFields := fun w h => List.mem_cons_of_mem _ (List.mem_append_left _ (List.mem_append_left _ (List.mem_append_right _ h)))
  have hf4 : fctx s m _ RX8 wsX8_recordFields D tc RX4 TX4 9 4 := ⟨hts, hi4, hown, hK.1, rfl⟩
  have hi6 : ∀ w ∈ wsX60, w ∈ wsX8_recordFields := fun w h => List.mem_cons_of_mem _ (List.mem_append_left _ (List.mem_append_left _ (List.mem_append_left _ (List.mem_append_left _ (List.mem_append_right _ h)))))
  have hf6 : fctx s m _ RX8 wsX8_recordFields D tc RX6 TX6 4 6 := ⟨hts, hi6, hown, hK.1, rfl⟩
  have hi7 : ∀ w ∈ wsX70, w ∈ wsX8_recordFields := fun w h => List.mem_cons_of_mem _ (List.mem_append_left _ (List.mem_append_left _ (List.mem_append_left _ (List.mem_append_right _ h))))
  have hf7 : fctx s m _ RX8 wsX8_recordFields D tc RX7 TX7 8 7 := ⟨hts, hi7, hown, hK.1, rfl⟩
  have lk85 := hts (.fieldLink RX8 85 (TX7 1).1 (TX7 1).2.1 (TX7 1).2.2.1) (gj_X8_recordFields_0 _ (gp_1 gp_h))
  have lk97 := hts (.fieldLink RX8 97 (TX6 0).1 (TX6 0).2.1 (TX6 0).2.2.1) (gj_X8_recordFields_0 _ (gp_h))
  have lk135 := hts (.fieldLink RX8 135 (TX7 3).1 (TX7 3).2.1 (TX7 3).2.2.1) (gj_X8_recordFields_0 _ (gp_4 (gp_1 gp_h)))
  have lk224 := hts (.fieldLink RX8 224 (TX4 3).1 (TX4 3).2.1 (TX4 3).2.2.1) (gj_X8_recordFields_0 _ (gp_1 (gp_1 gp_h)))
  have lk320 := hts (.fieldLink RX8 320 (TX7 2).1 (TX7 2).2.1 (TX7 2).2.2.1) (gj_X8_recordFields_0 _ (gp_1 (gp_1 (gp_1 gp_h))))
  have lk341 := hts (.fieldLink RX8 341 (TX4 4).1 (TX4 4).2.1 (TX4 4).2.2.1) (gj_X8_recordFields_0 _ (gp_4 gp_h))
  have lk342 := hts (.fieldLink RX8 342 (TX4 5).1 (TX4 5).2.1 (TX4 5).2.2.1) (gj_X8_recordFields_0 _ (gp_4 (gp_1 (gp_1 gp_h))))
  have hc0 : cnt 0 = 1 := hFx.at 0 1 (by decide)
  have hc7 : cnt 7 = 6 := hFx.at 7 6 (by decide)
  have hc10 : cnt 10 = 6 := hFx.at 10 6 (by decide)
  have hc11 : cnt 11 = 6 := hFx.at 11 6 (by decide)
  have hc12 : cnt 12 = 6 := hFx.at 12 6 (by decide)
  have hc15 : cnt 15 = 30 := hFx.at 15 30 (by decide)
  have hc20 : cnt 20 = cnt 19 := hFx.2.1 20 (by decide)
  have hc21 : cnt 21 = cnt 19 := hFx.2.1 21 (by decide)
  have hl : lv_has ls 6 [(0, .ref (ad 0 0)), (1, .ref (ad 15 x)), (2, .int (jI r)), (3, .ref (ad 7 g))] := hl
  have ftc : 0 ≤ X 0 0 3 ∧ X 0 0 3 ≤ 30 := hR 0 0 3
  have fty : 0 ≤ X 0 0 1 ∧ X 0 0 1 ≤ 8 := hR 0 0 1
  have hct : cnt 19 = X 0 0 1 := hCI.2.2.2.1.1
  have hfj : 0 ≤ X 29 0 3 ∧ X 29 0 3 ≤ 4 := hR 29 0 3
  have hfn : 0 ≤ X 29 0 1 ∧ X 29 0 1 ≤ 80 := hR 29 0 1
  refine lv_iconst (v := jI 0) hx hb dX8_recordFields_0 rfl ?_
  refine lv_istore (lv' := [(4, .int (jI 0)), (0, .ref (ad 0 0)), (1, .ref (ad 15 x)), (2, .int (jI r)), (3, .ref (ad 7 g))]) hx hb dX8_recordFields_1 hl (by decide) rfl (fun ls hl => ?_)
  have lp3 : ∀ (nn : Nat) (k : Int) (Xa : Nat → Int → Int → Int) (Ya : Nat → Int → Int → Option Int) (H : Heap) (locs : List Loc) (ls : Array Slot), (5 - k) < (nn : Int) → (Rng Xa) → (Frm [701, 707, 800, 900, 1000, 1100, 1200, 1300, 1400, 1504, 2602] X Xa) → (Frm [500] Y Ya) → (0 ≤ k ∧ k ≤ 5) → (CInv cnt Xa Ya ln) → (rcOK Xa Ya g) → (X 7 g 0 ≤ Xa 7 g 0) → (Xa 7 g 6 ≤ 5 * r + k) → (cRv Xa) → (rcT Xa Ya g (recK (cLa X Y) (cVl X Y) (cRid Y) sg r k.toNat)) → (rcR Xa Ya ln g (recK (cLa X Y) (cVl X Y) (cRid Y) sg r k.toNat)) → (rcV Xa Ya g (recK (cLa X Y) (cVl X Y) (cRid Y) sg r k.toNat) r k) → (gK g X Xa) → (k ≤ cFc X Y x) → wd D tc base (ad, cnt, Xa, Ya, ln) H → va_S (frA base) s.heap H locs → lv_has ls 6 [(0, .ref (ad 0 0)), (1, .ref (ad 15 x)), (2, .int (jI r)), (3, .ref (ad 7 g)), (4, .int (jI k))] → W p l e ({ frames := 2, cells := 0, slots := 0, locals := 47 } : Room) s m av9 below meth c H locs 0 0 Q9 (F0 m 3 ls []) := by
    intro nn
    induction nn with
    | zero => intro k Xa Ya H locs ls hm hRXa hGXa hGYa hk hCIXa hOa hla hna hRa hTa hRr9 hVa hgkXa hkf hw hS hl; exfalso; omega
    | succ nn ih3 =>
      intro k Xa Ya H locs ls hm hRXa hGXa hGYa hk hCIXa hOa hla hna hRa hTa hRr9 hVa hgkXa hkf hw hS hl
      have hHYa : Frm [500] Y Ya := Frm.tr Frm.rf (Frm.mono hGYa (by first | exact nls_of rfl | decide))
      have hFXa : Frm [701, 707, 800, 900, 1000, 1100, 1200, 1300, 1400, 1504, 2602] X Xa := Frm.tr Frm.rf (Frm.mono hGXa (by first | exact nls_of rfl | decide))
      have hTa1 : Xa 7 g 0 = recK (cLa X Y) (cVl X Y) (cRid Y) sg r k.toNat 0 0 := hTa.1
      have hmm := recK_m (la := cLa X Y) (vl := cVl X Y) (rid := cRid Y) (s := sg) (r := r) k.toNat
      refine lv_iload hx hb dX8_recordFields_3 (lv_at hl 4 rfl) ?_
      refine lv_aload_n hx hb dX8_recordFields_5 rfl (lv_at hl 1 rfl) ?_
      refine x_getr (jz := 0) hx hb hf6 hw (by omega) (by omega) sl_15_0 rfl lk97 dX8_recordFields_6 (fun y1 => ?_) (fun r2 y1 gr2 lr2 => ?_)
      · exfalso
        have e3 : Ya 15 x 0 = Y 15 x 0 := by rw [hGYa 15 x 0 (show 1501 ∉ [500] by first | exact nlm_ni rfl | decide)]
        rw [e3] at y1
        exact absurd y1 (hCI.2.2.2.2.1 x (by omega) (by omega))
      · have e4 : Ya 15 x 0 = Y 15 x 0 := by rw [hGYa 15 x 0 (show 1501 ∉ [500] by first | exact nlm_ni rfl | decide)]
        rw [e4] at y1
        refine x_geti (jz := 1) hx hb hf7 hw (by omega) (by omega) sl_19_1 rfl lk85 dX8_recordFields_9 ?_
        have e5 : Xa 19 r2 1 = X 19 r2 1 := by rw [hGXa 19 r2 1 (show 1902 ∉ [701, 707, 800, 900, 1000, 1100, 1200, 1300, 1400, 1504, 2602] by first | exact nlm_ni rfl | decide)]
        rw [e5]
        have f6 : 0 ≤ X 19 r2 1 ∧ X 19 r2 1 ≤ 5 := hR 19 r2 1
        refine x_icmp_ge (tgt := 78) hx hb (by omega) (by omega) dX8_recordFields_12 (by decide) (fun c7 => ?_) (fun c7 => ?_)
        · rw [hQ9]
          refine ret_v (mc := 0) (ms := 0) hx hb hr hlocks hw hS (by first | exact Nat.le_of_ble_eq_true rfl | omega) (by first | exact Nat.le_of_ble_eq_true rfl | omega) dX8_recordFields_78 ?_
          have hke8 : cFc X Y x = k := by have h9 := hkf; unfold cFc at *; rw [tyo_some y1] at *; omega
          have q9 : Frm [701, 707, 800, 900, 1000, 1100, 1200, 1300, 1400, 1504, 2602] X Xa := Frm.tr Frm.rf (Frm.mono hGXa (by first | exact nls_of rfl | decide))
          have q10 : Frm [500] Y Ya := Frm.tr Frm.rf (Frm.mono hGYa (by first | exact nls_of rfl | decide))
          have q11 : gK g X Xa := gK.tr gK.rf hgkXa
          exact ⟨Xa, Ya, rfl, hRXa, hFXa, hHYa, hCIXa, by omega, hOa, hla, (by omega), hRa, (by rw [hke8]; exact hTa), (by rw [hke8]; exact hRr9), (by rw [hke8]; exact rcV.next (by rw [show cFc Xa Ya (recK (cLa X Y) (cVl X Y) (cRid Y) sg r k.toNat 1 r) = k by (rw [recK_o _ ⟨by omega, by omega⟩, hxr, cFc.frm (M := [701, 707, 800, 900, 1000, 1100, 1200, 1300, 1400, 1504, 2602]) (N := [500]) q9 q10 (by decide) (by decide)]; exact hke8)]; exact hVa)), q11⟩
        · refine lv_iload_n hx hb dX8_recordFields_15 rfl (lv_at hl 2 rfl) ?_
          refine lv_iconst (v := jI 5) hx hb dX8_recordFields_16 rfl ?_
          refine x_imul hx hb dX8_recordFields_17 ?_
          refine lv_iload hx hb dX8_recordFields_18 (lv_at hl 4 rfl) ?_
          refine x_iadd hx hb dX8_recordFields_20 ?_
          refine lv_istore (lv' := [(5, .int (jI ((r * 5) + k))), (0, .ref (ad 0 0)), (1, .ref (ad 15 x)), (2, .int (jI r)), (3, .ref (ad 7 g)), (4, .int (jI k))]) hx hb dX8_recordFields_21 hl (by decide) rfl (fun ls hl => ?_)
          refine lv_aload_n hx hb dX8_recordFields_23 rfl (lv_at hl 4 rfl) ?_
          refine x_geto hx hb hf4 hw (by omega) (by omega) sl_7_3 lk224 dX8_recordFields_24 ?_
          refine lv_iload hx hb dX8_recordFields_27 (lv_at hl 0 rfl) ?_
          refine lv_aload_n hx hb dX8_recordFields_29 rfl (lv_at hl 2 rfl) ?_
          refine x_getr (jz := 0) hx hb hf6 hw (by omega) (by omega) sl_15_0 rfl lk97 dX8_recordFields_30 (fun y12 => ?_) (fun r13 y12 gr13 lr13 => ?_)
          · exfalso
            have e14 : Ya 15 x 0 = Y 15 x 0 := by rw [hGYa 15 x 0 (show 1501 ∉ [500] by first | exact nlm_ni rfl | decide)]
            rw [e14] at y12
            rw [y1] at y12; cases y12
          · have e15 : Ya 15 x 0 = Y 15 x 0 := by rw [hGYa 15 x 0 (show 1501 ∉ [500] by first | exact nlm_ni rfl | decide)]
            rw [e15] at y12
            have er13 : r13 = r2 := by rw [y1] at y12; cases y12; rfl
            rw [er13]
            refine x_geto hx hb hf7 hw (by omega) (by omega) sl_19_2 lk320 dX8_recordFields_33 ?_
            refine lv_iload hx hb dX8_recordFields_36 (lv_at hl 5 rfl) ?_
            refine x_iald hx hb hK.1 hw (by omega) (by omega) ar_20 (len_E ar_20 (by first | exact Nat.ne_of_beq_eq_false rfl | decide)) (by omega) (by omega) (by omega) dX8_recordFields_38 ?_
            have e16 : ∀ p9 q9 : Int, Xa 20 p9 q9 = X 20 p9 q9 := fun p9 q9 => by rw [hGXa 20 p9 q9 (show 2000 ∉ [701, 707, 800, 900, 1000, 1100, 1200, 1300, 1400, 1504, 2602] by first | exact nlm_ni rfl | decide)]
            rw [e16 r2 k]
            have f17 : 0 ≤ X 20 r2 k ∧ X 20 r2 k ≤ 19 := hR 20 r2 k
            refine x_iast hx hb hK.1 hw hS (by omega) (by omega) ar_10 (len_E ar_10 (by first | exact Nat.ne_of_beq_eq_false rfl | decide)) (by omega) (by omega) (by omega) dX8_recordFields_39 (fun H locs hw hS => ?_)
            obtain ⟨X18, hX18⟩ : ∃ Xq, Xq = u3 Xa 10 g ((r * 5) + k) (X 20 r2 k) := ⟨_, rfl⟩
            rw [← hX18] at hw
            have hRX18 : Rng X18 := by rw [hX18]; exact rng_set hRXa (show 0 ≤ (X 20 r2 k) ∧ (X 20 r2 k) ≤ 19 by omega)
            have hVX18 : X18 10 g ((r * 5) + k) = (X 20 r2 k) := by rw [hX18]; exact u3_s _ _ _ _ _
            have hFX18 : Frm [701, 707, 800, 900, 1000, 1100, 1200, 1300, 1400, 1504, 2602] X X18 := by rw [hX18]; exact Frm.set hFXa (show 1000 ∈ [701, 707, 800, 900, 1000, 1100, 1200, 1300, 1400, 1504, 2602] by first | exact nlm_in rfl | decide)
            refine lv_aload_n hx hb dX8_recordFields_40 rfl (lv_at hl 4 rfl) ?_
            refine x_geto hx hb hf4 hw (by omega) (by omega) sl_7_4 lk341 dX8_recordFields_41 ?_
            refine lv_iload hx hb dX8_recordFields_44 (lv_at hl 0 rfl) ?_
            refine lv_aload_n hx hb dX8_recordFields_46 rfl (lv_at hl 2 rfl) ?_
            refine x_getr (jz := 0) hx hb hf6 hw (by omega) (by omega) sl_15_0 rfl lk97 dX8_recordFields_47 (fun y19 => ?_) (fun r20 y19 gr20 lr20 => ?_)
            · exfalso
              have e21 : Ya 15 x 0 = Y 15 x 0 := by rw [hGYa 15 x 0 (show 1501 ∉ [500] by first | exact nlm_ni rfl | decide)]
              rw [e21] at y19
              rw [y1] at y19; cases y19
            · have e22 : Ya 15 x 0 = Y 15 x 0 := by rw [hGYa 15 x 0 (show 1501 ∉ [500] by first | exact nlm_ni rfl | decide)]
              rw [e22] at y19
              have er20 : r20 = r2 := by rw [y1] at y19; cases y19; rfl
              rw [er20]
              refine x_geto hx hb hf7 hw (by omega) (by omega) sl_19_3 lk135 dX8_recordFields_50 ?_
              refine lv_iload hx hb dX8_recordFields_53 (lv_at hl 5 rfl) ?_
              refine x_iald hx hb hK.1 hw (by omega) (by omega) ar_21 (len_E ar_21 (by first | exact Nat.ne_of_beq_eq_false rfl | decide)) (by omega) (by omega) (by omega) dX8_recordFields_55 ?_
              have e23 : ∀ p9 q9 : Int, X18 21 p9 q9 = X 21 p9 q9 := fun p9 q9 => by rw [hX18, u3_k _ _ _ _ (by first | exact Nat.ne_of_beq_eq_false rfl | decide), hGXa 21 p9 q9 (show 2100 ∉ [701, 707, 800, 900, 1000, 1100, 1200, 1300, 1400, 1504, 2602] by first | exact nlm_ni rfl | decide)]
              rw [e23 r2 k]
              have f24 : 0 ≤ X 21 r2 k ∧ X 21 r2 k ≤ 5 := hR 21 r2 k
              refine x_iast hx hb hK.1 hw hS (by omega) (by omega) ar_11 (len_E ar_11 (by first | exact Nat.ne_of_beq_eq_false rfl | decide)) (by omega) (by omega) (by omega) dX8_recordFields_56 (fun H locs hw hS => ?_)
              obtain ⟨X25, hX25⟩ : ∃ Xq, Xq = u3 X18 11 g ((r * 5) + k) (X 21 r2 k) := ⟨_, rfl⟩
              rw [← hX25] at hw
              have hRX25 : Rng X25 := by rw [hX25]; exact rng_set hRX18 (show 0 ≤ (X 21 r2 k) ∧ (X 21 r2 k) ≤ 5 by omega)
              have hVX25 : X25 11 g ((r * 5) + k) = (X 21 r2 k) := by rw [hX25]; exact u3_s _ _ _ _ _
              have hFX25 : Frm [701, 707, 800, 900, 1000, 1100, 1200, 1300, 1400, 1504, 2602] X X25 := by rw [hX25]; exact Frm.set hFX18 (show 1100 ∈ [701, 707, 800, 900, 1000, 1100, 1200, 1300, 1400, 1504, 2602] by first | exact nlm_in rfl | decide)
              refine lv_aload_n hx hb dX8_recordFields_57 rfl (lv_at hl 4 rfl) ?_
              refine x_geto hx hb hf4 hw (by omega) (by omega) sl_7_5 lk342 dX8_recordFields_58 ?_
              refine lv_iload hx hb dX8_recordFields_61 (lv_at hl 0 rfl) ?_
              refine lv_aload_n hx hb dX8_recordFields_63 rfl (lv_at hl 1 rfl) ?_
              refine lv_aload_n hx hb dX8_recordFields_64 rfl (lv_at hl 2 rfl) ?_
              refine lv_iload hx hb dX8_recordFields_65 (lv_at hl 5 rfl) ?_
              refine lv_aload_n hx hb dX8_recordFields_67 rfl (lv_at hl 4 rfl) ?_
              have q26 : Frm [1000, 1100] Xa X18 := by rw [hX18]; exact Frm.set Frm.rf (show 1000 ∈ [1000, 1100] by first | exact nlm_in rfl | decide)
              have q27 : Frm [1000, 1100] Xa X25 := by rw [hX25]; exact Frm.set q26 (show 1100 ∈ [1000, 1100] by first | exact nlm_in rfl | decide)
              have hO28 : rcOK X25 Ya g := rcOK.frm (M := [1000, 1100]) (N := []) hOa q27 Frm.rf (by decide) (by decide)
              have e29 : X25 7 g 6 = Xa 7 g 6 := by rw [hX25, u3_k _ _ _ _ (by first | exact Nat.ne_of_beq_eq_false rfl | decide), hX18, u3_k _ _ _ _ (by first | exact Nat.ne_of_beq_eq_false rfl | decide)]
              have e30 : X25 7 g 0 = Xa 7 g 0 := by rw [hX25, u3_k _ _ _ _ (by first | exact Nat.ne_of_beq_eq_false rfl | decide), hX18, u3_k _ _ _ _ (by first | exact Nat.ne_of_beq_eq_false rfl | decide)]
              have q31 : Frm [1000, 1100] Xa X18 := by rw [hX18]; exact Frm.set Frm.rf (show 1000 ∈ [1000, 1100] by first | exact nlm_in rfl | decide)
              have q32 : Frm [1000, 1100] Xa X25 := by rw [hX25]; exact Frm.set q31 (show 1100 ∈ [1000, 1100] by first | exact nlm_in rfl | decide)
              have hCq33 : CInv cnt X25 Ya ln := cinv_frm (M := [1000, 1100]) (N := []) hCIXa q32 Frm.rf (by decide) (by decide)
              have q34 : Frm [1000, 1100] Xa X18 := by rw [hX18]; exact Frm.set Frm.rf (show 1000 ∈ [1000, 1100] by first | exact nlm_in rfl | decide)
              have q35 : Frm [1000, 1100] Xa X25 := by rw [hX25]; exact Frm.set q34 (show 1100 ∈ [1000, 1100] by first | exact nlm_in rfl | decide)
              have hT36 : rcT X25 Ya g (recK (cLa X Y) (cVl X Y) (cRid Y) sg r k.toNat) := rcT.frm (M := [1000, 1100]) (N := []) hTa q35 Frm.rf (by decide) (by decide)
              have q37 : Frm [1000, 1100] Xa X18 := by rw [hX18]; exact Frm.set Frm.rf (show 1000 ∈ [1000, 1100] by first | exact nlm_in rfl | decide)
              have q38 : Frm [1000, 1100] Xa X25 := by rw [hX25]; exact Frm.set q37 (show 1100 ∈ [1000, 1100] by first | exact nlm_in rfl | decide)
              have hR939 : rcR X25 Ya ln g (recK (cLa X Y) (cVl X Y) (cRid Y) sg r k.toNat) := rcR.frm (M := [1000, 1100]) (N := []) hRr9 q38 Frm.rf (by decide) (by decide)
              have q40 : Frm [701, 707, 800, 900, 1000, 1100, 1200, 1300, 1400, 1504, 2602] X Xa := Frm.tr Frm.rf (Frm.mono hGXa (by first | exact nls_of rfl | decide))
              have q41 : Frm [701, 707, 800, 900, 1000, 1100, 1200, 1300, 1400, 1504, 2602] X X18 := by rw [hX18]; exact Frm.set q40 (show 1000 ∈ [701, 707, 800, 900, 1000, 1100, 1200, 1300, 1400, 1504, 2602] by first | exact nlm_in rfl | decide)
              have q42 : Frm [701, 707, 800, 900, 1000, 1100, 1200, 1300, 1400, 1504, 2602] X X25 := by rw [hX25]; exact Frm.set q41 (show 1100 ∈ [701, 707, 800, 900, 1000, 1100, 1200, 1300, 1400, 1504, 2602] by first | exact nlm_in rfl | decide)
              have q43 : Frm [500] Y Ya := Frm.tr Frm.rf (Frm.mono hGYa (by first | exact nls_of rfl | decide))
              have hfe44 : cFc X25 Ya = cFc X Y := cFc.frm (M := [701, 707, 800, 900, 1000, 1100, 1200, 1300, 1400, 1504, 2602]) (N := [500]) q42 q43 (by decide) (by decide)
              have hre45 : cLa X25 Ya = cLa X Y ∧ cVl X25 Ya = cVl X Y ∧ cRid Ya = cRid Y := ⟨cLa.frm (M := [701, 707, 800, 900, 1000, 1100, 1200, 1300, 1400, 1504, 2602]) (N := [500]) q42 q43 (by decide) (by decide), cVl.frm (M := [701, 707, 800, 900, 1000, 1100, 1200, 1300, 1400, 1504, 2602]) (N := [500]) q42 q43 (by decide) (by decide), cRid.frm (N := [500]) q43 (by decide)⟩
              have e46 : X25 0 0 3 = X 0 0 3 := by rw [hX25, u3_k _ _ _ _ (by first | exact Nat.ne_of_beq_eq_false rfl | decide), hX18, u3_k _ _ _ _ (by first | exact Nat.ne_of_beq_eq_false rfl | decide), hGXa 0 0 3 (show 4 ∉ [701, 707, 800, 900, 1000, 1100, 1200, 1300, 1400, 1504, 2602] by first | exact nlm_ni rfl | decide)]
              refine gos_l (run_V (As := [.ref (ad 15 x), .int (jI k), .ref (ad 7 g)]) (rest := [.int (jI ((r * 5) + k)), .ref (ad 12 g)]) hx hb hml hown hts (c_X8_recordedValue l D tc base ad cnt X25 Ya ln hRX25 hFx hLn hCq33 x k g (by omega) (by simp only [e46]; omega) (by omega) (by omega) hO28 (by simp only [e29]; omega) (recK (cLa X Y) (cVl X Y) (cRid Y) sg r k.toNat) hT36 hR939 (5 * r + k) (by rw [hfe44]; unfold cFc; rw [tyo_some y1]; omega)) (cwV 3 hts gX8_recordFields_X8_recordedValue rfl rfl rfl (by first | exact hd_X8_recordedValue | decide +kernel) ⟨Nat.le_of_ble_eq_true rfl, Nat.le_of_ble_eq_true rfl⟩) hK hw (by first | exact Int.le_refl 0 | omega) (by first | exact zlt hc0 | omega) sl_0_0 rfl rfl hl.1 rfl (Nat.le_of_ble_eq_true rfl) dX8_recordFields_68 ⟨Nat.le_of_ble_eq_true rfl, Nat.le_of_ble_eq_true rfl⟩) hS (fun z47 u48 H locs p49 hw hS => ?_)
              obtain ⟨X50, Y51, eu48, hRX50, hG52, hJ53, hCIX50, p49, hOX50, hleX50, hnrX50, htvX50, hcsX50, hgkX50⟩ := p49
              subst eu48
              have hFX50 : Frm [701, 707, 800, 900, 1000, 1100, 1200, 1300, 1400, 1504, 2602] X X50 := Frm.tr hFX25 (Frm.mono hG52 (by first | exact nls_of rfl | decide))
              have hHY51 : Frm [500] Y Y51 := Frm.tr hHYa (Frm.mono hJ53 (by first | exact nls_of rfl | decide))
              rw [e30] at hleX50
              rw [e29] at hnrX50
              rw [hre45.1, hre45.2.1, hre45.2.2] at hcsX50
              refine x_last hx hb hK.1 hw hS (by omega) (by omega) ar_12 (len_E ar_12 (by first | exact Nat.ne_of_beq_eq_false rfl | decide)) (by omega) (by omega) (by omega) dX8_recordFields_71 (fun H locs hw hS => ?_)
              obtain ⟨X54, hX54⟩ : ∃ Xq, Xq = u3 X50 12 g ((r * 5) + k) z47 := ⟨_, rfl⟩
              rw [← hX54] at hw
              have hRX54 : Rng X54 := by rw [hX54]; exact rng_set hRX50 (show (-9223372036854775808) ≤ z47 ∧ z47 ≤ 9223372036854775807 by omega)
              have hVX54 : X54 12 g ((r * 5) + k) = z47 := by rw [hX54]; exact u3_s _ _ _ _ _
              have hFX54 : Frm [701, 707, 800, 900, 1000, 1100, 1200, 1300, 1400, 1504, 2602] X X54 := by rw [hX54]; exact Frm.set hFX50 (show 1200 ∈ [701, 707, 800, 900, 1000, 1100, 1200, 1300, 1400, 1504, 2602] by first | exact nlm_in rfl | decide)
              refine lv_iinc (v := jI (k + 1)) (lv' := [(4, .int (jI (k + 1))), (5, .int (jI ((r * 5) + k))), (0, .ref (ad 0 0)), (1, .ref (ad 15 x)), (2, .int (jI r)), (3, .ref (ad 7 g))]) hx hb dX8_recordFields_72 hl (k := 5) rfl (jI_add _ _) (by decide) rfl (fun ls hl => ?_)
              refine lv_goto (tgt := 3) hx hb dX8_recordFields_75 (by decide) ?_
              have q55 : Frm [701, 707, 800, 900, 1000, 1100, 1200, 1300, 1400, 1504, 2602] X Xa := Frm.tr Frm.rf (Frm.mono hGXa (by first | exact nls_of rfl | decide))
              have q56 : Frm [701, 707, 800, 900, 1000, 1100, 1200, 1300, 1400, 1504, 2602] X X18 := by rw [hX18]; exact Frm.set q55 (show 1000 ∈ [701, 707, 800, 900, 1000, 1100, 1200, 1300, 1400, 1504, 2602] by first | exact nlm_in rfl | decide)
              have q57 : Frm [701, 707, 800, 900, 1000, 1100, 1200, 1300, 1400, 1504, 2602] X X25 := by rw [hX25]; exact Frm.set q56 (show 1100 ∈ [701, 707, 800, 900, 1000, 1100, 1200, 1300, 1400, 1504, 2602] by first | exact nlm_in rfl | decide)
              have q58 : Frm [701, 707, 800, 900, 1000, 1100, 1200, 1300, 1400, 1504, 2602] X X50 := Frm.tr q57 (Frm.mono hG52 (by first | exact nls_of rfl | decide))
              have q59 : Frm [701, 707, 800, 900, 1000, 1100, 1200, 1300, 1400, 1504, 2602] X X54 := by rw [hX54]; exact Frm.set q58 (show 1200 ∈ [701, 707, 800, 900, 1000, 1100, 1200, 1300, 1400, 1504, 2602] by first | exact nlm_in rfl | decide)
              have q60 : Frm [500] Y Ya := Frm.tr Frm.rf (Frm.mono hGYa (by first | exact nls_of rfl | decide))
              have q61 : Frm [500] Y Y51 := Frm.tr q60 (Frm.mono hJ53 (by first | exact nls_of rfl | decide))
              have q62 : Frm [1200] X50 X54 := by rw [hX54]; exact Frm.set Frm.rf (show 1200 ∈ [1200] by first | exact nlm_in rfl | decide)
              have hCq63 : CInv cnt X54 Y51 ln := cinv_frm (M := [1200]) (N := []) hCIX50 q62 Frm.rf (by decide) (by decide)
              have q64 : Frm [1200] X50 X54 := by rw [hX54]; exact Frm.set Frm.rf (show 1200 ∈ [1200] by first | exact nlm_in rfl | decide)
              have hO65 : rcOK X54 Y51 g := rcOK.frm (M := [1200]) (N := []) hOX50 q64 Frm.rf (by decide) (by decide)
              have e66 : X54 7 g 0 = X50 7 g 0 := by rw [hX54, u3_k _ _ _ _ (by first | exact Nat.ne_of_beq_eq_false rfl | decide)]
              have e67 : X54 7 g 6 = X50 7 g 6 := by rw [hX54, u3_k _ _ _ _ (by first | exact Nat.ne_of_beq_eq_false rfl | decide)]
              have q68 : Frm [1000] Xa X18 := by rw [hX18]; exact Frm.set Frm.rf (show 1000 ∈ [1000] by first | exact nlm_in rfl | decide)
              have q69 : Frm [701, 707, 800, 900, 1300, 1400, 1504, 2602] X25 X50 := Frm.tr Frm.rf (Frm.mono hG52 (by first | exact nls_of rfl | decide))
              have e70 : X50 11 g (r * 5 + k) = (X 21 r2 k) := (by rw [hG52 11 g (r * 5 + k) (show 1100 ∉ [701, 707, 800, 900, 1300, 1400, 1504, 2602] by first | exact nlm_ni rfl | decide)]; exact hVX25)
              have e71 : ∀ p9 q9 : Int, X25 21 p9 q9 = X 21 p9 q9 := fun p9 q9 => by rw [hX25, u3_k _ _ _ _ (by first | exact Nat.ne_of_beq_eq_false rfl | decide), hX18, u3_k _ _ _ _ (by first | exact Nat.ne_of_beq_eq_false rfl | decide), hGXa 21 p9 q9 (show 2100 ∉ [701, 707, 800, 900, 1000, 1100, 1200, 1300, 1400, 1504, 2602] by first | exact nlm_ni rfl | decide)]
              have q72 : Frm [1200] X50 X54 := by rw [hX54]; exact Frm.set Frm.rf (show 1200 ∈ [1200] by first | exact nlm_in rfl | decide)
              have q73 : Frm [1200] X50 X54 := by rw [hX54]; exact Frm.set Frm.rf (show 1200 ∈ [1200] by first | exact nlm_in rfl | decide)
              have q74 : Frm [701, 707, 800, 900, 1000, 1100, 1200, 1300, 1400, 1504, 2602] Xa X18 := by rw [hX18]; exact Frm.set Frm.rf (show 1000 ∈ [701, 707, 800, 900, 1000, 1100, 1200, 1300, 1400, 1504, 2602] by first | exact nlm_in rfl | decide)
              have q75 : Frm [701, 707, 800, 900, 1000, 1100, 1200, 1300, 1400, 1504, 2602] Xa X25 := by rw [hX25]; exact Frm.set q74 (show 1100 ∈ [701, 707, 800, 900, 1000, 1100, 1200, 1300, 1400, 1504, 2602] by first | exact nlm_in rfl | decide)
              have q76 : Frm [701, 707, 800, 900, 1000, 1100, 1200, 1300, 1400, 1504, 2602] Xa X50 := Frm.tr q75 (Frm.mono hG52 (by first | exact nls_of rfl | decide))
              have q77 : Frm [701, 707, 800, 900, 1000, 1100, 1200, 1300, 1400, 1504, 2602] Xa X54 := by rw [hX54]; exact Frm.set q76 (show 1200 ∈ [701, 707, 800, 900, 1000, 1100, 1200, 1300, 1400, 1504, 2602] by first | exact nlm_in rfl | decide)
              have q78 : Frm [500] Ya Y51 := Frm.tr Frm.rf (Frm.mono hJ53 (by first | exact nls_of rfl | decide))
              have q80 : Frm [701, 707, 800, 900, 1000, 1100, 1200, 1300, 1400, 1504, 2602] X Xa := Frm.tr Frm.rf (Frm.mono hGXa (by first | exact nls_of rfl | decide))
              have q81 : Frm [701, 707, 800, 900, 1000, 1100, 1200, 1300, 1400, 1504, 2602] X X18 := by rw [hX18]; exact Frm.set q80 (show 1000 ∈ [701, 707, 800, 900, 1000, 1100, 1200, 1300, 1400, 1504, 2602] by first | exact nlm_in rfl | decide)
              have q82 : Frm [701, 707, 800, 900, 1000, 1100, 1200, 1300, 1400, 1504, 2602] X X25 := by rw [hX25]; exact Frm.set q81 (show 1100 ∈ [701, 707, 800, 900, 1000, 1100, 1200, 1300, 1400, 1504, 2602] by first | exact nlm_in rfl | decide)
              have q83 : Frm [701, 707, 800, 900, 1000, 1100, 1200, 1300, 1400, 1504, 2602] X X50 := Frm.tr q82 (Frm.mono hG52 (by first | exact nls_of rfl | decide))
              have q84 : Frm [701, 707, 800, 900, 1000, 1100, 1200, 1300, 1400, 1504, 2602] X X54 := by rw [hX54]; exact Frm.set q83 (show 1200 ∈ [701, 707, 800, 900, 1000, 1100, 1200, 1300, 1400, 1504, 2602] by first | exact nlm_in rfl | decide)
              have q85 : Frm [500] Y Ya := Frm.tr Frm.rf (Frm.mono hGYa (by first | exact nls_of rfl | decide))
              have q86 : Frm [500] Y Y51 := Frm.tr q85 (Frm.mono hJ53 (by first | exact nls_of rfl | decide))
              have hcs079 : cSt X X54 Y Y51 := cSt.of (L := [701, 707, 800, 900, 1000, 1100, 1200, 1300, 1400, 1504, 2602]) (N := [500]) q84 q86 (by decide) (by decide)
              have q87 : gK g X Xa := gK.tr gK.rf hgkXa
              have q88 : gK g X X18 := by rw [hX18]; exact gK.set q87 (fun _ => by first | rfl | omega)
              have q89 : gK g X X25 := by rw [hX25]; exact gK.set q88 (fun _ => by first | rfl | omega)
              have q90 : gK g X X50 := gK.tr q89 hgkX50
              have q91 : gK g X X54 := by rw [hX54]; exact gK.set q90 (fun _ => by first | rfl | omega)
              refine ih3 (k + 1) X54 Y51 _ _ _ ?g9p737 hRX54 q59 q61 ?g9p738 (hCq63) (hO65) ?g9p739 ?g9p740 ?g9p741 ?g9p742 ?g9p743 ?g9p744 (q91) ?g9p745 hw hS (lv_sub hl [2, 3, 4, 5, 0] rfl)
              case g9p737 => omega
              case g9p738 => omega
              case g9p739 => first | omega | (simp only [e66]; omega)
              case g9p740 => first | omega | (simp only [e67]; omega)
              case g9p741 => rw [hX54]; exact cRx.val (cRx.frm (by rw [hX25]; exact cRv.lane (cRv.frm hRa q68 (by decide))) q69 (by decide)) (fun h9 => by rw [e70] at h9; exact htvX50 r2 (by rw [hGYa 15 x 0 (show 1501 ∉ [500] by first | exact nlm_ni rfl | decide)]; exact y1) (by rw [e71]; exact h9))
              case g9p742 => rw [recK_s (by omega), hxr]; exact rcT.frm (M := [1200]) (N := []) hcsX50.1 q72 Frm.rf (by decide) (by decide)
              case g9p743 => rw [recK_s (by omega), hxr]; exact rcR.frm (M := [1200]) (N := []) hcsX50.2.1 q73 Frm.rf (by decide) (by decide)
              case g9p744 => rw [recK_s (by omega), hxr]; exact rcV.push hVa (cSt.of (L := [701, 707, 800, 900, 1000, 1100, 1200, 1300, 1400, 1504, 2602]) (N := [500]) q77 q78 (by decide) (by decide)) ⟨by omega, by omega⟩ (by omega) (fun t9 => by rw [show Xa 19 t9 1 = X 19 t9 1 from (by rw [hGXa 19 t9 1 (show 1902 ∉ [701, 707, 800, 900, 1000, 1100, 1200, 1300, 1400, 1504, 2602] by first | exact nlm_ni rfl | decide)])]; exact (hR 19 t9 1).2) (fun j hj => (by rw [hX54, u3_k _ _ _ _ (by first | exact Nat.ne_of_beq_eq_false rfl | decide), hG52 10 g j (show 1000 ∉ [701, 707, 800, 900, 1300, 1400, 1504, 2602] by first | exact nlm_ni rfl | decide), hX25, u3_k _ _ _ _ (by first | exact Nat.ne_of_beq_eq_false rfl | decide), hX18, u3_ij (by omega)])) (fun j hj => (by rw [hX54, u3_k _ _ _ _ (by first | exact Nat.ne_of_beq_eq_false rfl | decide), hG52 11 g j (show 1100 ∉ [701, 707, 800, 900, 1300, 1400, 1504, 2602] by first | exact nlm_ni rfl | decide), hX25, u3_ij (by omega), hX18, u3_k _ _ _ _ (by first | exact Nat.ne_of_beq_eq_false rfl | decide)])) (fun j hj => (by rw [hX54, u3_ij (by omega), hG52 12 g j (show 1200 ∉ [701, 707, 800, 900, 1300, 1400, 1504, 2602] by first | exact nlm_ni rfl | decide), hX25, u3_k _ _ _ _ (by first | exact Nat.ne_of_beq_eq_false rfl | decide), hX18, u3_k _ _ _ _ (by first | exact Nat.ne_of_beq_eq_false rfl | decide)])) (fun q a b => recP_o ⟨a, by omega⟩) (fun q hq => recP_5 hq) ⟨(by rw [recP_o ⟨by omega, by omega⟩, recK_o _ ⟨by omega, by omega⟩, hxr, hcs079.2.2.2, hcs079.2.1, tyo_some y1]; exact (by rw [show 5 * r + k = r * 5 + k by omega]; exact (by rw [hX54, u3_k _ _ _ _ (by first | exact Nat.ne_of_beq_eq_false rfl | decide), hG52 10 g (r * 5 + k) (show 1000 ∉ [701, 707, 800, 900, 1300, 1400, 1504, 2602] by first | exact nlm_ni rfl | decide), hX25, u3_k _ _ _ _ (by first | exact Nat.ne_of_beq_eq_false rfl | decide)]; exact hVX18))), (by rw [recP_o ⟨by omega, by omega⟩, recK_o _ ⟨by omega, by omega⟩, hxr]; unfold cLa; rw [hcs079.2.2.2, hcs079.2.2.1, tyo_some y1]; exact (by rw [show 5 * r + k = r * 5 + k by omega]; exact (by rw [hX54, u3_k _ _ _ _ (by first | exact Nat.ne_of_beq_eq_false rfl | decide), hG52 11 g (r * 5 + k) (show 1100 ∉ [701, 707, 800, 900, 1300, 1400, 1504, 2602] by first | exact nlm_ni rfl | decide)]; exact hVX25))), (by have h9 := hVX54; rw [show r * 5 + k = 5 * r + k by omega] at h9; rw [h9]; exact hcsX50.2.2)⟩
              case g9p745 => unfold cFc; rw [tyo_some y1]; omega
  exact lp3 (5 - 0 : Int).toNat.succ 0 X Y _ _ _ (by omega) hR Frm.rf Frm.rf (by omega) (hCI) (hO) (Int.le_refl _) ((by omega)) (hRv) (hst) (hsr) (hsv) (gK.rf) ((hR 19 _ 1).1) hw hS (lv_sub hl [1, 2, 3, 4, 0] rfl)

set_option maxHeartbeats 4000000 in
set_option maxRecDepth 100000 in
theorem c_X8_recordFrom (l : Launch) (D : va_G) (tc : Nat → ClassId) (base : Nat) (ad : Nat → Int → Nat) (cnt : Nat → Int) (X : Nat → Int → Int → Int) (Y : Nat → Int → Int → Option Int) (ln : Int → Int) (hR : Rng X) (hFx : Fx cnt) (hLn : LnOK ln) (hCI : CInv cnt X Y ln) (x g : Int) (hx0 : 0 ≤ x ∧ x ≤ 29) (hxt : x < X 0 0 3) (hg : 0 ≤ g ∧ g < 6) (hRv : cRv X) : KV l D tc base yX8_recordFrom wsX8_recordFrom ({ frames := 3, cells := 0, slots := 0, locals := 72 } : Room) [.ref (ad 0 0), .ref (ad 15 x), .ref (ad 7 g)] (ad, cnt, X, Y, ln) 0 0 (fun u => ∃ (X1 : Nat → Int → Int → Int) (Y1 : Nat → Int → Int → Option Int), u = (ad, cnt, X1, Y1, ln) ∧ Rng X1 ∧ Frm [701, 707, 800, 900, 1000, 1100, 1200, 1300, 1400, 1504, 2602] X X1 ∧ Frm [500] Y Y1 ∧ CInv cnt X1 Y1 ln ∧ (0 : Int) ≤ 0 ∧ rcOK X1 Y1 g ∧ cRv X1 ∧ rcT X1 Y1 g (recR (cFc X Y) (cLa X Y) (cVl X Y) (cRid Y) x 30) ∧ rcR X1 Y1 ln g (recR (cFc X Y) (cLa X Y) (cVl X Y) (cRid Y) x 30) ∧ rcV X1 Y1 g (recR (cFc X Y) (cLa X Y) (cVl X Y) (cRid Y) x 30) (recR (cFc X Y) (cLa X Y) (cVl X Y) (cRid Y) x 30 0 0) 0 ∧ gK g X X1) := by
  refine K_of (cc := cX8_recordFrom) (maxL := 4) (ret := none) (by decide) rfl (Nat.le_of_ble_eq_true rfl) ?_
  intro p e s m below meth c ls hx hb hr hml hown hts hlocks hl hK hw hS
  have hown : s.vm.findClass RX8 = some m.cls := hown
  obtain ⟨av9, hav9⟩ : ∃ a9 : Array Value, a9 = ([.ref (ad 0 0), .ref (ad 15 x), .ref (ad 7 g)] : List Value).toArray := ⟨_, rfl⟩
  rw [← hav9] at hts ⊢
  obtain ⟨Q9, hQ9⟩ : ∃ q9Q : State → Prop, q9Q = MQ below (QV D tc base (fun u => ∃ (X1 : Nat → Int → Int → Int) (Y1 : Nat → Int → Int → Option Int), u = (ad, cnt, X1, Y1, ln) ∧ Rng X1 ∧ Frm [701, 707, 800, 900, 1000, 1100, 1200, 1300, 1400, 1504, 2602] X X1 ∧ Frm [500] Y Y1 ∧ CInv cnt X1 Y1 ln ∧ (0 : Int) ≤ 0 ∧ rcOK X1 Y1 g ∧ cRv X1 ∧ rcT X1 Y1 g (recR (cFc X Y) (cLa X Y) (cVl X Y) (cRid Y) x 30) ∧ rcR X1 Y1 ln g (recR (cFc X Y) (cLa X Y) (cVl X Y) (cRid Y) x 30) ∧ rcV X1 Y1 g (recR (cFc X Y) (cLa X Y) (cVl X Y) (cRid Y) x 30) (recR (cFc X Y) (cLa X Y) (cVl X Y) (cRid Y) x 30 0 0) 0 ∧ gK g X X1)) av9 s 0 0 (frA base) := ⟨_, rfl⟩
  rw [← hQ9]
  have hi4 : ∀ w ∈ wsX40, w ∈ wsX8_recordFrom := fun w h => List.mem_cons_of_mem _ (List.mem_append_left _ (List.mem_append_left _ (List.mem_append_left _ (List.mem_append_left _ (List.mem_append_right _ h)))))
  have hf4 : fctx s m _ RX8 wsX8_recordFrom D tc RX4 TX4 9 4 := ⟨hts, hi4, hown, hK.1, rfl⟩
  have hi8 : ∀ w ∈ wsX80, w ∈ wsX8_recordFrom := fun w h => List.mem_cons_of_mem _ (List.mem_append_left _ (List.mem_append_left _ (List.mem_append_left _ (List.mem_append_right _ h))))
  have hf8 : fctx s m _ RX8 wsX8_recordFrom D tc RX8 TX8 12 8 := ⟨hts, hi8, hown, hK.1, rfl⟩
  have lk39 := hts (.fieldLink RX8 39 (TX8 8).1 (TX8 8).2.1 (TX8 8).2.2.1) (gj_X8_recordFrom_0 _ (gp_1 (gp_1 gp_h)))
  have lk231 := hts (.fieldLink RX8 231 (TX4 0).1 (TX4 0).2.1 (TX4 0).2.2.1) (gj_X8_recordFrom_0 _ (gp_h))
  have lk234 := hts (.fieldLink RX8 234 (TX4 6).1 (TX4 6).2.1 (TX4 6).2.2.1) (gj_X8_recordFrom_0 _ (gp_1 gp_h))
  have hc0 : cnt 0 = 1 := hFx.at 0 1 (by decide)
  have hc5 : cnt 5 = 1 := hFx.at 5 1 (by decide)
  have hc7 : cnt 7 = 6 := hFx.at 7 6 (by decide)
  have hc15 : cnt 15 = 30 := hFx.at 15 30 (by decide)
  have hl : lv_has ls 4 [(0, .ref (ad 0 0)), (1, .ref (ad 15 x)), (2, .ref (ad 7 g))] := hl
  have ftc : 0 ≤ X 0 0 3 ∧ X 0 0 3 ≤ 30 := hR 0 0 3
  have fty : 0 ≤ X 0 0 1 ∧ X 0 0 1 ≤ 8 := hR 0 0 1
  have hct : cnt 19 = X 0 0 1 := hCI.2.2.2.1.1
  have hfj : 0 ≤ X 29 0 3 ∧ X 29 0 3 ≤ 4 := hR 29 0 3
  have hfn : 0 ≤ X 29 0 1 ∧ X 29 0 1 ≤ 80 := hR 29 0 1
  refine lv_aload_n hx hb dX8_recordFrom_0 rfl (lv_at hl 0 rfl) ?_
  refine gos_v (run_V (As := []) (rest := []) hx hb hml hown hts (c_X8_forgetNumbers l D tc base ad cnt X Y ln hR hFx hLn hCI) (cwV 0 hts gX8_recordFrom_X8_forgetNumbers rfl rfl rfl (by first | exact hd_X8_forgetNumbers | decide +kernel) ⟨Nat.le_of_ble_eq_true rfl, Nat.le_of_ble_eq_true rfl⟩) hK hw (by first | exact Int.le_refl 0 | omega) (by first | exact zlt hc0 | omega) sl_0_0 rfl rfl hl.1 rfl (Nat.le_of_ble_eq_true rfl) dX8_recordFrom_1 ⟨Nat.le_of_ble_eq_true rfl, Nat.le_of_ble_eq_true rfl⟩) hS (fun u2 H locs p3 hw hS => ?_)
  obtain ⟨X4, eu2, hRX4, hG5, hCIX4, p3, hfaX4, hfwX4⟩ := p3
  subst eu2
  have hFX4 : Frm [701, 707, 800, 900, 1000, 1100, 1200, 1300, 1400, 1504, 2602] X X4 := Frm.tr Frm.rf (Frm.mono hG5 (by first | exact nls_of rfl | decide))
  refine lv_aload_n hx hb dX8_recordFrom_4 rfl (lv_at hl 2 rfl) ?_
  refine lv_iconst (v := jI 0) hx hb dX8_recordFrom_5 rfl ?_
  refine x_puti (jz := 0) hx hb hf4 ⟨tyX4_ok, nmX4⟩ hw hS (by omega) (by omega) sl_7_0 rfl lk231 rfl (tyX4_ok 0 (by decide)) rfl rfl dX8_recordFrom_6 (fun H locs hw hS => ?_)
  obtain ⟨X6, hX6⟩ : ∃ Xq, Xq = u3 X4 7 g 0 0 := ⟨_, rfl⟩
  rw [← hX6] at hw
  have hRX6 : Rng X6 := by rw [hX6]; exact rng_set hRX4 (show 0 ≤ 0 ∧ 0 ≤ 30 by omega)
  have hVX6 : X6 7 g 0 = 0 := by rw [hX6]; exact u3_s _ _ _ _ _
  have hFX6 : Frm [701, 707, 800, 900, 1000, 1100, 1200, 1300, 1400, 1504, 2602] X X6 := by rw [hX6]; exact Frm.set hFX4 (show 701 ∈ [701, 707, 800, 900, 1000, 1100, 1200, 1300, 1400, 1504, 2602] by first | exact nlm_in rfl | decide)
  refine lv_aload_n hx hb dX8_recordFrom_9 rfl (lv_at hl 2 rfl) ?_
  refine lv_iconst (v := jI 0) hx hb dX8_recordFrom_10 rfl ?_
  refine x_puti (jz := 6) hx hb hf4 ⟨tyX4_ok, nmX4⟩ hw hS (by omega) (by omega) sl_7_6 rfl lk234 rfl (tyX4_ok 6 (by decide)) rfl rfl dX8_recordFrom_11 (fun H locs hw hS => ?_)
  obtain ⟨X7, hX7⟩ : ∃ Xq, Xq = u3 X6 7 g 6 0 := ⟨_, rfl⟩
  rw [← hX7] at hw
  have hRX7 : Rng X7 := by rw [hX7]; exact rng_set hRX6 (show 0 ≤ 0 ∧ 0 ≤ 150 by omega)
  have hVX7 : X7 7 g 6 = 0 := by rw [hX7]; exact u3_s _ _ _ _ _
  have hFX7 : Frm [701, 707, 800, 900, 1000, 1100, 1200, 1300, 1400, 1504, 2602] X X7 := by rw [hX7]; exact Frm.set hFX6 (show 707 ∈ [701, 707, 800, 900, 1000, 1100, 1200, 1300, 1400, 1504, 2602] by first | exact nlm_in rfl | decide)
  have q8 : Frm [701, 707] X4 X6 := by rw [hX6]; exact Frm.set Frm.rf (show 701 ∈ [701, 707] by first | exact nlm_in rfl | decide)
  have q9 : Frm [701, 707] X4 X7 := by rw [hX7]; exact Frm.set q8 (show 707 ∈ [701, 707] by first | exact nlm_in rfl | decide)
  have hO0 : rcOK X7 Y g := rcOK.nil (by rw [hX7, u3_ij (by omega)]; exact hVX6)
  have hCI0 : CInv cnt X7 Y ln := cinv_record (g := g) hCIX4 (Frm.mono q9 (by first | exact nls_of rfl | decide)) Frm.rf (fun i hi => ⟨(by rw [hX7, u3_ij (by omega), hX6, u3_ij (by omega)]), fun j => (by rw [hX7, u3_k _ _ _ _ (by first | exact Nat.ne_of_beq_eq_false rfl | decide), hX6, u3_k _ _ _ _ (by first | exact Nat.ne_of_beq_eq_false rfl | decide)])⟩) (fun r9 a b => by rw [hX7, u3_ij (by omega)] at b; rw [hVX6] at b; omega)
  have hT0 : rcT X7 Y g sg0 := ⟨(by rw [hX7, u3_ij (by omega)]; exact hVX6), fun i a b => absurd b (by show ¬ i < 0; omega), fun x9 a b => (by rw [hX7, u3_k _ _ _ _ (by first | exact Nat.ne_of_beq_eq_false rfl | decide), hX6, u3_k _ _ _ _ (by first | exact Nat.ne_of_beq_eq_false rfl | decide)]; exact hfaX4 x9 a (by rw [← (show X7 0 0 3 = X 0 0 3 from (by rw [hX7, u3_k _ _ _ _ (by first | exact Nat.ne_of_beq_eq_false rfl | decide), hX6, u3_k _ _ _ _ (by first | exact Nat.ne_of_beq_eq_false rfl | decide), hG5 0 0 3 (show 4 ∉ [1504, 2602] by first | exact nlm_ni rfl | decide)]))]; exact b))⟩
  refine lv_aload_n hx hb dX8_recordFrom_14 rfl (lv_at hl 0 rfl) ?_
  refine lv_aload_n hx hb dX8_recordFrom_15 rfl (lv_at hl 1 rfl) ?_
  refine lv_aload_n hx hb dX8_recordFrom_16 rfl (lv_at hl 2 rfl) ?_
  have e10 : X7 0 0 3 = X 0 0 3 := by rw [hX7, u3_k _ _ _ _ (by first | exact Nat.ne_of_beq_eq_false rfl | decide), hX6, u3_k _ _ _ _ (by first | exact Nat.ne_of_beq_eq_false rfl | decide), hG5 0 0 3 (show 4 ∉ [1504, 2602] by first | exact nlm_ni rfl | decide)]
  refine gos_i (run_V (As := [.ref (ad 15 x), .ref (ad 7 g)]) (rest := []) hx hb hml hown hts (c_X8_recordNumberOf l D tc base ad cnt X7 Y ln hRX7 hFx hLn hCI0 x g (by omega) (by simp only [e10]; omega) (by omega) hO0 (sg0) hT0) (cwV 2 hts gX8_recordFrom_X8_recordNumberOf rfl rfl rfl (by first | exact hd_X8_recordNumberOf | decide +kernel) ⟨Nat.le_of_ble_eq_true rfl, Nat.le_of_ble_eq_true rfl⟩) hK hw (by first | exact Int.le_refl 0 | omega) (by first | exact zlt hc0 | omega) sl_0_0 rfl rfl hl.1 rfl (Nat.le_of_ble_eq_true rfl) dX8_recordFrom_17 ⟨Nat.le_of_ble_eq_true rfl, Nat.le_of_ble_eq_true rfl⟩) hS (fun z11 u12 H locs p13 hw hS => ?_)
  obtain ⟨X14, Y15, eu12, hRX14, hG16, hJ17, hCIX14, p13, hOX14, hleX14, hzrX14, hTrX14, hgkX14⟩ := p13
  subst eu12
  have hFX14 : Frm [701, 707, 800, 900, 1000, 1100, 1200, 1300, 1400, 1504, 2602] X X14 := Frm.tr hFX7 (Frm.mono hG16 (by first | exact nls_of rfl | decide))
  have hHY15 : Frm [500] Y Y15 := Frm.tr Frm.rf (Frm.mono hJ17 (by first | exact nls_of rfl | decide))
  refine lv_pop hx hb dX8_recordFrom_20 rfl ?_
  refine lv_iconst (v := jI 0) hx hb dX8_recordFrom_21 rfl ?_
  refine lv_istore_n (lv' := [(3, .int (jI 0)), (0, .ref (ad 0 0)), (1, .ref (ad 15 x)), (2, .ref (ad 7 g))]) hx hb dX8_recordFrom_22 rfl hl (by decide) rfl (fun ls hl => ?_)
  have lp23 : ∀ (nn : Nat) (r : Int) (Xa : Nat → Int → Int → Int) (Ya : Nat → Int → Int → Option Int) (H : Heap) (locs : List Loc) (ls : Array Slot), (30 - r) < (nn : Int) → (Rng Xa) → (Frm [701, 707, 800, 900, 1000, 1100, 1200, 1300, 1400, 1504, 2602] X14 Xa) → (Frm [500] Y15 Ya) → (0 ≤ r ∧ r ≤ 30) → (CInv cnt Xa Ya ln) → (rcOK Xa Ya g) → (Xa 7 g 6 ≤ 5 * r) → (cRv Xa) → (rcT Xa Ya g (recR (cFc X Y) (cLa X Y) (cVl X Y) (cRid Y) x r.toNat)) → (rcR Xa Ya ln g (recR (cFc X Y) (cLa X Y) (cVl X Y) (cRid Y) x r.toNat)) → (rcV Xa Ya g (recR (cFc X Y) (cLa X Y) (cVl X Y) (cRid Y) x r.toNat) r 0) → (gK g X14 Xa) → wd D tc base (ad, cnt, Xa, Ya, ln) H → va_S (frA base) s.heap H locs → lv_has ls 4 [(0, .ref (ad 0 0)), (1, .ref (ad 15 x)), (2, .ref (ad 7 g)), (3, .int (jI r))] → W p l e ({ frames := 3, cells := 0, slots := 0, locals := 72 } : Room) s m av9 below meth c H locs 0 0 Q9 (F0 m 23 ls []) := by
    intro nn
    induction nn with
    | zero => intro r Xa Ya H locs ls hm hRXa hGXa hGYa hr0 hCIXa hOa hna hRa hTa hRr9 hVa hgkXa hw hS hl; exfalso; omega
    | succ nn ih23 =>
      intro r Xa Ya H locs ls hm hRXa hGXa hGYa hr0 hCIXa hOa hna hRa hTa hRr9 hVa hgkXa hw hS hl
      have hHYa : Frm [500] Y Ya := Frm.tr hHY15 (Frm.mono hGYa (by first | exact nls_of rfl | decide))
      have hFXa : Frm [701, 707, 800, 900, 1000, 1100, 1200, 1300, 1400, 1504, 2602] X Xa := Frm.tr hFX14 (Frm.mono hGXa (by first | exact nls_of rfl | decide))
      have hTa1 : Xa 7 g 0 = recR (cFc X Y) (cLa X Y) (cVl X Y) (cRid Y) x r.toNat 0 0 := hTa.1
      refine lv_iload_n hx hb dX8_recordFrom_23 rfl (lv_at hl 3 rfl) ?_
      refine lv_bipush (v := jI 30) hx hb dX8_recordFrom_24 (by decide) ?_
      refine x_icmp_ge (tgt := 55) hx hb (by omega) (by omega) dX8_recordFrom_26 (by decide) (fun c18 => ?_) (fun c18 => ?_)
      · rw [hQ9]
        refine ret_v (mc := 0) (ms := 0) hx hb hr hlocks hw hS (by first | exact Nat.le_of_ble_eq_true rfl | omega) (by first | exact Nat.le_of_ble_eq_true rfl | omega) dX8_recordFrom_55 ?_
        have f7g : 0 ≤ Xa 7 g 0 ∧ Xa 7 g 0 ≤ 30 := hRXa 7 g 0
        have hfs19 : recR (cFc X Y) (cLa X Y) (cVl X Y) (cRid Y) x 30 = recR (cFc X Y) (cLa X Y) (cVl X Y) (cRid Y) x r.toNat := recR_end ⟨by omega, by omega⟩ (by omega)
        have q20 : gK g X X4 := gK.tr gK.rf (gK.frm hG5 (by decide))
        have q21 : gK g X X6 := by rw [hX6]; exact gK.set q20 (fun _ => by first | rfl | omega)
        have q22 : gK g X X7 := by rw [hX7]; exact gK.set q21 (fun _ => by first | rfl | omega)
        have q23 : gK g X X14 := gK.tr q22 hgkX14
        have q24 : gK g X Xa := gK.tr q23 hgkXa
        exact ⟨Xa, Ya, rfl, hRXa, hFXa, hHYa, hCIXa, by omega, hOa, hRa, (by rw [hfs19]; exact hTa), (by rw [hfs19]; exact hRr9), (by rw [hfs19]; exact rcV.upto hVa (by omega)), q24⟩
      · refine lv_iload_n hx hb dX8_recordFrom_29 rfl (lv_at hl 3 rfl) ?_
        refine lv_aload_n hx hb dX8_recordFrom_30 rfl (lv_at hl 2 rfl) ?_
        refine x_geti (jz := 0) hx hb hf4 hw (by omega) (by omega) sl_7_0 rfl lk231 dX8_recordFrom_31 ?_
        have f25 : 0 ≤ Xa 7 g 0 ∧ Xa 7 g 0 ≤ 30 := hRXa 7 g 0
        refine x_icmp_ge (tgt := 55) hx hb (by omega) (by omega) dX8_recordFrom_34 (by decide) (fun c26 => ?_) (fun c26 => ?_)
        · rw [hQ9]
          refine ret_v (mc := 0) (ms := 0) hx hb hr hlocks hw hS (by first | exact Nat.le_of_ble_eq_true rfl | omega) (by first | exact Nat.le_of_ble_eq_true rfl | omega) dX8_recordFrom_55 ?_
          have f7g : 0 ≤ Xa 7 g 0 ∧ Xa 7 g 0 ≤ 30 := hRXa 7 g 0
          have hfs27 : recR (cFc X Y) (cLa X Y) (cVl X Y) (cRid Y) x 30 = recR (cFc X Y) (cLa X Y) (cVl X Y) (cRid Y) x r.toNat := recR_end ⟨by omega, by omega⟩ (by omega)
          have q28 : gK g X X4 := gK.tr gK.rf (gK.frm hG5 (by decide))
          have q29 : gK g X X6 := by rw [hX6]; exact gK.set q28 (fun _ => by first | rfl | omega)
          have q30 : gK g X X7 := by rw [hX7]; exact gK.set q29 (fun _ => by first | rfl | omega)
          have q31 : gK g X X14 := gK.tr q30 hgkX14
          have q32 : gK g X Xa := gK.tr q31 hgkXa
          exact ⟨Xa, Ya, rfl, hRXa, hFXa, hHYa, hCIXa, by omega, hOa, hRa, (by rw [hfs27]; exact hTa), (by rw [hfs27]; exact hRr9), (by rw [hfs27]; exact rcV.upto hVa (by omega)), q32⟩
        · refine lv_aload_n hx hb dX8_recordFrom_37 rfl (lv_at hl 0 rfl) ?_
          refine lv_aload_n hx hb dX8_recordFrom_38 rfl (lv_at hl 0 rfl) ?_
          refine x_geto hx hb hf8 hw (by first | exact Int.le_refl 0 | omega) (by first | exact zlt hc0 | omega) sl_0_8 lk39 dX8_recordFrom_39 ?_
          refine lv_iload_n hx hb dX8_recordFrom_42 rfl (lv_at hl 3 rfl) ?_
          refine x_aald hx hb hK.1 hw (by first | exact Int.le_refl 0 | omega) (by first | exact zlt hc5 | omega) ar_5 rfl (len_E ar_5 (by first | exact Nat.ne_of_beq_eq_false rfl | decide)) (by omega) (by omega) (by omega) dX8_recordFrom_43 (fun y33 => ?_) (fun r34 y33 gr34 lr34 => ?_)
          · exfalso
            obtain ⟨x9, e9, -⟩ := hOa.1 r (by omega) (by omega); rw [e9] at y33; cases y33
          · have e35 : Xa 0 0 3 = X 0 0 3 := by rw [hGXa 0 0 3 (show 4 ∉ [701, 707, 800, 900, 1000, 1100, 1200, 1300, 1400, 1504, 2602] by first | exact nlm_ni rfl | decide), hG16 0 0 3 (show 4 ∉ [1504, 701, 800, 900] by first | exact nlm_ni rfl | decide), hX7, u3_k _ _ _ _ (by first | exact Nat.ne_of_beq_eq_false rfl | decide), hX6, u3_k _ _ _ _ (by first | exact Nat.ne_of_beq_eq_false rfl | decide), hG5 0 0 3 (show 4 ∉ [1504, 2602] by first | exact nlm_ni rfl | decide)]
            have hb8 : r34 < X 0 0 3 := by obtain ⟨x9, e9, a9, b9, -⟩ := hOa.1 r (by omega) (by omega); rw [e9] at y33; cases y33; simp only [e35] at b9; exact b9
            have hx9 : recR (cFc X Y) (cLa X Y) (cVl X Y) (cRid Y) x r.toNat 1 r = r34 := by have h8 := (hTa.2.1 r (by omega) (by omega)).1; rw [y33] at h8; exact (Option.some.inj h8).symm
            refine lv_iload_n hx hb dX8_recordFrom_44 rfl (lv_at hl 3 rfl) ?_
            refine lv_aload_n hx hb dX8_recordFrom_45 rfl (lv_at hl 2 rfl) ?_
            have q36 : Frm [701, 707, 800, 900, 1000, 1100, 1200, 1300, 1400, 1504, 2602] X X4 := Frm.tr Frm.rf (Frm.mono hG5 (by first | exact nls_of rfl | decide))
            have q37 : Frm [701, 707, 800, 900, 1000, 1100, 1200, 1300, 1400, 1504, 2602] X X6 := by rw [hX6]; exact Frm.set q36 (show 701 ∈ [701, 707, 800, 900, 1000, 1100, 1200, 1300, 1400, 1504, 2602] by first | exact nlm_in rfl | decide)
            have q38 : Frm [701, 707, 800, 900, 1000, 1100, 1200, 1300, 1400, 1504, 2602] X X7 := by rw [hX7]; exact Frm.set q37 (show 707 ∈ [701, 707, 800, 900, 1000, 1100, 1200, 1300, 1400, 1504, 2602] by first | exact nlm_in rfl | decide)
            have q39 : Frm [701, 707, 800, 900, 1000, 1100, 1200, 1300, 1400, 1504, 2602] X X14 := Frm.tr q38 (Frm.mono hG16 (by first | exact nls_of rfl | decide))
            have q40 : Frm [701, 707, 800, 900, 1000, 1100, 1200, 1300, 1400, 1504, 2602] X Xa := Frm.tr q39 (Frm.mono hGXa (by first | exact nls_of rfl | decide))
            have q41 : Frm [500] Y Y15 := Frm.tr Frm.rf (Frm.mono hJ17 (by first | exact nls_of rfl | decide))
            have q42 : Frm [500] Y Ya := Frm.tr q41 (Frm.mono hGYa (by first | exact nls_of rfl | decide))
            have hre43 : cLa Xa Ya = cLa X Y ∧ cVl Xa Ya = cVl X Y ∧ cRid Ya = cRid Y ∧ cFc Xa Ya = cFc X Y := ⟨cLa.frm (M := [701, 707, 800, 900, 1000, 1100, 1200, 1300, 1400, 1504, 2602]) (N := [500]) q40 q42 (by decide) (by decide), cVl.frm (M := [701, 707, 800, 900, 1000, 1100, 1200, 1300, 1400, 1504, 2602]) (N := [500]) q40 q42 (by decide) (by decide), cRid.frm (N := [500]) q42 (by decide), cFc.frm (M := [701, 707, 800, 900, 1000, 1100, 1200, 1300, 1400, 1504, 2602]) (N := [500]) q40 q42 (by decide) (by decide)⟩
            have e44 : Xa 0 0 3 = X 0 0 3 := by rw [hGXa 0 0 3 (show 4 ∉ [701, 707, 800, 900, 1000, 1100, 1200, 1300, 1400, 1504, 2602] by first | exact nlm_ni rfl | decide), hG16 0 0 3 (show 4 ∉ [1504, 701, 800, 900] by first | exact nlm_ni rfl | decide), hX7, u3_k _ _ _ _ (by first | exact Nat.ne_of_beq_eq_false rfl | decide), hX6, u3_k _ _ _ _ (by first | exact Nat.ne_of_beq_eq_false rfl | decide), hG5 0 0 3 (show 4 ∉ [1504, 2602] by first | exact nlm_ni rfl | decide)]
            refine gos_v (run_V (As := [.ref (ad 15 r34), .int (jI r), .ref (ad 7 g)]) (rest := []) hx hb hml hown hts (c_X8_recordFields l D tc base ad cnt Xa Ya ln hRXa hFx hLn hCIXa r34 r g (by omega) (by simp only [e44]; omega) (by omega) (by omega) hOa (by omega) hRa (recR (cFc X Y) (cLa X Y) (cVl X Y) (cRid Y) x r.toNat) hTa hRr9 hVa hx9 (by omega)) (cwV 3 hts gX8_recordFrom_X8_recordFields rfl rfl rfl (by first | exact hd_X8_recordFields | decide +kernel) ⟨Nat.le_of_ble_eq_true rfl, Nat.le_of_ble_eq_true rfl⟩) hK hw (by first | exact Int.le_refl 0 | omega) (by first | exact zlt hc0 | omega) sl_0_0 rfl rfl hl.1 rfl (Nat.le_of_ble_eq_true rfl) dX8_recordFrom_46 ⟨Nat.le_of_ble_eq_true rfl, Nat.le_of_ble_eq_true rfl⟩) hS (fun u46 H locs p47 hw hS => ?_)
            obtain ⟨X48, Y49, eu46, hRX48, hG50, hJ51, hCIX48, p47, hOX48, hleX48, hnrX48, hRvX48, hTfX48, hRfX48, hVfX48, hgkX48⟩ := p47
            subst eu46
            have hFX48 : Frm [701, 707, 800, 900, 1000, 1100, 1200, 1300, 1400, 1504, 2602] X X48 := Frm.tr hFXa (Frm.mono hG50 (by first | exact nls_of rfl | decide))
            have hHY49 : Frm [500] Y Y49 := Frm.tr hHYa (Frm.mono hJ51 (by first | exact nls_of rfl | decide))
            rw [hre43.1, hre43.2.1, hre43.2.2.1, hre43.2.2.2] at hTfX48 hRfX48 hVfX48
            refine lv_iinc (v := jI (r + 1)) (lv' := [(3, .int (jI (r + 1))), (0, .ref (ad 0 0)), (1, .ref (ad 15 x)), (2, .ref (ad 7 g))]) hx hb dX8_recordFrom_49 hl (k := 3) rfl (jI_add _ _) (by decide) rfl (fun ls hl => ?_)
            refine lv_goto (tgt := 23) hx hb dX8_recordFrom_52 (by decide) ?_
            have q52 : Frm [701, 707, 800, 900, 1000, 1100, 1200, 1300, 1400, 1504, 2602] X14 Xa := Frm.tr Frm.rf (Frm.mono hGXa (by first | exact nls_of rfl | decide))
            have q53 : Frm [701, 707, 800, 900, 1000, 1100, 1200, 1300, 1400, 1504, 2602] X14 X48 := Frm.tr q52 (Frm.mono hG50 (by first | exact nls_of rfl | decide))
            have q54 : Frm [500] Y15 Ya := Frm.tr Frm.rf (Frm.mono hGYa (by first | exact nls_of rfl | decide))
            have q55 : Frm [500] Y15 Y49 := Frm.tr q54 (Frm.mono hJ51 (by first | exact nls_of rfl | decide))
            have q56 : gK g X14 Xa := gK.tr gK.rf hgkXa
            have q57 : gK g X14 X48 := gK.tr q56 hgkX48
            exact ih23 (r + 1) X48 Y49 _ _ _ (by omega) hRX48 q53 q55 (by omega) (hCIX48) (hOX48) ((by omega)) (hRvX48) ((by rw [recR_next (by omega) (by omega) (by rw [hx9])]; exact hTfX48)) ((by rw [recR_next (by omega) (by omega) (by rw [hx9])]; exact hRfX48)) ((by rw [recR_next (by omega) (by omega) (by rw [hx9])]; exact hVfX48)) (q57) hw hS (lv_sub hl [1, 2, 3, 0] rfl)
  have e58 : X14 7 g 6 = X7 7 g 6 := by rw [hG16 7 g 6 (show 707 ∉ [1504, 701, 800, 900] by first | exact nlm_ni rfl | decide)]
  have q59 : Frm [701, 707, 800, 900, 1504, 2602] X X4 := Frm.tr Frm.rf (Frm.mono hG5 (by first | exact nls_of rfl | decide))
  have q60 : Frm [701, 707, 800, 900, 1504, 2602] X X6 := by rw [hX6]; exact Frm.set q59 (show 701 ∈ [701, 707, 800, 900, 1504, 2602] by first | exact nlm_in rfl | decide)
  have q61 : Frm [701, 707, 800, 900, 1504, 2602] X X7 := by rw [hX7]; exact Frm.set q60 (show 707 ∈ [701, 707, 800, 900, 1504, 2602] by first | exact nlm_in rfl | decide)
  have q62 : Frm [701, 707, 800, 900, 1504, 2602] X X14 := Frm.tr q61 (Frm.mono hG16 (by first | exact nls_of rfl | decide))
  have q64 : Frm [701, 707, 800, 900, 1504, 2602] X X4 := Frm.tr Frm.rf (Frm.mono hG5 (by first | exact nls_of rfl | decide))
  have q65 : Frm [701, 707, 800, 900, 1504, 2602] X X6 := by rw [hX6]; exact Frm.set q64 (show 701 ∈ [701, 707, 800, 900, 1504, 2602] by first | exact nlm_in rfl | decide)
  have q66 : Frm [701, 707, 800, 900, 1504, 2602] X X7 := by rw [hX7]; exact Frm.set q65 (show 707 ∈ [701, 707, 800, 900, 1504, 2602] by first | exact nlm_in rfl | decide)
  have q67 : Frm [701, 707, 800, 900, 1504, 2602] X X14 := Frm.tr q66 (Frm.mono hG16 (by first | exact nls_of rfl | decide))
  have q68 : Frm [500] Y Y15 := Frm.tr Frm.rf (Frm.mono hJ17 (by first | exact nls_of rfl | decide))
  have hff63 : cFc X14 Y15 = cFc X Y := cFc.frm (M := [701, 707, 800, 900, 1504, 2602]) (N := [500]) q67 q68 (by decide) (by decide)
  refine lp23 (30 - 0 : Int).toNat.succ 0 X14 Y15 _ _ _ ?g9p746 hRX14 Frm.rf Frm.rf ?g9p747 (hCIX14) (hOX14) ?g9p748 ?g9p749 (rcT.init hTrX14) ?g9p750 ?g9p751 (gK.rf) hw hS (lv_sub hl [1, 2, 3, 0] rfl)
  case g9p746 => omega
  case g9p747 => omega
  case g9p748 => simp only [e58]; omega
  case g9p749 => exact (hRv.frm q62 (by decide))
  case g9p750 => exact (rcR.init (by rw [hG16 7 g 6 (show 707 ∉ [1504, 701, 800, 900] by first | exact nlm_ni rfl | decide)]; exact hVX7) (fun y k w9 a b c d e9 => (by rw [hG16 26 w9 1 (show 2602 ∉ [1504, 701, 800, 900] by first | exact nlm_ni rfl | decide), hX7, u3_k _ _ _ _ (by first | exact Nat.ne_of_beq_eq_false rfl | decide), hX6, u3_k _ _ _ _ (by first | exact Nat.ne_of_beq_eq_false rfl | decide)]; exact hfwX4 y k w9 a (by rw [← (show X14 0 0 3 = X 0 0 3 from (by rw [hG16 0 0 3 (show 4 ∉ [1504, 701, 800, 900] by first | exact nlm_ni rfl | decide), hX7, u3_k _ _ _ _ (by first | exact Nat.ne_of_beq_eq_false rfl | decide), hX6, u3_k _ _ _ _ (by first | exact Nat.ne_of_beq_eq_false rfl | decide), hG5 0 0 3 (show 4 ∉ [1504, 2602] by first | exact nlm_ni rfl | decide)]))]; exact b) c (by rw [← hff63]; exact d) (by rw [← (show Y15 17 y k = Y 17 y k from (by rw [hJ17 17 y k (show 1700 ∉ [500] by first | exact nlm_ni rfl | decide)]))]; exact e9))))
  case g9p751 => exact (⟨fun r' k' a b => by omega, fun k' a b => by omega⟩)

