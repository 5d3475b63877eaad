section
set_option maxHeartbeats 4000000 in
set_option maxRecDepth 100000 in
theorem c_X8_recordNumberOf (l : Launch) (D : va_G) (tc : Nat → ClassId) (base : Nat) (ad : Nat → Int → Nat) (cnt : Nat → Int) (X : Nat → Int → Int → Int) (Y : Nat → Int → Int → Option Int) (ln : Int → Int) (hR : Rng X) (hFx : Fx cnt) (hLn : LnOK ln) (hCI : CInv cnt X Y ln) (x g : Int) (hx0 : 0 ≤ x ∧ x ≤ 29) (hxt : x < X 0 0 3) (hg : 0 ≤ g ∧ g < 6) (hO : rcOK X Y g) (sg : Nat → Int → Int) (hsg : rcT X Y g sg) : KI l D tc base yX8_recordNumberOf wsX8_recordNumberOf ({ frames := 0, cells := 0, slots := 0, locals := 0 } : Room) [.ref (ad 0 0), .ref (ad 15 x), .ref (ad 7 g)] (ad, cnt, X, Y, ln) 0 0 (fun z u => ∃ (X1 : Nat → Int → Int → Int) (Y1 : Nat → Int → Int → Option Int), u = (ad, cnt, X1, Y1, ln) ∧ Rng X1 ∧ Frm [1504, 701, 800, 900] X X1 ∧ Frm [500] Y Y1 ∧ CInv cnt X1 Y1 ln ∧ (0 ≤ z ∧ z ≤ 29) ∧ rcOK X1 Y1 g ∧ X 7 g 0 ≤ X1 7 g 0 ∧ z = (if nmAt (sg 1) x (sg 0 0).toNat = -1 then sg 0 0 else nmAt (sg 1) x (sg 0 0).toNat) ∧ rcT X1 Y1 g (if nmAt (sg 1) x (sg 0 0).toNat = -1 then u2 (u2 sg 1 (sg 0 0) x) 0 0 (sg 0 0 + 1) else sg) ∧ gK g X X1) := by
  refine K_of (cc := cX8_recordNumberOf) (maxL := 3) (ret := (some .int)) (by decide) rfl (Nat.le_of_ble_eq_true rfl) ?_
  intro p e s m below meth c ls hx hb hr hml hown hts hlocks hl hK hw hS
  have hown : s.vm.findClass RX8 = some m.cls := hown
  obtain ⟨av9, hav9⟩ : ∃ a9 : Array Value, a9 = ([.ref (ad 0 0), .ref (ad 15 x), .ref (ad 7 g)] : List Value).toArray := ⟨_, rfl⟩
  rw [← hav9] at hts ⊢
  obtain ⟨Q9, hQ9⟩ : ∃ q9Q : State → Prop, q9Q = MQ below (QI D tc base (fun z u => ∃ (X1 : Nat → Int → Int → Int) (Y1 : Nat → Int → Int → Option Int), u = (ad, cnt, X1, Y1, ln) ∧ Rng X1 ∧ Frm [1504, 701, 800, 900] X X1 ∧ Frm [500] Y Y1 ∧ CInv cnt X1 Y1 ln ∧ (0 ≤ z ∧ z ≤ 29) ∧ rcOK X1 Y1 g ∧ X 7 g 0 ≤ X1 7 g 0 ∧ z = (if nmAt (sg 1) x (sg 0 0).toNat = -1 then sg 0 0 else nmAt (sg 1) x (sg 0 0).toNat) ∧ rcT X1 Y1 g (if nmAt (sg 1) x (sg 0 0).toNat = -1 then u2 (u2 sg 1 (sg 0 0) x) 0 0 (sg 0 0 + 1) else sg) ∧ gK g X X1)) av9 s 0 0 (frA base) := ⟨_, rfl⟩
  rw [← hQ9]
  have hi4 : ∀ w ∈ wsX40, w ∈ wsX8_recordNumberOf := fun w h => List.mem_cons_of_mem _ (List.mem_append_left _ (List.mem_append_left _ (List.mem_append_right _ h)))
  have hf4 : fctx s m _ RX8 wsX8_recordNumberOf D tc RX4 TX4 9 4 := ⟨hts, hi4, hown, hK.1, rfl⟩
  have hi6 : ∀ w ∈ wsX60, w ∈ wsX8_recordNumberOf := fun w h => List.mem_cons_of_mem _ (List.mem_append_left _ (List.mem_append_left _ (List.mem_append_left _ (List.mem_append_right _ h))))
  have hf6 : fctx s m _ RX8 wsX8_recordNumberOf D tc RX6 TX6 4 6 := ⟨hts, hi6, hown, hK.1, rfl⟩
  have hi7 : ∀ w ∈ wsX70, w ∈ wsX8_recordNumberOf := fun w h => List.mem_cons_of_mem _ (List.mem_append_right _ h)
  have hf7 : fctx s m _ RX8 wsX8_recordNumberOf D tc RX7 TX7 8 7 := ⟨hts, hi7, hown, hK.1, rfl⟩
  have hi8 : ∀ w ∈ wsX80, w ∈ wsX8_recordNumberOf := fun w h => List.mem_cons_of_mem _ (List.mem_append_left _ (List.mem_append_right _ h))
  have hf8 : fctx s m _ RX8 wsX8_recordNumberOf D tc RX8 TX8 12 8 := ⟨hts, hi8, hown, hK.1, rfl⟩
  have lk39 := hts (.fieldLink RX8 39 (TX8 8).1 (TX8 8).2.1 (TX8 8).2.2.1) (gj_X8_recordNumberOf_0 _ (gp_1 (gp_1 gp_h)))
  have lk85 := hts (.fieldLink RX8 85 (TX7 1).1 (TX7 1).2.1 (TX7 1).2.2.1) (gj_X8_recordNumberOf_0 _ (gp_4 (gp_1 (gp_1 (gp_1 gp_h)))))
  have lk97 := hts (.fieldLink RX8 97 (TX6 0).1 (TX6 0).2.1 (TX6 0).2.2.1) (gj_X8_recordNumberOf_0 _ (gp_4 gp_h))
  have lk205 := hts (.fieldLink RX8 205 (TX7 0).1 (TX7 0).2.1 (TX7 0).2.2.1) (gj_X8_recordNumberOf_0 _ (gp_4 (gp_1 gp_h)))
  have lk231 := hts (.fieldLink RX8 231 (TX4 0).1 (TX4 0).2.1 (TX4 0).2.2.1) (gj_X8_recordNumberOf_0 _ (gp_1 gp_h))
  have lk333 := hts (.fieldLink RX8 333 (TX6 3).1 (TX6 3).2.1 (TX6 3).2.2.1) (gj_X8_recordNumberOf_0 _ (gp_h))
  have lk336 := hts (.fieldLink RX8 336 (TX4 1).1 (TX4 1).2.1 (TX4 1).2.2.1) (gj_X8_recordNumberOf_0 _ (gp_1 (gp_1 (gp_1 gp_h))))
  have lk338 := hts (.fieldLink RX8 338 (TX4 2).1 (TX4 2).2.1 (TX4 2).2.2.1) (gj_X8_recordNumberOf_0 _ (gp_4 (gp_1 (gp_1 gp_h))))
  have hc0 : cnt 0 = 1 := hFx.at 0 1 (by decide)
  have hc5 : cnt 5 = 1 := hFx.at 5 1 (by decide)
  have hc7 : cnt 7 = 6 := hFx.at 7 6 (by decide)
  have hc8 : cnt 8 = 6 := hFx.at 8 6 (by decide)
  have hc9 : cnt 9 = 6 := hFx.at 9 6 (by decide)
  have hc15 : cnt 15 = 30 := hFx.at 15 30 (by decide)
  have hl : lv_has ls 3 [(0, .ref (ad 0 0)), (1, .ref (ad 15 x)), (2, .ref (ad 7 g))] := hl
  have ftc : 0 ≤ X 0 0 3 ∧ X 0 0 3 ≤ 30 := hR 0 0 3
  have fty : 0 ≤ X 0 0 1 ∧ X 0 0 1 ≤ 8 := hR 0 0 1
  have hct : cnt 19 = X 0 0 1 := hCI.2.2.2.1.1
  have hfj : 0 ≤ X 29 0 3 ∧ X 29 0 3 ≤ 4 := hR 29 0 3
  have hfn : 0 ≤ X 29 0 1 ∧ X 29 0 1 ≤ 80 := hR 29 0 1
  have hsg1 : X 7 g 0 = sg 0 0 := hsg.1
  have hsg0 : 0 ≤ X 7 g 0 ∧ X 7 g 0 ≤ 30 := hR 7 g 0
  refine lv_aload_n hx hb dX8_recordNumberOf_0 rfl (lv_at hl 1 rfl) ?_
  refine x_geti (jz := 3) hx hb hf6 hw (by omega) (by omega) sl_15_3 rfl lk333 dX8_recordNumberOf_1 ?_
  have f1 : (-1) ≤ X 15 x 3 ∧ X 15 x 3 ≤ 29 := hR 15 x 3
  refine lv_iconst (v := jI (-1)) hx hb dX8_recordNumberOf_4 rfl ?_
  refine x_icmp_ne (tgt := 68) hx hb (by omega) (by omega) dX8_recordNumberOf_5 (by decide) (fun c2 => ?_) (fun c2 => ?_)
  · refine lv_aload_n hx hb dX8_recordNumberOf_68 rfl (lv_at hl 1 rfl) ?_
    skip
    refine x_geti (jz := 3) hx hb hf6 hw (by omega) (by omega) sl_15_3 rfl lk333 dX8_recordNumberOf_69 ?_
    have f3 : (-1) ≤ X 15 x 3 ∧ X 15 x 3 ≤ 29 := hR 15 x 3
    rw [hQ9]
    refine ret_i (mc := 0) (ms := 0) hx hb hr hlocks hw hS (by first | exact Nat.le_of_ble_eq_true rfl | omega) (by first | exact Nat.le_of_ble_eq_true rfl | omega) dX8_recordNumberOf_72 ?_
    have hnm4 : X 15 x 3 = nmAt (sg 1) x (sg 0 0).toNat := hsg.2.2 x (by omega) hxt
    exact ⟨X, Y, rfl, hR, Frm.rf, Frm.rf, hCI, by omega, hO, Int.le_refl _, (by rw [if_neg (by omega)]; omega), (by rw [if_neg (by omega)]; exact hsg), gK.rf⟩
  · have hrc : X 7 g 0 ≤ 29 := hO.room hR (by omega) hxt (by omega)
    refine lv_aload_n hx hb dX8_recordNumberOf_8 rfl (lv_at hl 1 rfl) ?_
    refine lv_aload_n hx hb dX8_recordNumberOf_9 rfl (lv_at hl 2 rfl) ?_
    refine x_geti (jz := 0) hx hb hf4 hw (by omega) (by omega) sl_7_0 rfl lk231 dX8_recordNumberOf_10 ?_
    have f5 : 0 ≤ X 7 g 0 ∧ X 7 g 0 ≤ 30 := hR 7 g 0
    refine x_puti (jz := 3) hx hb hf6 ⟨tyX6_ok, nmX6⟩ hw hS (by omega) (by omega) sl_15_3 rfl lk333 rfl (tyX6_ok 3 (by decide)) rfl rfl dX8_recordNumberOf_13 (fun H locs hw hS => ?_)
    obtain ⟨X6, hX6⟩ : ∃ Xq, Xq = u3 X 15 x 3 (X 7 g 0) := ⟨_, rfl⟩
    rw [← hX6] at hw
    have hRX6 : Rng X6 := by rw [hX6]; exact rng_set hR (show (-1) ≤ (X 7 g 0) ∧ (X 7 g 0) ≤ 29 by omega)
    have hVX6 : X6 15 x 3 = (X 7 g 0) := by rw [hX6]; exact u3_s _ _ _ _ _
    have hFX6 : Frm [1504, 701, 800, 900] X X6 := by rw [hX6]; exact Frm.set Frm.rf (show 1504 ∈ [1504, 701, 800, 900] by first | exact nlm_in rfl | decide)
    refine lv_aload_n hx hb dX8_recordNumberOf_16 rfl (lv_at hl 0 rfl) ?_
    refine x_geto hx hb hf8 hw (by first | exact Int.le_refl 0 | omega) (by first | exact zlt hc0 | omega) sl_0_8 lk39 dX8_recordNumberOf_17 ?_
    refine lv_aload_n hx hb dX8_recordNumberOf_20 rfl (lv_at hl 2 rfl) ?_
    refine x_geti (jz := 0) hx hb hf4 hw (by omega) (by omega) sl_7_0 rfl lk231 dX8_recordNumberOf_21 ?_
    have e7 : X6 7 g 0 = X 7 g 0 := by rw [hX6, u3_k _ _ _ _ (by first | exact Nat.ne_of_beq_eq_false rfl | decide)]
    rw [e7]
    have f8 : 0 ≤ X 7 g 0 ∧ X 7 g 0 ≤ 30 := hR 7 g 0
    refine lv_aload_n hx hb dX8_recordNumberOf_24 rfl (lv_at hl 1 rfl) ?_
    refine x_aast hx hb hK.1 hw hS (by first | exact Int.le_refl 0 | omega) (by first | exact zlt hc5 | omega) ar_5 rfl rfl sl_15_0 (len_E ar_5 (by first | exact Nat.ne_of_beq_eq_false rfl | decide)) (by omega) (by omega) (by omega) (by omega) (by omega) dX8_recordNumberOf_25 (fun H locs hw hS => ?_)
    obtain ⟨Y9, hY9⟩ : ∃ Yq, Yq = u3 Y 5 0 (X 7 g 0) (some x) := ⟨_, rfl⟩
    rw [← hY9] at hw
    have hVY9 : Y9 5 0 (X 7 g 0) = (some x) := by rw [hY9]; exact u3_s _ _ _ _ _
    have hHY9 : Frm [500] Y Y9 := by rw [hY9]; exact Frm.set Frm.rf (show 500 ∈ [500] by first | exact nlm_in rfl | decide)
    refine lv_aload_n hx hb dX8_recordNumberOf_26 rfl (lv_at hl 2 rfl) ?_
    refine x_geto hx hb hf4 hw (by omega) (by omega) sl_7_1 lk336 dX8_recordNumberOf_27 ?_
    refine lv_aload_n hx hb dX8_recordNumberOf_30 rfl (lv_at hl 2 rfl) ?_
    refine x_geti (jz := 0) hx hb hf4 hw (by omega) (by omega) sl_7_0 rfl lk231 dX8_recordNumberOf_31 ?_
    have e10 : X6 7 g 0 = X 7 g 0 := by rw [hX6, u3_k _ _ _ _ (by first | exact Nat.ne_of_beq_eq_false rfl | decide)]
    rw [e10]
    have f11 : 0 ≤ X 7 g 0 ∧ X 7 g 0 ≤ 30 := hR 7 g 0
    refine lv_aload_n hx hb dX8_recordNumberOf_34 rfl (lv_at hl 1 rfl) ?_
    refine x_getr (jz := 0) hx hb hf6 hw (by omega) (by omega) sl_15_0 rfl lk97 dX8_recordNumberOf_35 (fun y12 => ?_) (fun r13 y12 gr13 lr13 => ?_)
    · exfalso
      have e14 : Y9 15 x 0 = Y 15 x 0 := by rw [hY9, u3_k _ _ _ _ (by first | exact Nat.ne_of_beq_eq_false rfl | decide)]
      rw [e14] at y12
      exact absurd y12 (hCI.2.2.2.2.1 x (by omega) (by omega))
    · have e15 : Y9 15 x 0 = Y 15 x 0 := by rw [hY9, u3_k _ _ _ _ (by first | exact Nat.ne_of_beq_eq_false rfl | decide)]
      rw [e15] at y12
      refine x_geti (jz := 0) hx hb hf7 hw (by omega) (by omega) sl_19_0 rfl lk205 dX8_recordNumberOf_38 ?_
      have e16 : X6 19 r13 0 = X 19 r13 0 := by rw [hX6, u3_k _ _ _ _ (by first | exact Nat.ne_of_beq_eq_false rfl | decide)]
      rw [e16]
      have f17 : 0 ≤ X 19 r13 0 ∧ X 19 r13 0 ≤ 7 := hR 19 r13 0
      refine x_iast hx hb hK.1 hw hS (by omega) (by omega) ar_8 (len_E ar_8 (by first | exact Nat.ne_of_beq_eq_false rfl | decide)) (by omega) (by omega) (by omega) dX8_recordNumberOf_41 (fun H locs hw hS => ?_)
      obtain ⟨X18, hX18⟩ : ∃ Xq, Xq = u3 X6 8 g (X 7 g 0) (X 19 r13 0) := ⟨_, rfl⟩
      rw [← hX18] at hw
      have hRX18 : Rng X18 := by rw [hX18]; exact rng_set hRX6 (show 0 ≤ (X 19 r13 0) ∧ (X 19 r13 0) ≤ 7 by omega)
      have hVX18 : X18 8 g (X 7 g 0) = (X 19 r13 0) := by rw [hX18]; exact u3_s _ _ _ _ _
      have hFX18 : Frm [1504, 701, 800, 900] X X18 := by rw [hX18]; exact Frm.set hFX6 (show 800 ∈ [1504, 701, 800, 900] by first | exact nlm_in rfl | decide)
      refine lv_aload_n hx hb dX8_recordNumberOf_42 rfl (lv_at hl 2 rfl) ?_
      refine x_geto hx hb hf4 hw (by omega) (by omega) sl_7_2 lk338 dX8_recordNumberOf_43 ?_
      refine lv_aload_n hx hb dX8_recordNumberOf_46 rfl (lv_at hl 2 rfl) ?_
      refine x_geti (jz := 0) hx hb hf4 hw (by omega) (by omega) sl_7_0 rfl lk231 dX8_recordNumberOf_47 ?_
      have e19 : X18 7 g 0 = X 7 g 0 := by rw [hX18, u3_k _ _ _ _ (by first | exact Nat.ne_of_beq_eq_false rfl | decide), hX6, u3_k _ _ _ _ (by first | exact Nat.ne_of_beq_eq_false rfl | decide)]
      rw [e19]
      have f20 : 0 ≤ X 7 g 0 ∧ X 7 g 0 ≤ 30 := hR 7 g 0
      refine lv_aload_n hx hb dX8_recordNumberOf_50 rfl (lv_at hl 1 rfl) ?_
      refine x_getr (jz := 0) hx hb hf6 hw (by omega) (by omega) sl_15_0 rfl lk97 dX8_recordNumberOf_51 (fun y21 => ?_) (fun r22 y21 gr22 lr22 => ?_)
      · exfalso
        have e23 : Y9 15 x 0 = Y 15 x 0 := by rw [hY9, u3_k _ _ _ _ (by first | exact Nat.ne_of_beq_eq_false rfl | decide)]
        rw [e23] at y21
        rw [y12] at y21; cases y21
      · have e24 : Y9 15 x 0 = Y 15 x 0 := by rw [hY9, u3_k _ _ _ _ (by first | exact Nat.ne_of_beq_eq_false rfl | decide)]
        rw [e24] at y21
        have er22 : r22 = r13 := by rw [y12] at y21; cases y21; rfl
        rw [er22]
        refine x_geti (jz := 1) hx hb hf7 hw (by omega) (by omega) sl_19_1 rfl lk85 dX8_recordNumberOf_54 ?_
        have e25 : X18 19 r13 1 = X 19 r13 1 := by rw [hX18, u3_k _ _ _ _ (by first | exact Nat.ne_of_beq_eq_false rfl | decide), hX6, u3_k _ _ _ _ (by first | exact Nat.ne_of_beq_eq_false rfl | decide)]
        rw [e25]
        have f26 : 0 ≤ X 19 r13 1 ∧ X 19 r13 1 ≤ 5 := hR 19 r13 1
        refine x_iast hx hb hK.1 hw hS (by omega) (by omega) ar_9 (len_E ar_9 (by first | exact Nat.ne_of_beq_eq_false rfl | decide)) (by omega) (by omega) (by omega) dX8_recordNumberOf_57 (fun H locs hw hS => ?_)
        obtain ⟨X27, hX27⟩ : ∃ Xq, Xq = u3 X18 9 g (X 7 g 0) (X 19 r13 1) := ⟨_, rfl⟩
        rw [← hX27] at hw
        have hRX27 : Rng X27 := by rw [hX27]; exact rng_set hRX18 (show 0 ≤ (X 19 r13 1) ∧ (X 19 r13 1) ≤ 5 by omega)
        have hVX27 : X27 9 g (X 7 g 0) = (X 19 r13 1) := by rw [hX27]; exact u3_s _ _ _ _ _
        have hFX27 : Frm [1504, 701, 800, 900] X X27 := by rw [hX27]; exact Frm.set hFX18 (show 900 ∈ [1504, 701, 800, 900] by first | exact nlm_in rfl | decide)
        refine lv_aload_n hx hb dX8_recordNumberOf_58 rfl (lv_at hl 2 rfl) ?_
        refine lv_dup hx hb dX8_recordNumberOf_59 rfl ?_
        refine x_geti (jz := 0) hx hb hf4 hw (by omega) (by omega) sl_7_0 rfl lk231 dX8_recordNumberOf_60 ?_
        have e28 : X27 7 g 0 = X 7 g 0 := by rw [hX27, u3_k _ _ _ _ (by first | exact Nat.ne_of_beq_eq_false rfl | decide), hX18, u3_k _ _ _ _ (by first | exact Nat.ne_of_beq_eq_false rfl | decide), hX6, u3_k _ _ _ _ (by first | exact Nat.ne_of_beq_eq_false rfl | decide)]
        rw [e28]
        have f29 : 0 ≤ X 7 g 0 ∧ X 7 g 0 ≤ 30 := hR 7 g 0
        refine lv_iconst (v := jI 1) hx hb dX8_recordNumberOf_63 rfl ?_
        refine x_iadd hx hb dX8_recordNumberOf_64 ?_
        refine x_puti (jz := 0) hx hb hf4 ⟨tyX4_ok, nmX4⟩ hw hS (by omega) (by omega) sl_7_0 rfl lk231 rfl (tyX4_ok 0 (by decide)) rfl rfl dX8_recordNumberOf_65 (fun H locs hw hS => ?_)
        obtain ⟨X30, hX30⟩ : ∃ Xq, Xq = u3 X27 7 g 0 ((X 7 g 0) + 1) := ⟨_, rfl⟩
        rw [← hX30] at hw
        have hRX30 : Rng X30 := by rw [hX30]; exact rng_set hRX27 (show 0 ≤ ((X 7 g 0) + 1) ∧ ((X 7 g 0) + 1) ≤ 30 by omega)
        have hVX30 : X30 7 g 0 = ((X 7 g 0) + 1) := by rw [hX30]; exact u3_s _ _ _ _ _
        have hFX30 : Frm [1504, 701, 800, 900] X X30 := by rw [hX30]; exact Frm.set hFX27 (show 701 ∈ [1504, 701, 800, 900] by first | exact nlm_in rfl | decide)
        refine lv_aload_n hx hb dX8_recordNumberOf_68 rfl (lv_at hl 1 rfl) ?_
        skip
        refine x_geti (jz := 3) hx hb hf6 hw (by omega) (by omega) sl_15_3 rfl lk333 dX8_recordNumberOf_69 ?_
        have e31 : X30 15 x 3 = X6 15 x 3 := by rw [hX30, u3_k _ _ _ _ (by first | exact Nat.ne_of_beq_eq_false rfl | decide), hX27, u3_k _ _ _ _ (by first | exact Nat.ne_of_beq_eq_false rfl | decide), hX18, u3_k _ _ _ _ (by first | exact Nat.ne_of_beq_eq_false rfl | decide)]
        rw [e31]
        rw [hVX6]
        rw [hQ9]
        refine ret_i (mc := 0) (ms := 0) hx hb hr hlocks hw hS (by first | exact Nat.le_of_ble_eq_true rfl | omega) (by first | exact Nat.le_of_ble_eq_true rfl | omega) dX8_recordNumberOf_72 ?_
        have q32 : Frm [1504, 701, 800, 900, 707] X X6 := by rw [hX6]; exact Frm.set Frm.rf (show 1504 ∈ [1504, 701, 800, 900, 707] by first | exact nlm_in rfl | decide)
        have q33 : Frm [1504, 701, 800, 900, 707] X X18 := by rw [hX18]; exact Frm.set q32 (show 800 ∈ [1504, 701, 800, 900, 707] by first | exact nlm_in rfl | decide)
        have q34 : Frm [1504, 701, 800, 900, 707] X X27 := by rw [hX27]; exact Frm.set q33 (show 900 ∈ [1504, 701, 800, 900, 707] by first | exact nlm_in rfl | decide)
        have q35 : Frm [1504, 701, 800, 900, 707] X X30 := by rw [hX30]; exact Frm.set q34 (show 701 ∈ [1504, 701, 800, 900, 707] by first | exact nlm_in rfl | decide)
        have h36 : X 19 r13 0 = r13 := (hCI.2.2.2.1.2 r13 (by omega) (by omega)).2
        have e37 : X30 8 g (X 7 g 0) < X 0 0 1 := (by rw [hX30, u3_k _ _ _ _ (by first | exact Nat.ne_of_beq_eq_false rfl | decide), hX27, u3_k _ _ _ _ (by first | exact Nat.ne_of_beq_eq_false rfl | decide)]; rw [hVX18]; omega)
        have hnm38 : X 15 x 3 = nmAt (sg 1) x (sg 0 0).toNat := hsg.2.2 x (by omega) hxt
        have hnum39 : X 19 r13 0 = r13 := (hCI.2.2.2.1.2 r13 (by omega) (by omega)).2
        have q40 : gK g X X6 := by rw [hX6]; exact gK.set gK.rf (fun _ => by first | rfl | omega)
        have q41 : gK g X X18 := by rw [hX18]; exact gK.set q40 (fun _ => by first | rfl | omega)
        have q42 : gK g X X27 := by rw [hX27]; exact gK.set q41 (fun _ => by first | rfl | omega)
        have q43 : gK g X X30 := by rw [hX30]; exact gK.set q42 (fun _ => by first | rfl | omega)
        exact ⟨X30, Y9, rfl, hRX30, hFX30, hHY9, cinv_record (g := g) hCI q35 hHY9 (fun i hi => ⟨(by rw [hX30, u3_ij (by omega), hX27, u3_k _ _ _ _ (by first | exact Nat.ne_of_beq_eq_false rfl | decide), hX18, u3_k _ _ _ _ (by first | exact Nat.ne_of_beq_eq_false rfl | decide), hX6, u3_k _ _ _ _ (by first | exact Nat.ne_of_beq_eq_false rfl | decide)]), fun j => (by rw [hX30, u3_k _ _ _ _ (by first | exact Nat.ne_of_beq_eq_false rfl | decide), hX27, u3_k _ _ _ _ (by first | exact Nat.ne_of_beq_eq_false rfl | decide), hX18, u3_ij (by omega), hX6, u3_k _ _ _ _ (by first | exact Nat.ne_of_beq_eq_false rfl | decide)])⟩) (fun r a b => if hr9 : r = X 7 g 0 then (by rw [hr9]; exact e37) else (by rw [hVX30] at b; rw [hX30, u3_k _ _ _ _ (by first | exact Nat.ne_of_beq_eq_false rfl | decide), hX27, u3_k _ _ _ _ (by first | exact Nat.ne_of_beq_eq_false rfl | decide), hX18, u3_ij (by omega), hX6, u3_k _ _ _ _ (by first | exact Nat.ne_of_beq_eq_false rfl | decide)]; exact hCI.2.2.2.2.2.2.1 g r (by omega) (by omega) a (by omega))), by omega, hO.push (x := x) (by omega) (by omega) (by omega) hVX30 (by rw [hX30, u3_k _ _ _ _ (by first | exact Nat.ne_of_beq_eq_false rfl | decide), hX27, u3_k _ _ _ _ (by first | exact Nat.ne_of_beq_eq_false rfl | decide), hX18, u3_k _ _ _ _ (by first | exact Nat.ne_of_beq_eq_false rfl | decide), hX6, u3_k _ _ _ _ (by first | exact Nat.ne_of_beq_eq_false rfl | decide)]) (by rw [hX30, u3_k _ _ _ _ (by first | exact Nat.ne_of_beq_eq_false rfl | decide), hX27, u3_k _ _ _ _ (by first | exact Nat.ne_of_beq_eq_false rfl | decide), hX18, u3_k _ _ _ _ (by first | exact Nat.ne_of_beq_eq_false rfl | decide)]; exact hVX6) (fun i hi => (by rw [hX30, u3_k _ _ _ _ (by first | exact Nat.ne_of_beq_eq_false rfl | decide), hX27, u3_k _ _ _ _ (by first | exact Nat.ne_of_beq_eq_false rfl | decide), hX18, u3_k _ _ _ _ (by first | exact Nat.ne_of_beq_eq_false rfl | decide), hX6, u3_ij (by omega)])) (by exact hVY9) (fun j hj => (by rw [hY9, u3_ij (by omega)])), (by rw [hVX30]; omega), (by rw [if_pos (by omega)]; omega), (by rw [if_pos (by omega)]; exact rcT.push (x := x) hsg (by omega) ⟨by omega, hxt⟩ (by omega) hVX30 (by rw [hX30, u3_k _ _ _ _ (by first | exact Nat.ne_of_beq_eq_false rfl | decide), hX27, u3_k _ _ _ _ (by first | exact Nat.ne_of_beq_eq_false rfl | decide), hX18, u3_k _ _ _ _ (by first | exact Nat.ne_of_beq_eq_false rfl | decide), hX6, u3_k _ _ _ _ (by first | exact Nat.ne_of_beq_eq_false rfl | decide)]) (by rw [hX30, u3_k _ _ _ _ (by first | exact Nat.ne_of_beq_eq_false rfl | decide), hX27, u3_k _ _ _ _ (by first | exact Nat.ne_of_beq_eq_false rfl | decide), hX18, u3_k _ _ _ _ (by first | exact Nat.ne_of_beq_eq_false rfl | decide)]; exact hVX6) (fun i hi => (by rw [hX30, u3_k _ _ _ _ (by first | exact Nat.ne_of_beq_eq_false rfl | decide), hX27, u3_k _ _ _ _ (by first | exact Nat.ne_of_beq_eq_false rfl | decide), hX18, u3_k _ _ _ _ (by first | exact Nat.ne_of_beq_eq_false rfl | decide), hX6, u3_ij (by omega)])) (by exact hVY9) (fun j hj => (by rw [hY9, u3_ij (by omega)])) (by rw [tyo_some y12]; exact (by rw [hX30, u3_k _ _ _ _ (by first | exact Nat.ne_of_beq_eq_false rfl | decide), hX27, u3_k _ _ _ _ (by first | exact Nat.ne_of_beq_eq_false rfl | decide)]; rw [hVX18]; exact hnum39)) (fun j hj => (by rw [hX30, u3_k _ _ _ _ (by first | exact Nat.ne_of_beq_eq_false rfl | decide), hX27, u3_k _ _ _ _ (by first | exact Nat.ne_of_beq_eq_false rfl | decide), hX18, u3_ij (by omega), hX6, u3_k _ _ _ _ (by first | exact Nat.ne_of_beq_eq_false rfl | decide)])) (by unfold cFc; rw [tyo_some y12]; exact (by rw [hX30, u3_k _ _ _ _ (by first | exact Nat.ne_of_beq_eq_false rfl | decide)]; exact hVX27)) (fun j hj => (by rw [hX30, u3_k _ _ _ _ (by first | exact Nat.ne_of_beq_eq_false rfl | decide), hX27, u3_ij (by omega), hX18, u3_k _ _ _ _ (by first | exact Nat.ne_of_beq_eq_false rfl | decide), hX6, u3_k _ _ _ _ (by first | exact Nat.ne_of_beq_eq_false rfl | decide)])) (fun i => (by rw [hX30, u3_k _ _ _ _ (by first | exact Nat.ne_of_beq_eq_false rfl | decide), hX27, u3_k _ _ _ _ (by first | exact Nat.ne_of_beq_eq_false rfl | decide), hX18, u3_k _ _ _ _ (by first | exact Nat.ne_of_beq_eq_false rfl | decide), hX6, u3_k _ _ _ _ (by first | exact Nat.ne_of_beq_eq_false rfl | decide)])) (fun i => (by rw [hY9, u3_k _ _ _ _ (by first | exact Nat.ne_of_beq_eq_false rfl | decide)]))), q43⟩

set_option maxHeartbeats 4000000 in
set_option maxRecDepth 100000 in
theorem c_X4_numberOf (l : Launch) (D : va_G) (tc : Nat → ClassId) (base : Nat) (ad : Nat → Int → Nat) (cnt : Nat → Int) (X : Nat → Int → Int → Int) (Y : Nat → Int → Int → Option Int) (ln : Int → Int) (hR : Rng X) (hFx : Fx cnt) (hLn : LnOK ln) (hCI : CInv cnt X Y ln) (g r : Int) (hg : 0 ≤ g ∧ g < 6) (hr0 : 0 ≤ r ∧ r < cnt 26) (hrc : X 7 g 6 ≤ 149) (sg : Nat → Int → Int) (hsg : rcR X Y ln g sg) (yy kk : Int) (hyk : 0 ≤ yy ∧ yy < X 0 0 3 ∧ 0 ≤ kk ∧ kk < cFc X Y yy ∧ Y 17 yy kk = some r) : KI l D tc base yX4_numberOf wsX4_numberOf ({ frames := 0, cells := 0, slots := 0, locals := 0 } : Room) [.ref (ad 7 g), .ref (ad 26 r)] (ad, cnt, X, Y, ln) 0 0 (fun z u => ∃ (X1 : Nat → Int → Int → Int), u = (ad, cnt, X1, Y, ln) ∧ Rng X1 ∧ Frm [2602, 1300, 1400, 707] X X1 ∧ CInv cnt X1 Y ln ∧ (-1 ≤ z ∧ z ≤ 149) ∧ X1 7 g 6 ≤ X 7 g 6 + 1 ∧ z = (if nmAt (fun q => cRid Y (sg 3 q) (sg 4 q)) r (sg 2 0).toNat = -1 then sg 2 0 else nmAt (fun q => cRid Y (sg 3 q) (sg 4 q)) r (sg 2 0).toNat) ∧ rcR X1 Y ln g (if nmAt (fun q => cRid Y (sg 3 q) (sg 4 q)) r (sg 2 0).toNat = -1 then u2 (u2 (u2 sg 3 (sg 2 0) yy) 4 (sg 2 0) kk) 2 0 (sg 2 0 + 1) else sg) ∧ gK g X X1) := by
  refine K_of (cc := cX4_numberOf) (maxL := 3) (ret := (some .int)) (by decide) rfl (Nat.le_of_ble_eq_true rfl) ?_
  intro p e s m below meth c ls hx hb hr hml hown hts hlocks hl hK hw hS
  have hown : s.vm.findClass RX4 = some m.cls := hown
  obtain ⟨av9, hav9⟩ : ∃ a9 : Array Value, a9 = ([.ref (ad 7 g), .ref (ad 26 r)] : List Value).toArray := ⟨_, rfl⟩
  rw [← hav9] at hts ⊢
  obtain ⟨Q9, hQ9⟩ : ∃ q9Q : State → Prop, q9Q = MQ below (QI D tc base (fun z u => ∃ (X1 : Nat → Int → Int → Int), u = (ad, cnt, X1, Y, ln) ∧ Rng X1 ∧ Frm [2602, 1300, 1400, 707] X X1 ∧ CInv cnt X1 Y ln ∧ (-1 ≤ z ∧ z ≤ 149) ∧ X1 7 g 6 ≤ X 7 g 6 + 1 ∧ z = (if nmAt (fun q => cRid Y (sg 3 q) (sg 4 q)) r (sg 2 0).toNat = -1 then sg 2 0 else nmAt (fun q => cRid Y (sg 3 q) (sg 4 q)) r (sg 2 0).toNat) ∧ rcR X1 Y ln g (if nmAt (fun q => cRid Y (sg 3 q) (sg 4 q)) r (sg 2 0).toNat = -1 then u2 (u2 (u2 sg 3 (sg 2 0) yy) 4 (sg 2 0) kk) 2 0 (sg 2 0 + 1) else sg) ∧ gK g X X1)) av9 s 0 0 (frA base) := ⟨_, rfl⟩
  rw [← hQ9]
  have hi4 : ∀ w ∈ wsX40, w ∈ wsX4_numberOf := fun w h => List.mem_cons_of_mem _ (List.mem_append_right _ h)
  have hf4 : fctx s m _ RX4 wsX4_numberOf D tc RX4 TX4 9 4 := ⟨hts, hi4, hown, hK.1, rfl⟩
  have hi5 : ∀ w ∈ wsX50, w ∈ wsX4_numberOf := fun w h => List.mem_cons_of_mem _ (List.mem_append_left _ (List.mem_append_right _ h))
  have hf5 : fctx s m _ RX4 wsX4_numberOf D tc RX5 TX5 2 5 := ⟨hts, hi5, hown, hK.1, rfl⟩
  have lk28 := hts (.fieldLink RX4 28 (TX4 7).1 (TX4 7).2.1 (TX4 7).2.2.1) (gj_X4_numberOf_0 _ (gp_1 (gp_1 gp_h)))
  have lk31 := hts (.fieldLink RX4 31 (TX4 8).1 (TX4 8).2.1 (TX4 8).2.2.1) (gj_X4_numberOf_0 _ (gp_4 gp_h))
  have lk34 := hts (.fieldLink RX4 34 (TX5 1).1 (TX5 1).2.1 (TX5 1).2.2.1) (gj_X4_numberOf_0 _ (gp_h))
  have lk40 := hts (.fieldLink RX4 40 (TX4 6).1 (TX4 6).2.1 (TX4 6).2.2.1) (gj_X4_numberOf_0 _ (gp_1 gp_h))
  have lk43 := hts (.fieldLink RX4 43 (TX5 0).1 (TX5 0).2.1 (TX5 0).2.2.1) (gj_X4_numberOf_0 _ (gp_1 (gp_1 (gp_1 gp_h))))
  have hc7 : cnt 7 = 6 := hFx.at 7 6 (by decide)
  have hc13 : cnt 13 = 6 := hFx.at 13 6 (by decide)
  have hc14 : cnt 14 = 6 := hFx.at 14 6 (by decide)
  have hc27 : cnt 27 = cnt 26 := hFx.2.2
  have hl : lv_has ls 3 [(0, .ref (ad 7 g)), (1, .ref (ad 26 r))] := hl
  have ftc : 0 ≤ X 0 0 3 ∧ X 0 0 3 ≤ 30 := hR 0 0 3
  have fty : 0 ≤ X 0 0 1 ∧ X 0 0 1 ≤ 8 := hR 0 0 1
  have hct : cnt 19 = X 0 0 1 := hCI.2.2.2.1.1
  have hfj : 0 ≤ X 29 0 3 ∧ X 29 0 3 ≤ 4 := hR 29 0 3
  have hfn : 0 ≤ X 29 0 1 ∧ X 29 0 1 ≤ 80 := hR 29 0 1
  have hsg1 : X 7 g 6 = sg 2 0 := hsg.1
  have hsg0 : 0 ≤ X 7 g 6 ∧ X 7 g 6 ≤ 150 := hR 7 g 6
  refine lv_aload_n hx hb dX4_numberOf_0 rfl (lv_at hl 1 rfl) ?_
  refine x_geti (jz := 1) hx hb hf5 hw (by omega) (by omega) sl_26_1 rfl lk34 dX4_numberOf_1 ?_
  have f1 : (-1) ≤ X 26 r 1 ∧ X 26 r 1 ≤ 149 := hR 26 r 1
  refine lv_iconst (v := jI (-1)) hx hb dX4_numberOf_4 rfl ?_
  refine x_icmp_ne (tgt := 77) hx hb (by omega) (by omega) dX4_numberOf_5 (by decide) (fun c2 => ?_) (fun c2 => ?_)
  · refine lv_aload_n hx hb dX4_numberOf_77 rfl (lv_at hl 1 rfl) ?_
    refine x_geti (jz := 1) hx hb hf5 hw (by omega) (by omega) sl_26_1 rfl lk34 dX4_numberOf_78 ?_
    have f3 : (-1) ≤ X 26 r 1 ∧ X 26 r 1 ≤ 149 := hR 26 r 1
    rw [hQ9]
    refine ret_i (mc := 0) (ms := 0) hx hb hr hlocks hw hS (by first | exact Nat.le_of_ble_eq_true rfl | omega) (by first | exact Nat.le_of_ble_eq_true rfl | omega) dX4_numberOf_81 ?_
    have hnm4 : X 26 r 1 = nmAt (fun q => cRid Y (sg 3 q) (sg 4 q)) r (sg 2 0).toNat := hsg.2.2 yy kk r hyk.1 hyk.2.1 hyk.2.2.1 hyk.2.2.2.1 hyk.2.2.2.2
    exact ⟨X, rfl, hR, Frm.rf, hCI, by omega, by omega, (by rw [if_neg (by omega)]; omega), (by rw [if_neg (by omega)]; exact hsg), gK.rf⟩
  · refine lv_aload_n hx hb dX4_numberOf_8 rfl (lv_at hl 1 rfl) ?_
    refine lv_aload_n hx hb dX4_numberOf_9 rfl (lv_at hl 0 rfl) ?_
    refine x_geti (jz := 6) hx hb hf4 hw (by omega) (by omega) sl_7_6 rfl lk40 dX4_numberOf_10 ?_
    have f5 : 0 ≤ X 7 g 6 ∧ X 7 g 6 ≤ 150 := hR 7 g 6
    refine x_puti (jz := 1) hx hb hf5 ⟨tyX5_ok, nmX5⟩ hw hS (by omega) (by omega) sl_26_1 rfl lk34 rfl (tyX5_ok 1 (by decide)) rfl rfl dX4_numberOf_13 (fun H locs hw hS => ?_)
    obtain ⟨X6, hX6⟩ : ∃ Xq, Xq = u3 X 26 r 1 (X 7 g 6) := ⟨_, rfl⟩
    rw [← hX6] at hw
    have hRX6 : Rng X6 := by rw [hX6]; exact rng_set hR (show (-1) ≤ (X 7 g 6) ∧ (X 7 g 6) ≤ 149 by omega)
    have hVX6 : X6 26 r 1 = (X 7 g 6) := by rw [hX6]; exact u3_s _ _ _ _ _
    have hFX6 : Frm [2602, 1300, 1400, 707] X X6 := by rw [hX6]; exact Frm.set Frm.rf (show 2602 ∈ [2602, 1300, 1400, 707] by first | exact nlm_in rfl | decide)
    refine lv_aload_n hx hb dX4_numberOf_16 rfl (lv_at hl 0 rfl) ?_
    refine x_geto hx hb hf4 hw (by omega) (by omega) sl_7_7 lk28 dX4_numberOf_17 ?_
    refine lv_aload_n hx hb dX4_numberOf_20 rfl (lv_at hl 0 rfl) ?_
    refine x_geti (jz := 6) hx hb hf4 hw (by omega) (by omega) sl_7_6 rfl lk40 dX4_numberOf_21 ?_
    have e7 : X6 7 g 6 = X 7 g 6 := by rw [hX6, u3_k _ _ _ _ (by first | exact Nat.ne_of_beq_eq_false rfl | decide)]
    rw [e7]
    have f8 : 0 ≤ X 7 g 6 ∧ X 7 g 6 ≤ 150 := hR 7 g 6
    refine lv_aload_n hx hb dX4_numberOf_24 rfl (lv_at hl 1 rfl) ?_
    refine x_geto hx hb hf5 hw (by omega) (by omega) sl_26_0 lk43 dX4_numberOf_25 ?_
    have f9 : 0 ≤ ln r ∧ ln r ≤ 12 := hLn r
    refine x_alenl hx hb hK.1 hw (by omega) (by omega) ar_27 (show lenE ln 27 r = ln r from rfl) (by omega) dX4_numberOf_28 ?_
    refine x_iast hx hb hK.1 hw hS (by omega) (by omega) ar_13 (len_E ar_13 (by first | exact Nat.ne_of_beq_eq_false rfl | decide)) (by omega) (by omega) (by omega) dX4_numberOf_29 (fun H locs hw hS => ?_)
    obtain ⟨X10, hX10⟩ : ∃ Xq, Xq = u3 X6 13 g (X 7 g 6) (ln r) := ⟨_, rfl⟩
    rw [← hX10] at hw
    have hRX10 : Rng X10 := by rw [hX10]; exact rng_set hRX6 (show 0 ≤ (ln r) ∧ (ln r) ≤ 12 by omega)
    have hVX10 : X10 13 g (X 7 g 6) = (ln r) := by rw [hX10]; exact u3_s _ _ _ _ _
    have hFX10 : Frm [2602, 1300, 1400, 707] X X10 := by rw [hX10]; exact Frm.set hFX6 (show 1300 ∈ [2602, 1300, 1400, 707] by first | exact nlm_in rfl | decide)
    refine lv_iconst (v := jI 0) hx hb dX4_numberOf_30 rfl ?_
    refine lv_istore_n (lv' := [(2, .int (jI 0)), (0, .ref (ad 7 g)), (1, .ref (ad 26 r))]) hx hb dX4_numberOf_31 rfl hl (by decide) rfl (fun ls hl => ?_)
    have lp32 : ∀ (nn : Nat) (iz : Int) (Xa : Nat → Int → Int → Int) (H : Heap) (locs : List Loc) (ls : Array Slot), (12 - iz) < (nn : Int) → (Rng Xa) → (Frm [1400] X10 Xa) → (0 ≤ iz ∧ iz ≤ 12) → (∀ j, 0 ≤ j → j < iz → Xa 14 g (12 * X 7 g 6 + j) = X 27 r j) → (∀ p, p < 12 * X 7 g 6 → Xa 14 g p = X 14 g p) → (gK g X10 Xa) → wd D tc base (ad, cnt, Xa, Y, ln) H → va_S (frA base) s.heap H locs → lv_has ls 3 [(0, .ref (ad 7 g)), (1, .ref (ad 26 r)), (2, .int (jI iz))] → W p l e ({ frames := 0, cells := 0, slots := 0, locals := 0 } : Room) s m av9 below meth c H locs 0 0 Q9 (F0 m 32 ls []) := by
      intro nn
      induction nn with
      | zero => intro iz Xa H locs ls hm hRXa hGXa hiz hcp hcl9 hgkXa hw hS hl; exfalso; omega
      | succ nn ih32 =>
        intro iz Xa H locs ls hm hRXa hGXa hiz hcp hcl9 hgkXa hw hS hl
        have hFXa : Frm [2602, 1300, 1400, 707] X Xa := Frm.tr hFX10 (Frm.mono hGXa (by first | exact nls_of rfl | decide))
        refine lv_iload_n hx hb dX4_numberOf_32 rfl (lv_at hl 2 rfl) ?_
        refine lv_aload_n hx hb dX4_numberOf_33 rfl (lv_at hl 1 rfl) ?_
        refine x_geto hx hb hf5 hw (by omega) (by omega) sl_26_0 lk43 dX4_numberOf_34 ?_
        have f11 : 0 ≤ ln r ∧ ln r ≤ 12 := hLn r
        refine x_alenl hx hb hK.1 hw (by omega) (by omega) ar_27 (show lenE ln 27 r = ln r from rfl) (by omega) dX4_numberOf_37 ?_
        refine x_icmp_ge (tgt := 67) hx hb (by omega) (by omega) dX4_numberOf_38 (by decide) (fun c12 => ?_) (fun c12 => ?_)
        · refine lv_aload_n hx hb dX4_numberOf_67 rfl (lv_at hl 0 rfl) ?_
          refine lv_dup hx hb dX4_numberOf_68 rfl ?_
          refine x_geti (jz := 6) hx hb hf4 hw (by omega) (by omega) sl_7_6 rfl lk40 dX4_numberOf_69 ?_
          have e13 : Xa 7 g 6 = X 7 g 6 := by rw [hGXa 7 g 6 (show 707 ∉ [1400] by first | exact nlm_ni rfl | decide), hX10, u3_k _ _ _ _ (by first | exact Nat.ne_of_beq_eq_false rfl | decide), hX6, u3_k _ _ _ _ (by first | exact Nat.ne_of_beq_eq_false rfl | decide)]
          rw [e13]
          have f14 : 0 ≤ X 7 g 6 ∧ X 7 g 6 ≤ 150 := hR 7 g 6
          refine lv_iconst (v := jI 1) hx hb dX4_numberOf_72 rfl ?_
          refine x_iadd hx hb dX4_numberOf_73 ?_
          refine x_puti (jz := 6) hx hb hf4 ⟨tyX4_ok, nmX4⟩ hw hS (by omega) (by omega) sl_7_6 rfl lk40 rfl (tyX4_ok 6 (by decide)) rfl rfl dX4_numberOf_74 (fun H locs hw hS => ?_)
          obtain ⟨X15, hX15⟩ : ∃ Xq, Xq = u3 Xa 7 g 6 ((X 7 g 6) + 1) := ⟨_, rfl⟩
          rw [← hX15] at hw
          have hRX15 : Rng X15 := by rw [hX15]; exact rng_set hRXa (show 0 ≤ ((X 7 g 6) + 1) ∧ ((X 7 g 6) + 1) ≤ 150 by omega)
          have hVX15 : X15 7 g 6 = ((X 7 g 6) + 1) := by rw [hX15]; exact u3_s _ _ _ _ _
          have hFX15 : Frm [2602, 1300, 1400, 707] X X15 := by rw [hX15]; exact Frm.set hFXa (show 707 ∈ [2602, 1300, 1400, 707] by first | exact nlm_in rfl | decide)
          refine lv_aload_n hx hb dX4_numberOf_77 rfl (lv_at hl 1 rfl) ?_
          refine x_geti (jz := 1) hx hb hf5 hw (by omega) (by omega) sl_26_1 rfl lk34 dX4_numberOf_78 ?_
          have e16 : X15 26 r 1 = X6 26 r 1 := by rw [hX15, u3_k _ _ _ _ (by first | exact Nat.ne_of_beq_eq_false rfl | decide), hGXa 26 r 1 (show 2602 ∉ [1400] by first | exact nlm_ni rfl | decide), hX10, u3_k _ _ _ _ (by first | exact Nat.ne_of_beq_eq_false rfl | decide)]
          rw [e16]
          rw [hVX6]
          rw [hQ9]
          refine ret_i (mc := 0) (ms := 0) hx hb hr hlocks hw hS (by first | exact Nat.le_of_ble_eq_true rfl | omega) (by first | exact Nat.le_of_ble_eq_true rfl | omega) dX4_numberOf_81 ?_
          have q17 : Frm [707, 1300, 1400, 2602] X X6 := by rw [hX6]; exact Frm.set Frm.rf (show 2602 ∈ [707, 1300, 1400, 2602] by first | exact nlm_in rfl | decide)
          have q18 : Frm [707, 1300, 1400, 2602] X X10 := by rw [hX10]; exact Frm.set q17 (show 1300 ∈ [707, 1300, 1400, 2602] by first | exact nlm_in rfl | decide)
          have q19 : Frm [707, 1300, 1400, 2602] X Xa := Frm.tr q18 (Frm.mono hGXa (by first | exact nls_of rfl | decide))
          have q20 : Frm [707, 1300, 1400, 2602] X X15 := by rw [hX15]; exact Frm.set q19 (show 707 ∈ [707, 1300, 1400, 2602] by first | exact nlm_in rfl | decide)
          have hCq21 : CInv cnt X15 Y ln := cinv_frm (M := [707, 1300, 1400, 2602]) (N := []) hCI q20 Frm.rf (by decide) (by decide)
          have hnm22 : X 26 r 1 = nmAt (fun q => cRid Y (sg 3 q) (sg 4 q)) r (sg 2 0).toNat := hsg.2.2 yy kk r hyk.1 hyk.2.1 hyk.2.2.1 hyk.2.2.2.1 hyk.2.2.2.2
          have q23 : Frm [707, 1300, 1400, 2602] X X6 := by rw [hX6]; exact Frm.set Frm.rf (show 2602 ∈ [707, 1300, 1400, 2602] by first | exact nlm_in rfl | decide)
          have q24 : Frm [707, 1300, 1400, 2602] X X10 := by rw [hX10]; exact Frm.set q23 (show 1300 ∈ [707, 1300, 1400, 2602] by first | exact nlm_in rfl | decide)
          have q25 : Frm [707, 1300, 1400, 2602] X Xa := Frm.tr q24 (Frm.mono hGXa (by first | exact nls_of rfl | decide))
          have q27 : gK g X X6 := by rw [hX6]; exact gK.set gK.rf (fun _ => by first | rfl | omega)
          have q28 : gK g X X10 := by rw [hX10]; exact gK.set q27 (fun _ => by first | rfl | omega)
          have q29 : gK g X Xa := gK.tr q28 hgkXa
          have q30 : gK g X X15 := by rw [hX15]; exact gK.set q29 (fun _ => by first | rfl | omega)
          exact ⟨X15, rfl, hRX15, hFX15, hCq21, by omega, (by rw [hVX15]; omega), (by rw [if_pos (by omega)]; omega), (by rw [if_pos (by omega)]; exact rcR.push (y := yy) (k := kk) (w := r) hsg (by omega) (fun i => (hR 13 g i).2) hyk.2.2.2.2 (by omega) hVX15 (by rw [hX15, u3_k _ _ _ _ (by first | exact Nat.ne_of_beq_eq_false rfl | decide), hGXa 0 0 3 (show 4 ∉ [1400] by first | exact nlm_ni rfl | decide), hX10, u3_k _ _ _ _ (by first | exact Nat.ne_of_beq_eq_false rfl | decide), hX6, u3_k _ _ _ _ (by first | exact Nat.ne_of_beq_eq_false rfl | decide)]) (by rw [hX15, u3_k _ _ _ _ (by first | exact Nat.ne_of_beq_eq_false rfl | decide), hGXa 26 r 1 (show 2602 ∉ [1400] by first | exact nlm_ni rfl | decide), hX10, u3_k _ _ _ _ (by first | exact Nat.ne_of_beq_eq_false rfl | decide)]; exact hVX6) (fun i hi => (by rw [hX15, u3_k _ _ _ _ (by first | exact Nat.ne_of_beq_eq_false rfl | decide), hGXa 26 i 1 (show 2602 ∉ [1400] by first | exact nlm_ni rfl | decide), hX10, u3_k _ _ _ _ (by first | exact Nat.ne_of_beq_eq_false rfl | decide), hX6, u3_ij (by omega)])) (by rw [hX15, u3_k _ _ _ _ (by first | exact Nat.ne_of_beq_eq_false rfl | decide), hGXa 13 g (X 7 g 6) (show 1300 ∉ [1400] by first | exact nlm_ni rfl | decide)]; exact hVX10) (fun i hi => (by rw [hX15, u3_k _ _ _ _ (by first | exact Nat.ne_of_beq_eq_false rfl | decide), hGXa 13 g i (show 1300 ∉ [1400] by first | exact nlm_ni rfl | decide), hX10, u3_ij (by omega), hX6, u3_k _ _ _ _ (by first | exact Nat.ne_of_beq_eq_false rfl | decide)])) (fun j a b => (by rw [hX15, u3_k _ _ _ _ (by first | exact Nat.ne_of_beq_eq_false rfl | decide)]; exact hcp j a (by omega))) (fun p hp9 => (by rw [hX15, u3_k _ _ _ _ (by first | exact Nat.ne_of_beq_eq_false rfl | decide)]; exact hcl9 p hp9)) (fun i j => (by rw [hX15, u3_k _ _ _ _ (by first | exact Nat.ne_of_beq_eq_false rfl | decide), hGXa 27 i j (show 2700 ∉ [1400] by first | exact nlm_ni rfl | decide), hX10, u3_k _ _ _ _ (by first | exact Nat.ne_of_beq_eq_false rfl | decide), hX6, u3_k _ _ _ _ (by first | exact Nat.ne_of_beq_eq_false rfl | decide)])) (fun i => (by rw [hX15, u3_k _ _ _ _ (by first | exact Nat.ne_of_beq_eq_false rfl | decide), hGXa 19 i 1 (show 1902 ∉ [1400] by first | exact nlm_ni rfl | decide), hX10, u3_k _ _ _ _ (by first | exact Nat.ne_of_beq_eq_false rfl | decide), hX6, u3_k _ _ _ _ (by first | exact Nat.ne_of_beq_eq_false rfl | decide)])) (fun i => rfl) (fun i j => rfl)), q30⟩
        · refine lv_aload_n hx hb dX4_numberOf_41 rfl (lv_at hl 0 rfl) ?_
          refine x_geto hx hb hf4 hw (by omega) (by omega) sl_7_8 lk31 dX4_numberOf_42 ?_
          refine lv_aload_n hx hb dX4_numberOf_45 rfl (lv_at hl 0 rfl) ?_
          refine x_geti (jz := 6) hx hb hf4 hw (by omega) (by omega) sl_7_6 rfl lk40 dX4_numberOf_46 ?_
          have e31 : Xa 7 g 6 = X 7 g 6 := by rw [hGXa 7 g 6 (show 707 ∉ [1400] by first | exact nlm_ni rfl | decide), hX10, u3_k _ _ _ _ (by first | exact Nat.ne_of_beq_eq_false rfl | decide), hX6, u3_k _ _ _ _ (by first | exact Nat.ne_of_beq_eq_false rfl | decide)]
          rw [e31]
          have f32 : 0 ≤ X 7 g 6 ∧ X 7 g 6 ≤ 150 := hR 7 g 6
          refine lv_bipush (v := jI 12) hx hb dX4_numberOf_49 (by decide) ?_
          refine x_imul hx hb dX4_numberOf_51 ?_
          refine lv_iload_n hx hb dX4_numberOf_52 rfl (lv_at hl 2 rfl) ?_
          refine x_iadd hx hb dX4_numberOf_53 ?_
          refine lv_aload_n hx hb dX4_numberOf_54 rfl (lv_at hl 1 rfl) ?_
          refine x_geto hx hb hf5 hw (by omega) (by omega) sl_26_0 lk43 dX4_numberOf_55 ?_
          refine lv_iload_n hx hb dX4_numberOf_58 rfl (lv_at hl 2 rfl) ?_
          have f33 : 0 ≤ ln r ∧ ln r ≤ 12 := hLn r
          refine x_lald hx hb hK.1 hw (by omega) (by omega) ar_27 (show lenE ln 27 r = ln r from rfl) (by omega) (by omega) (by omega) dX4_numberOf_59 ?_
          have e34 : ∀ p9 q9 : Int, Xa 27 p9 q9 = X 27 p9 q9 := fun p9 q9 => by rw [hGXa 27 p9 q9 (show 2700 ∉ [1400] by first | exact nlm_ni rfl | decide), hX10, u3_k _ _ _ _ (by first | exact Nat.ne_of_beq_eq_false rfl | decide), hX6, u3_k _ _ _ _ (by first | exact Nat.ne_of_beq_eq_false rfl | decide)]
          rw [e34 r iz]
          have f35 : (-9223372036854775808) ≤ X 27 r iz ∧ X 27 r iz ≤ 9223372036854775807 := hR 27 r iz
          refine x_last hx hb hK.1 hw hS (by omega) (by omega) ar_14 (len_E ar_14 (by first | exact Nat.ne_of_beq_eq_false rfl | decide)) (by omega) (by omega) (by omega) dX4_numberOf_60 (fun H locs hw hS => ?_)
          obtain ⟨X36, hX36⟩ : ∃ Xq, Xq = u3 Xa 14 g (((X 7 g 6) * 12) + iz) (X 27 r iz) := ⟨_, rfl⟩
          rw [← hX36] at hw
          have hRX36 : Rng X36 := by rw [hX36]; exact rng_set hRXa (show (-9223372036854775808) ≤ (X 27 r iz) ∧ (X 27 r iz) ≤ 9223372036854775807 by omega)
          have hVX36 : X36 14 g (((X 7 g 6) * 12) + iz) = (X 27 r iz) := by rw [hX36]; exact u3_s _ _ _ _ _
          have hFX36 : Frm [2602, 1300, 1400, 707] X X36 := by rw [hX36]; exact Frm.set hFXa (show 1400 ∈ [2602, 1300, 1400, 707] by first | exact nlm_in rfl | decide)
          refine lv_iinc (v := jI (iz + 1)) (lv' := [(2, .int (jI (iz + 1))), (0, .ref (ad 7 g)), (1, .ref (ad 26 r))]) hx hb dX4_numberOf_61 hl (k := 2) rfl (jI_add _ _) (by decide) rfl (fun ls hl => ?_)
          refine lv_goto (tgt := 32) hx hb dX4_numberOf_64 (by decide) ?_
          have q37 : Frm [1400] X10 Xa := Frm.tr Frm.rf (Frm.mono hGXa (by first | exact nls_of rfl | decide))
          have q38 : Frm [1400] X10 X36 := by rw [hX36]; exact Frm.set q37 (show 1400 ∈ [1400] by first | exact nlm_in rfl | decide)
          have q39 : gK g X10 Xa := gK.tr gK.rf hgkXa
          have q40 : gK g X10 X36 := by rw [hX36]; exact gK.set q39 (fun _ => by first | rfl | omega)
          exact ih32 (iz + 1) X36 _ _ _ (by omega) hRX36 q38 (by omega) (fun j a b => if hj : j = iz then (by rw [hj, show 12 * X 7 g 6 + iz = X 7 g 6 * 12 + iz by omega]; exact hVX36) else (by rw [hX36, u3_ij (by omega)]; exact hcp j a (by omega))) (fun p hp9 => (by rw [hX36, u3_ij (by omega)]; exact hcl9 p hp9)) (q40) hw hS (lv_sub hl [1, 2, 0] rfl)
    exact lp32 (12 - 0 : Int).toNat.succ 0 X10 _ _ _ (by omega) hRX10 Frm.rf (by omega) (fun j a b => by omega) (fun p _ => (by rw [hX10, u3_k _ _ _ _ (by first | exact Nat.ne_of_beq_eq_false rfl | decide), hX6, u3_k _ _ _ _ (by first | exact Nat.ne_of_beq_eq_false rfl | decide)])) (gK.rf) hw hS (lv_sub hl [1, 2, 0] rfl)

set_option maxHeartbeats 4000000 in
set_option maxRecDepth 100000 in
theorem c_X8_recordedValue (l : Launch) (D : va_G) (tc : Nat → ClassId) (base : Nat) (ad : Nat → Int → Nat) (cnt : Nat → Int) (X : Nat → Int → Int → Int) (Y : Nat → Int → Int → Option Int) (ln : Int → Int) (hR : Rng X) (hFx : Fx cnt) (hLn : LnOK ln) (hCI : CInv cnt X Y ln) (x k g : Int) (hx0 : 0 ≤ x ∧ x ≤ 29) (hxt : x < X 0 0 3) (hk0 : 0 ≤ k ∧ k ≤ 4) (hg : 0 ≤ g ∧ g < 6) (hO : rcOK X Y g) (hrc : X 7 g 6 ≤ 149) (sg : Nat → Int → Int) (hst : rcT X Y g sg) (hsr : rcR X Y ln g sg) (p9 : Int) (hkf : k < cFc X Y x) : KL l D tc base yX8_recordedValue wsX8_recordedValue ({ frames := 1, cells := 0, slots := 0, locals := 22 } : Room) [.ref (ad 0 0), .ref (ad 15 x), .int (jI k), .ref (ad 7 g)] (ad, cnt, X, Y, ln) 0 0 (fun z u => ∃ (X1 : Nat → Int → Int → Int) (Y1 : Nat → Int → Int → Option Int), u = (ad, cnt, X1, Y1, ln) ∧ Rng X1 ∧ Frm [701, 707, 800, 900, 1300, 1400, 1504, 2602] X X1 ∧ Frm [500] Y Y1 ∧ CInv cnt X1 Y1 ln ∧ (-9223372036854775808 ≤ z ∧ z ≤ 9223372036854775807) ∧ rcOK X1 Y1 g ∧ X 7 g 0 ≤ X1 7 g 0 ∧ X1 7 g 6 ≤ X 7 g 6 + 1 ∧ (∀ t, Y 15 x 0 = some t → 2 ≤ X 21 t k → -1 ≤ z ∧ z ≤ 149) ∧ cStp (cLa X Y) (cVl X Y) (cRid Y) x k p9 X1 Y1 ln g sg z ∧ gK g X X1) := by
  refine K_of (cc := cX8_recordedValue) (maxL := 6) (ret := (some .long)) (by decide) rfl (Nat.le_of_ble_eq_true rfl) ?_
  intro p e s m below meth c ls hx hb hr hml hown hts hlocks hl hK hw hS
  have hown : s.vm.findClass RX8 = some m.cls := hown
  obtain ⟨av9, hav9⟩ : ∃ a9 : Array Value, a9 = ([.ref (ad 0 0), .ref (ad 15 x), .int (jI k), .ref (ad 7 g)] : List Value).toArray := ⟨_, rfl⟩
  rw [← hav9] at hts ⊢
  obtain ⟨Q9, hQ9⟩ : ∃ q9Q : State → Prop, q9Q = MQ below (QL D tc base (fun z u => ∃ (X1 : Nat → Int → Int → Int) (Y1 : Nat → Int → Int → Option Int), u = (ad, cnt, X1, Y1, ln) ∧ Rng X1 ∧ Frm [701, 707, 800, 900, 1300, 1400, 1504, 2602] X X1 ∧ Frm [500] Y Y1 ∧ CInv cnt X1 Y1 ln ∧ (-9223372036854775808 ≤ z ∧ z ≤ 9223372036854775807) ∧ rcOK X1 Y1 g ∧ X 7 g 0 ≤ X1 7 g 0 ∧ X1 7 g 6 ≤ X 7 g 6 + 1 ∧ (∀ t, Y 15 x 0 = some t → 2 ≤ X 21 t k → -1 ≤ z ∧ z ≤ 149) ∧ cStp (cLa X Y) (cVl X Y) (cRid Y) x k p9 X1 Y1 ln g sg z ∧ gK g X X1)) av9 s 0 0 (frA base) := ⟨_, rfl⟩
  rw [← hQ9]
  have hi6 : ∀ w ∈ wsX60, w ∈ wsX8_recordedValue := fun w h => List.mem_cons_of_mem _ (List.mem_append_left _ (List.mem_append_left _ (List.mem_append_left _ (List.mem_append_left _ (List.mem_append_right _ h)))))
  have hf6 : fctx s m _ RX8 wsX8_recordedValue D tc RX6 TX6 4 6 := ⟨hts, hi6, hown, hK.1, rfl⟩
  have hi7 : ∀ w ∈ wsX70, w ∈ wsX8_recordedValue := fun w h => List.mem_cons_of_mem _ (List.mem_append_left _ (List.mem_append_left _ (List.mem_append_left _ (List.mem_append_right _ h))))
  have hf7 : fctx s m _ RX8 wsX8_recordedValue D tc RX7 TX7 8 7 := ⟨hts, hi7, hown, hK.1, rfl⟩
  have lk97 := hts (.fieldLink RX8 97 (TX6 0).1 (TX6 0).2.1 (TX6 0).2.2.1) (gj_X8_recordedValue_0 _ (gp_h))
  have lk135 := hts (.fieldLink RX8 135 (TX7 3).1 (TX7 3).2.1 (TX7 3).2.2.1) (gj_X8_recordedValue_0 _ (gp_1 gp_h))
  have lk158 := hts (.fieldLink RX8 158 (TX6 2).1 (TX6 2).2.1 (TX6 2).2.2.1) (gj_X8_recordedValue_0 _ (gp_1 (gp_1 gp_h)))
  have lk193 := hts (.fieldLink RX8 193 (TX6 1).1 (TX6 1).2.1 (TX6 1).2.2.1) (gj_X8_recordedValue_0 _ (gp_4 gp_h))
  have hc0 : cnt 0 = 1 := hFx.at 0 1 (by decide)
  have hc7 : cnt 7 = 6 := hFx.at 7 6 (by decide)
  have hc15 : cnt 15 = 30 := hFx.at 15 30 (by decide)
  have hc16 : cnt 16 = 30 := hFx.at 16 30 (by decide)
  have hc17 : cnt 17 = 30 := hFx.at 17 30 (by decide)
  have hc21 : cnt 21 = cnt 19 := hFx.2.1 21 (by decide)
  have hl : lv_has ls 6 [(0, .ref (ad 0 0)), (1, .ref (ad 15 x)), (2, .int (jI k)), (3, .ref (ad 7 g))] := hl
  have ftc : 0 ≤ X 0 0 3 ∧ X 0 0 3 ≤ 30 := hR 0 0 3
  have fty : 0 ≤ X 0 0 1 ∧ X 0 0 1 ≤ 8 := hR 0 0 1
  have hct : cnt 19 = X 0 0 1 := hCI.2.2.2.1.1
  have hfj : 0 ≤ X 29 0 3 ∧ X 29 0 3 ≤ 4 := hR 29 0 3
  have hfn : 0 ≤ X 29 0 1 ∧ X 29 0 1 ≤ 80 := hR 29 0 1
  skip
  refine lv_aload_n hx hb dX8_recordedValue_0 rfl (lv_at hl 1 rfl) ?_
  refine x_getr (jz := 0) hx hb hf6 hw (by omega) (by omega) sl_15_0 rfl lk97 dX8_recordedValue_1 (fun y1 => ?_) (fun r2 y1 gr2 lr2 => ?_)
  · exfalso
    exact absurd y1 (hCI.2.2.2.2.1 x (by omega) (by omega))
  · refine x_geto hx hb hf7 hw (by omega) (by omega) sl_19_3 lk135 dX8_recordedValue_4 ?_
    refine lv_iload_n hx hb dX8_recordedValue_7 rfl (lv_at hl 2 rfl) ?_
    refine x_iald hx hb hK.1 hw (by omega) (by omega) ar_21 (len_E ar_21 (by first | exact Nat.ne_of_beq_eq_false rfl | decide)) (by omega) (by omega) (by omega) dX8_recordedValue_8 ?_
    have f3 : 0 ≤ X 21 r2 k ∧ X 21 r2 k ≤ 5 := hR 21 r2 k
    refine lv_istore (lv' := [(4, .int (jI (X 21 r2 k))), (0, .ref (ad 0 0)), (1, .ref (ad 15 x)), (2, .int (jI k)), (3, .ref (ad 7 g))]) hx hb dX8_recordedValue_9 hl (by decide) rfl (fun ls hl => ?_)
    refine lv_iload hx hb dX8_recordedValue_11 (lv_at hl 0 rfl) ?_
    refine gos_i (run_S (As := [.int (jI (X 21 r2 k))]) (rest := []) hx hb hml hown hts (c_X8_isRowLane l D tc base ad cnt X Y ln (X 21 r2 k) (by omega)) (cwS 1 hts gX8_recordedValue_X8_isRowLane rfl rfl rfl (by first | exact hd_X8_isRowLane | decide +kernel) ⟨Nat.le_of_ble_eq_true rfl, Nat.le_of_ble_eq_true rfl⟩) hK hw rfl hl.1 rfl (Nat.le_of_ble_eq_true rfl) dX8_recordedValue_13 ⟨Nat.le_of_ble_eq_true rfl, Nat.le_of_ble_eq_true rfl⟩) hS (fun z4 u5 H locs p6 hw hS => ?_)
    obtain ⟨eu5, p6⟩ := p6
    subst eu5
    rcases p6 with ⟨ez4, p6⟩ | ⟨ez4, p6⟩
    · subst ez4
      refine x_if_eqF (tgt := 46) hx hb (by omega) (by decide) dX8_recordedValue_16 (by decide) ?_
      refine lv_aload_n hx hb dX8_recordedValue_19 rfl (lv_at hl 2 rfl) ?_
      refine x_geto hx hb hf6 hw (by omega) (by omega) sl_15_2 lk158 dX8_recordedValue_20 ?_
      refine lv_iload_n hx hb dX8_recordedValue_23 rfl (lv_at hl 3 rfl) ?_
      refine x_aald hx hb hK.1 hw (by omega) (by omega) ar_17 rfl (len_E ar_17 (by first | exact Nat.ne_of_beq_eq_false rfl | decide)) (by omega) (by omega) (by omega) dX8_recordedValue_24 (fun y7 => ?_) (fun r8 y7 gr8 lr8 => ?_)
      · refine lv_ifnonnullN hx hb dX8_recordedValue_25 ?_
        refine lv_ldc2 (v := jL (-1)) hx hb hown (hts (.constantLong RX8 88 (-1)) (by first | exact gj_X8_recordedValue_0 _ (gp_1 (gp_1 (gp_1 gp_h))) | decide +kernel)) dX8_recordedValue_28 ?_
        refine lv_goto (tgt := 45) hx hb dX8_recordedValue_31 (by decide) ?_
        rw [hQ9]
        refine ret_l (mc := 0) (ms := 0) hx hb hr hlocks hw hS (by first | exact Nat.le_of_ble_eq_true rfl | omega) (by first | exact Nat.le_of_ble_eq_true rfl | omega) dX8_recordedValue_45 ?_
        have hla10 : cLa X Y x k = X 21 r2 k := by unfold cLa; rw [tyo_some y1]
        have hst9 : cStp (cLa X Y) (cVl X Y) (cRid Y) x k p9 X Y ln g sg (-1) := cStp_v hst hsr (recP_3n (by rw [hla10]; omega) (by unfold cRid; rw [y7]; decide))
        exact ⟨X, Y, rfl, hR, Frm.rf, Frm.rf, hCI, by omega, hO, (by omega), (by omega), fun t9 ht hl9 => by rw [y1] at ht; cases ht; (try simp only [Hid] at *); omega, hst9, gK.rf⟩
      · refine lv_ifnonnull (tgt := 34) hx hb dX8_recordedValue_25 (by decide) ?_
        refine lv_aload_n hx hb dX8_recordedValue_34 rfl (lv_at hl 4 rfl) ?_
        refine lv_aload_n hx hb dX8_recordedValue_35 rfl (lv_at hl 2 rfl) ?_
        refine x_geto hx hb hf6 hw (by omega) (by omega) sl_15_2 lk158 dX8_recordedValue_36 ?_
        refine lv_iload_n hx hb dX8_recordedValue_39 rfl (lv_at hl 3 rfl) ?_
        refine x_aald hx hb hK.1 hw (by omega) (by omega) ar_17 rfl (len_E ar_17 (by first | exact Nat.ne_of_beq_eq_false rfl | decide)) (by omega) (by omega) (by omega) dX8_recordedValue_40 (fun y11 => ?_) (fun r12 y11 gr12 lr12 => ?_)
        · exfalso
          rw [y7] at y11; cases y11
        · have er12 : r12 = r8 := by rw [y7] at y11; cases y11; rfl
          rw [er12]
          refine gos_i (run_V (As := [.ref (ad 26 r8)]) (rest := []) hx hb hml hown hts (c_X4_numberOf l D tc base ad cnt X Y ln hR hFx hLn hCI g r8 (by omega) (by omega) (by omega) (sg) hsr x k ⟨by omega, (by first | omega | (simp only [Int.add_zero]; omega)), by omega, hkf, y7⟩) (cwV 1 hts gX8_recordedValue_X4_numberOf rfl rfl rfl (by first | exact hd_X4_numberOf | decide +kernel) ⟨Nat.le_of_ble_eq_true rfl, Nat.le_of_ble_eq_true rfl⟩) hK hw (by first | exact Int.le_refl 0 | omega) (by first | exact zlt hc7 | omega) sl_7_0 rfl rfl hl.1 rfl (Nat.le_of_ble_eq_true rfl) dX8_recordedValue_41 ⟨Nat.le_of_ble_eq_true rfl, Nat.le_of_ble_eq_true rfl⟩) hS (fun z13 u14 H locs p15 hw hS => ?_)
          obtain ⟨X16, eu14, hRX16, hG17, hCIX16, p15, hnrX16, hzrX16, hRrX16, hgkX16⟩ := p15
          subst eu14
          have hFX16 : Frm [701, 707, 800, 900, 1300, 1400, 1504, 2602] X X16 := Frm.tr Frm.rf (Frm.mono hG17 (by first | exact nls_of rfl | decide))
          refine x_i2l hx hb (by omega) dX8_recordedValue_44 ?_
          rw [hQ9]
          refine ret_l (mc := 0) (ms := 0) hx hb hr hlocks hw hS (by first | exact Nat.le_of_ble_eq_true rfl | omega) (by first | exact Nat.le_of_ble_eq_true rfl | omega) dX8_recordedValue_45 ?_
          have q18 : Frm [707, 1300, 1400, 2602] X X16 := Frm.tr Frm.rf (Frm.mono hG17 (by first | exact nls_of rfl | decide))
          have hO19 : rcOK X16 Y g := rcOK.frm (M := [707, 1300, 1400, 2602]) (N := []) hO q18 Frm.rf (by decide) (by decide)
          have e20 : X16 7 g 0 = X 7 g 0 := by rw [hG17 7 g 0 (show 701 ∉ [2602, 1300, 1400, 707] by first | exact nlm_ni rfl | decide)]
          have hla22 : cLa X Y x k = X 21 r2 k := by unfold cLa; rw [tyo_some y1]
          have q23 : Frm [707, 1300, 1400, 2602] X X16 := Frm.tr Frm.rf (Frm.mono hG17 (by first | exact nls_of rfl | decide))
          have hT24 : rcT X16 Y g (sg) := rcT.frm (M := [707, 1300, 1400, 2602]) (N := []) hst q23 Frm.rf (by decide) (by decide)
          have hri25 : cRid Y x k = r8 := tyo_some y7
          have hst21 : cStp (cLa X Y) (cVl X Y) (cRid Y) x k p9 X16 Y ln g sg z13 := (by have h8 := hRrX16; have h9 := hzrX16; exact cStp_r (by rw [hla22]; (try delta Hid at *); omega) (by rw [hri25]; omega) hT24 (by rw [hri25]; exact h8) (by rw [hri25]; exact h9))
          have q26 : gK g X X16 := gK.tr gK.rf hgkX16
          exact ⟨X16, Y, rfl, hRX16, hFX16, Frm.rf, hCIX16, by omega, hO19, (by first | omega | (simp only [e20]; omega)), (by omega), fun t9 ht hl9 => by rw [y1] at ht; cases ht; (try simp only [Hid] at *); omega, hst21, q26⟩
    · subst ez4
      refine x_if_eqT (tgt := 46) hx hb (by omega) (by decide) dX8_recordedValue_16 (by decide) ?_
      refine lv_iload hx hb dX8_recordedValue_46 (lv_at hl 0 rfl) ?_
      refine lv_iconst (v := jI 2) hx hb dX8_recordedValue_48 rfl ?_
      refine x_icmp_ne (tgt := 84) hx hb (by omega) (by omega) dX8_recordedValue_49 (by decide) (fun c27 => ?_) (fun c27 => ?_)
      · refine lv_aload_n hx hb dX8_recordedValue_84 rfl (lv_at hl 2 rfl) ?_
        refine x_geto hx hb hf6 hw (by omega) (by omega) sl_15_1 lk193 dX8_recordedValue_85 ?_
        refine lv_iload_n hx hb dX8_recordedValue_88 rfl (lv_at hl 3 rfl) ?_
        refine x_lald hx hb hK.1 hw (by omega) (by omega) ar_16 (len_E ar_16 (by first | exact Nat.ne_of_beq_eq_false rfl | decide)) (by omega) (by omega) (by omega) dX8_recordedValue_89 ?_
        have f28 : (-9223372036854775808) ≤ X 16 x k ∧ X 16 x k ≤ 9223372036854775807 := hR 16 x k
        rw [hQ9]
        refine ret_l (mc := 0) (ms := 0) hx hb hr hlocks hw hS (by first | exact Nat.le_of_ble_eq_true rfl | omega) (by first | exact Nat.le_of_ble_eq_true rfl | omega) dX8_recordedValue_90 ?_
        have hla30 : cLa X Y x k = X 21 r2 k := by unfold cLa; rw [tyo_some y1]
        have hst29 : cStp (cLa X Y) (cVl X Y) (cRid Y) x k p9 X Y ln g sg (X 16 x k) := cStp_v hst hsr (by rw [recP_1 (by rw [hla30]; (try delta Hid at *); omega)]; unfold cVl; rw [if_neg (by rw [hla30]; (try delta Hid at *); omega)])
        exact ⟨X, Y, rfl, hR, Frm.rf, Frm.rf, hCI, by omega, hO, (by omega), (by omega), fun t9 ht hl9 => by rw [y1] at ht; cases ht; (try simp only [Hid] at *); omega, hst29, gK.rf⟩
      · refine lv_aload_n hx hb dX8_recordedValue_52 rfl (lv_at hl 1 rfl) ?_
        refine lv_aload_n hx hb dX8_recordedValue_53 rfl (lv_at hl 2 rfl) ?_
        refine x_geto hx hb hf6 hw (by omega) (by omega) sl_15_1 lk193 dX8_recordedValue_54 ?_
        refine lv_iload_n hx hb dX8_recordedValue_57 rfl (lv_at hl 3 rfl) ?_
        refine x_lald hx hb hK.1 hw (by omega) (by omega) ar_16 (len_E ar_16 (by first | exact Nat.ne_of_beq_eq_false rfl | decide)) (by omega) (by omega) (by omega) dX8_recordedValue_58 ?_
        have f31 : (-9223372036854775808) ≤ X 16 x k ∧ X 16 x k ≤ 9223372036854775807 := hR 16 x k
        refine gos_r (run_V (As := [.long (jL (X 16 x k))]) (rest := []) hx hb hml hown hts (c_X8_thingNumbered l D tc base ad cnt X Y ln hR hFx hLn hCI (X 16 x k) (by omega)) (cwV 1 hts gX8_recordedValue_X8_thingNumbered rfl rfl rfl (by first | exact hd_X8_thingNumbered | decide +kernel) ⟨Nat.le_of_ble_eq_true rfl, Nat.le_of_ble_eq_true rfl⟩) hK hw (by first | exact Int.le_refl 0 | omega) (by first | exact zlt hc0 | omega) sl_0_0 rfl rfl hl.1 rfl (Nat.le_of_ble_eq_true rfl) dX8_recordedValue_59 ⟨Nat.le_of_ble_eq_true rfl, Nat.le_of_ble_eq_true rfl⟩) hS (fun u33 H locs p34 hw hS => ?_) (fun z32 u33 H locs p34 hw hS => ?_)
        · obtain ⟨eu33, hsp34, hnp34⟩ := p34
          subst eu33
          refine lv_astoreN (lv' := [(5, .null), (4, .int (jI (X 21 r2 k))), (0, .ref (ad 0 0)), (1, .ref (ad 15 x)), (2, .int (jI k)), (3, .ref (ad 7 g))]) hx hb dX8_recordedValue_62 hl (by decide) rfl (fun ls hl => ?_)
          refine lv_aloadN hx hb dX8_recordedValue_64 (lv_at hl 0 rfl) ?_
          refine lv_ifnonnullN hx hb dX8_recordedValue_66 ?_
          refine lv_ldc2 (v := jL (-1)) hx hb hown (hts (.constantLong RX8 88 (-1)) (by first | exact gj_X8_recordedValue_0 _ (gp_1 (gp_1 (gp_1 gp_h))) | decide +kernel)) dX8_recordedValue_69 ?_
          refine lv_goto (tgt := 83) hx hb dX8_recordedValue_72 (by decide) ?_
          rw [hQ9]
          refine ret_l (mc := 0) (ms := 0) hx hb hr hlocks hw hS (by first | exact Nat.le_of_ble_eq_true rfl | omega) (by first | exact Nat.le_of_ble_eq_true rfl | omega) dX8_recordedValue_83 ?_
          have hla36 : cLa X Y x k = X 21 r2 k := by unfold cLa; rw [tyo_some y1]
          have hst35 : cStp (cLa X Y) (cVl X Y) (cRid Y) x k p9 X Y ln g sg (-1) := cStp_v hst hsr (recP_2n (by rw [hla36]; omega) (by unfold cVl; rw [if_pos (by rw [hla36]; omega), if_neg (show ¬ (0 ≤ X 16 x k ∧ X 16 x k < X 0 0 3) from hnp34 rfl)]; decide))
          exact ⟨X, Y, rfl, hR, Frm.rf, Frm.rf, hCI, by omega, hO, (by omega), (by omega), fun t9 ht hl9 => by rw [y1] at ht; cases ht; (try simp only [Hid] at *); omega, hst35, gK.rf⟩
        · obtain ⟨eu33, hsp34, hnp34⟩ := p34
          subst eu33
          obtain ⟨ezz32, p34⟩ := hsp34 z32 rfl
          refine lv_astore (lv' := [(5, .ref (ad 15 z32)), (4, .int (jI (X 21 r2 k))), (0, .ref (ad 0 0)), (1, .ref (ad 15 x)), (2, .int (jI k)), (3, .ref (ad 7 g))]) hx hb dX8_recordedValue_62 hl (by decide) rfl (fun ls hl => ?_)
          refine lv_aload hx hb dX8_recordedValue_64 (lv_at hl 0 rfl) ?_
          refine lv_ifnonnull (tgt := 75) hx hb dX8_recordedValue_66 (by decide) ?_
          refine lv_aload_n hx hb dX8_recordedValue_75 rfl (lv_at hl 2 rfl) ?_
          refine lv_aload hx hb dX8_recordedValue_76 (lv_at hl 0 rfl) ?_
          refine lv_aload_n hx hb dX8_recordedValue_78 rfl (lv_at hl 5 rfl) ?_
          refine gos_i (run_V (As := [.ref (ad 15 z32), .ref (ad 7 g)]) (rest := []) hx hb hml hown hts (c_X8_recordNumberOf l D tc base ad cnt X Y ln hR hFx hLn hCI z32 g (by omega) (by omega) (by omega) hO (sg) hst) (cwV 2 hts gX8_recordedValue_X8_recordNumberOf rfl rfl rfl (by first | exact hd_X8_recordNumberOf | decide +kernel) ⟨Nat.le_of_ble_eq_true rfl, Nat.le_of_ble_eq_true rfl⟩) hK hw (by first | exact Int.le_refl 0 | omega) (by first | exact zlt hc0 | omega) sl_0_0 rfl rfl hl.1 rfl (Nat.le_of_ble_eq_true rfl) dX8_recordedValue_79 ⟨Nat.le_of_ble_eq_true rfl, Nat.le_of_ble_eq_true rfl⟩) hS (fun z37 u38 H locs p39 hw hS => ?_)
          obtain ⟨X40, Y41, eu38, hRX40, hG42, hJ43, hCIX40, p39, hOX40, hleX40, hzrX40, hTrX40, hgkX40⟩ := p39
          subst eu38
          have hFX40 : Frm [701, 707, 800, 900, 1300, 1400, 1504, 2602] X X40 := Frm.tr Frm.rf (Frm.mono hG42 (by first | exact nls_of rfl | decide))
          have hHY41 : Frm [500] Y Y41 := Frm.tr Frm.rf (Frm.mono hJ43 (by first | exact nls_of rfl | decide))
          refine x_i2l hx hb (by omega) dX8_recordedValue_82 ?_
          rw [hQ9]
          refine ret_l (mc := 0) (ms := 0) hx hb hr hlocks hw hS (by first | exact Nat.le_of_ble_eq_true rfl | omega) (by first | exact Nat.le_of_ble_eq_true rfl | omega) dX8_recordedValue_83 ?_
          have e44 : X40 7 g 6 = X 7 g 6 := by rw [hG42 7 g 6 (show 707 ∉ [1504, 701, 800, 900] by first | exact nlm_ni rfl | decide)]
          have hla46 : cLa X Y x k = X 21 r2 k := by unfold cLa; rw [tyo_some y1]
          have q47 : Frm [701, 800, 900, 1504] X X40 := Frm.tr Frm.rf (Frm.mono hG42 (by first | exact nls_of rfl | decide))
          have hR949 : rcR X40 Y41 ln g (sg) := rcR.frm (M := [701, 800, 900, 1504]) (N := [500]) hsr q47 hHY41 (by decide) (by decide)
          have hvl50 : cVl X Y x k = X 16 x k := by unfold cVl; rw [if_pos (by rw [hla46]; omega), if_pos ⟨by omega, by omega⟩]
          have hst45 : cStp (cLa X Y) (cVl X Y) (cRid Y) x k p9 X40 Y41 ln g sg z37 := (by have h8 := hTrX40; have h9 := hzrX40; rw [ezz32] at h8 h9; exact cStp_t (by rw [hla46]; omega) (by rw [hvl50]; omega) (by rw [hvl50]; exact h8) hR949 (by rw [hvl50]; exact h9))
          have q51 : gK g X X40 := gK.tr gK.rf hgkX40
          exact ⟨X40, Y41, rfl, hRX40, hFX40, hHY41, hCIX40, by omega, hOX40, (by omega), (by first | omega | (simp only [e44]; omega)), fun t9 ht hl9 => by rw [y1] at ht; cases ht; (try simp only [Hid] at *); omega, hst45, q51⟩

set_option maxHeartbeats 4000000 in
set_option maxRecDepth 100000 in
theorem c_X8_recordFields (l : Launch) (D : va_G) (tc : Nat → ClassId) (base : Nat) (ad : Nat → Int → Nat) (cnt : Nat → Int) (X : Nat → Int → Int → Int) (Y : Nat → Int → Int → Option Int) (ln : Int → Int) (hR : Rng X) (hFx : Fx cnt) (hLn : LnOK ln) (hCI : CInv cnt X Y ln) (x r g : Int) (hx0 : 0 ≤ x ∧ x ≤ 29) (hxt : x < X 0 0 3) (hr0 : 0 ≤ r ∧ r ≤ 29) (hg : 0 ≤ g ∧ g < 6) (hO : rcOK X Y g) (hrc : X 7 g 6 ≤ 5 * r) (hRv : cRv X) (sg : Nat → Int → Int) (hst : rcT X Y g sg) (hsr : rcR X Y ln g sg) (hsv : rcV X Y g sg r 0) (hxr : sg 1 r = x) (hrs : r < sg 0 0) : KV l D tc base yX8_recordFields wsX8_recordFields ({ frames := 2, cells := 0, slots := 0, locals := 47 } : Room) [.ref (ad 0 0), .ref (ad 15 x), .int (jI r), .ref (ad 7 g)] (ad, cnt, X, Y, ln) 0 0 (fun u => ∃ (X1 : Nat → Int → Int → Int) (Y1 : Nat → Int → Int → Option Int), u = (ad, cnt, X1, Y1, ln) ∧ Rng X1 ∧ Frm [701, 707, 800, 900, 1000, 1100, 1200, 1300, 1400, 1504, 2602] X X1 ∧ Frm [500] Y Y1 ∧ CInv cnt X1 Y1 ln ∧ (0 : Int) ≤ 0 ∧ rcOK X1 Y1 g ∧ X 7 g 0 ≤ X1 7 g 0 ∧ X1 7 g 6 ≤ 5 * r + 5 ∧ cRv X1 ∧ rcT X1 Y1 g (recK (cLa X Y) (cVl X Y) (cRid Y) sg r (cFc X Y x).toNat) ∧ rcR X1 Y1 ln g (recK (cLa X Y) (cVl X Y) (cRid Y) sg r (cFc X Y x).toNat) ∧ rcV X1 Y1 g (recK (cLa X Y) (cVl X Y) (cRid Y) sg r (cFc X Y x).toNat) (r + 1) 0 ∧ gK g X X1) := by
  refine K_of (cc := cX8_recordFields) (maxL := 6) (ret := none) (by decide) rfl (Nat.le_of_ble_eq_true rfl) ?_
  intro p e s m below meth c ls hx hb hr hml hown hts hlocks hl hK hw hS
  have hown : s.vm.findClass RX8 = some m.cls := hown
  obtain ⟨av9, hav9⟩ : ∃ a9 : Array Value, a9 = ([.ref (ad 0 0), .ref (ad 15 x), .int (jI r), .ref (ad 7 g)] : List Value).toArray := ⟨_, rfl⟩
  rw [← hav9] at hts ⊢
  obtain ⟨Q9, hQ9⟩ : ∃ q9Q : State → Prop, q9Q = MQ below (QV D tc base (fun u => ∃ (X1 : Nat → Int → Int → Int) (Y1 : Nat → Int → Int → Option Int), u = (ad, cnt, X1, Y1, ln) ∧ Rng X1 ∧ Frm [701, 707, 800, 900, 1000, 1100, 1200, 1300, 1400, 1504, 2602] X X1 ∧ Frm [500] Y Y1 ∧ CInv cnt X1 Y1 ln ∧ (0 : Int) ≤ 0 ∧ rcOK X1 Y1 g ∧ X 7 g 0 ≤ X1 7 g 0 ∧ X1 7 g 6 ≤ 5 * r + 5 ∧ cRv X1 ∧ rcT X1 Y1 g (recK (cLa X Y) (cVl X Y) (cRid Y) sg r (cFc X Y x).toNat) ∧ rcR X1 Y1 ln g (recK (cLa X Y) (cVl X Y) (cRid Y) sg r (cFc X Y x).toNat) ∧ rcV X1 Y1 g (recK (cLa X Y) (cVl X Y) (cRid Y) sg r (cFc X Y x).toNat) (r + 1) 0 ∧ gK g X X1)) av9 s 0 0 (frA base) := ⟨_, rfl⟩
  rw [← hQ9]
  have hi4 : ∀ w ∈ wsX40, w ∈ wsX8_recordFields := fun w h => List.mem_cons_of_mem _ (List.mem_append_left _ (List.mem_append_left _ (List.mem_append_right _ h)))
  have hf4 : fctx s m _ RX8 wsX8_recordFields D tc RX4 TX4 9 4 := ⟨hts, hi4, hown, hK.1, rfl⟩
  have hi6 : ∀ w ∈ wsX60, w ∈ wsX8_recordFields := fun w h => List.mem_cons_of_mem _ (List.mem_append_left _ (List.mem_append_left _ (List.mem_append_left _ (List.mem_append_left _ (List.mem_append_right _ h)))))
  have hf6 : fctx s m _ RX8 wsX8_recordFields D tc RX6 TX6 4 6 := ⟨hts, hi6, hown, hK.1, rfl⟩
  have hi7 : ∀ w ∈ wsX70, w ∈ wsX8_recordFields := fun w h => List.mem_cons_of_mem _ (List.mem_append_left _ (List.mem_append_left _ (List.mem_append_left _ (List.mem_append_right _ h))))
  have hf7 : fctx s m _ RX8 wsX8_recordFields D tc RX7 TX7 8 7 := ⟨hts, hi7, hown, hK.1, rfl⟩
  have lk85 := hts (.fieldLink RX8 85 (TX7 1).1 (TX7 1).2.1 (TX7 1).2.2.1) (gj_X8_recordFields_0 _ (gp_1 gp_h))
  have lk97 := hts (.fieldLink RX8 97 (TX6 0).1 (TX6 0).2.1 (TX6 0).2.2.1) (gj_X8_recordFields_0 _ (gp_h))
  have lk135 := hts (.fieldLink RX8 135 (TX7 3).1 (TX7 3).2.1 (TX7 3).2.2.1) (gj_X8_recordFields_0 _ (gp_4 (gp_1 gp_h)))
  have lk224 := hts (.fieldLink RX8 224 (TX4 3).1 (TX4 3).2.1 (TX4 3).2.2.1) (gj_X8_recordFields_0 _ (gp_1 (gp_1 gp_h)))
  have lk320 := hts (.fieldLink RX8 320 (TX7 2).1 (TX7 2).2.1 (TX7 2).2.2.1) (gj_X8_recordFields_0 _ (gp_1 (gp_1 (gp_1 gp_h))))
  have lk341 := hts (.fieldLink RX8 341 (TX4 4).1 (TX4 4).2.1 (TX4 4).2.2.1) (gj_X8_recordFields_0 _ (gp_4 gp_h))
  have lk342 := hts (.fieldLink RX8 342 (TX4 5).1 (TX4 5).2.1 (TX4 5).2.2.1) (gj_X8_recordFields_0 _ (gp_4 (gp_1 (gp_1 gp_h))))
  have hc0 : cnt 0 = 1 := hFx.at 0 1 (by decide)
  have hc7 : cnt 7 = 6 := hFx.at 7 6 (by decide)
  have hc10 : cnt 10 = 6 := hFx.at 10 6 (by decide)
  have hc11 : cnt 11 = 6 := hFx.at 11 6 (by decide)
  have hc12 : cnt 12 = 6 := hFx.at 12 6 (by decide)
  have hc15 : cnt 15 = 30 := hFx.at 15 30 (by decide)
  have hc20 : cnt 20 = cnt 19 := hFx.2.1 20 (by decide)
  have hc21 : cnt 21 = cnt 19 := hFx.2.1 21 (by decide)
  have hl : lv_has ls 6 [(0, .ref (ad 0 0)), (1, .ref (ad 15 x)), (2, .int (jI r)), (3, .ref (ad 7 g))] := hl
  have ftc : 0 ≤ X 0 0 3 ∧ X 0 0 3 ≤ 30 := hR 0 0 3
  have fty : 0 ≤ X 0 0 1 ∧ X 0 0 1 ≤ 8 := hR 0 0 1
  have hct : cnt 19 = X 0 0 1 := hCI.2.2.2.1.1
  have hfj : 0 ≤ X 29 0 3 ∧ X 29 0 3 ≤ 4 := hR 29 0 3
  have hfn : 0 ≤ X 29 0 1 ∧ X 29 0 1 ≤ 80 := hR 29 0 1
  refine lv_iconst (v := jI 0) hx hb dX8_recordFields_0 rfl ?_
  refine lv_istore (lv' := [(4, .int (jI 0)), (0, .ref (ad 0 0)), (1, .ref (ad 15 x)), (2, .int (jI r)), (3, .ref (ad 7 g))]) hx hb dX8_recordFields_1 hl (by decide) rfl (fun ls hl => ?_)
  have lp3 : ∀ (nn : Nat) (k : Int) (Xa : Nat → Int → Int → Int) (Ya : Nat → Int → Int → Option Int) (H : Heap) (locs : List Loc) (ls : Array Slot), (5 - k) < (nn : Int) → (Rng Xa) → (Frm [701, 707, 800, 900, 1000, 1100, 1200, 1300, 1400, 1504, 2602] X Xa) → (Frm [500] Y Ya) → (0 ≤ k ∧ k ≤ 5) → (CInv cnt Xa Ya ln) → (rcOK Xa Ya g) → (X 7 g 0 ≤ Xa 7 g 0) → (Xa 7 g 6 ≤ 5 * r + k) → (cRv Xa) → (rcT Xa Ya g (recK (cLa X Y) (cVl X Y) (cRid Y) sg r k.toNat)) → (rcR Xa Ya ln g (recK (cLa X Y) (cVl X Y) (cRid Y) sg r k.toNat)) → (rcV Xa Ya g (recK (cLa X Y) (cVl X Y) (cRid Y) sg r k.toNat) r k) → (gK g X Xa) → (k ≤ cFc X Y x) → wd D tc base (ad, cnt, Xa, Ya, ln) H → va_S (frA base) s.heap H locs → lv_has ls 6 [(0, .ref (ad 0 0)), (1, .ref (ad 15 x)), (2, .int (jI r)), (3, .ref (ad 7 g)), (4, .int (jI k))] → W p l e ({ frames := 2, cells := 0, slots := 0, locals := 47 } : Room) s m av9 below meth c H locs 0 0 Q9 (F0 m 3 ls []) := by
    intro nn
    induction nn with
    | zero => intro k Xa Ya H locs ls hm hRXa hGXa hGYa hk hCIXa hOa hla hna hRa hTa hRr9 hVa hgkXa hkf hw hS hl; exfalso; omega
    | succ nn ih3 =>
      intro k Xa Ya H locs ls hm hRXa hGXa hGYa hk hCIXa hOa hla hna hRa hTa hRr9 hVa hgkXa hkf hw hS hl
      have hHYa : Frm [500] Y Ya := Frm.tr Frm.rf (Frm.mono hGYa (by first | exact nls_of rfl | decide))
      have hFXa : Frm [701, 707, 800, 900, 1000, 1100, 1200, 1300, 1400, 1504, 2602] X Xa := Frm.tr Frm.rf (Frm.mono hGXa (by first | exact nls_of rfl | decide))
      have hTa1 : Xa 7 g 0 = recK (cLa X Y) (cVl X Y) (cRid Y) sg r k.toNat 0 0 := hTa.1
      have hmm := recK_m (la := cLa X Y) (vl := cVl X Y) (rid := cRid Y) (s := sg) (r := r) k.toNat
      refine lv_iload hx hb dX8_recordFields_3 (lv_at hl 4 rfl) ?_
      refine lv_aload_n hx hb dX8_recordFields_5 rfl (lv_at hl 1 rfl) ?_
      refine x_getr (jz := 0) hx hb hf6 hw (by omega) (by omega) sl_15_0 rfl lk97 dX8_recordFields_6 (fun y1 => ?_) (fun r2 y1 gr2 lr2 => ?_)
      · exfalso
        have e3 : Ya 15 x 0 = Y 15 x 0 := by rw [hGYa 15 x 0 (show 1501 ∉ [500] by first | exact nlm_ni rfl | decide)]
        rw [e3] at y1
        exact absurd y1 (hCI.2.2.2.2.1 x (by omega) (by omega))
      · have e4 : Ya 15 x 0 = Y 15 x 0 := by rw [hGYa 15 x 0 (show 1501 ∉ [500] by first | exact nlm_ni rfl | decide)]
        rw [e4] at y1
        refine x_geti (jz := 1) hx hb hf7 hw (by omega) (by omega) sl_19_1 rfl lk85 dX8_recordFields_9 ?_
        have e5 : Xa 19 r2 1 = X 19 r2 1 := by rw [hGXa 19 r2 1 (show 1902 ∉ [701, 707, 800, 900, 1000, 1100, 1200, 1300, 1400, 1504, 2602] by first | exact nlm_ni rfl | decide)]
        rw [e5]
        have f6 : 0 ≤ X 19 r2 1 ∧ X 19 r2 1 ≤ 5 := hR 19 r2 1
        refine x_icmp_ge (tgt := 78) hx hb (by omega) (by omega) dX8_recordFields_12 (by decide) (fun c7 => ?_) (fun c7 => ?_)
        · rw [hQ9]
          refine ret_v (mc := 0) (ms := 0) hx hb hr hlocks hw hS (by first | exact Nat.le_of_ble_eq_true rfl | omega) (by first | exact Nat.le_of_ble_eq_true rfl | omega) dX8_recordFields_78 ?_
          have hke8 : cFc X Y x = k := by have h9 := hkf; unfold cFc at *; rw [tyo_some y1] at *; omega
          have q9 : Frm [701, 707, 800, 900, 1000, 1100, 1200, 1300, 1400, 1504, 2602] X Xa := Frm.tr Frm.rf (Frm.mono hGXa (by first | exact nls_of rfl | decide))
          have q10 : Frm [500] Y Ya := Frm.tr Frm.rf (Frm.mono hGYa (by first | exact nls_of rfl | decide))
          have q11 : gK g X Xa := gK.tr gK.rf hgkXa
          exact ⟨Xa, Ya, rfl, hRXa, hFXa, hHYa, hCIXa, by omega, hOa, hla, (by omega), hRa, (by rw [hke8]; exact hTa), (by rw [hke8]; exact hRr9), (by rw [hke8]; exact rcV.next (by rw [show cFc Xa Ya (recK (cLa X Y) (cVl X Y) (cRid Y) sg r k.toNat 1 r) = k by (rw [recK_o _ ⟨by omega, by omega⟩, hxr, cFc.frm (M := [701, 707, 800, 900, 1000, 1100, 1200, 1300, 1400, 1504, 2602]) (N := [500]) q9 q10 (by decide) (by decide)]; exact hke8)]; exact hVa)), q11⟩
        · refine lv_iload_n hx hb dX8_recordFields_15 rfl (lv_at hl 2 rfl) ?_
          refine lv_iconst (v := jI 5) hx hb dX8_recordFields_16 rfl ?_
          refine x_imul hx hb dX8_recordFields_17 ?_
          refine lv_iload hx hb dX8_recordFields_18 (lv_at hl 4 rfl) ?_
          refine x_iadd hx hb dX8_recordFields_20 ?_
          refine lv_istore (lv' := [(5, .int (jI ((r * 5) + k))), (0, .ref (ad 0 0)), (1, .ref (ad 15 x)), (2, .int (jI r)), (3, .ref (ad 7 g)), (4, .int (jI k))]) hx hb dX8_recordFields_21 hl (by decide) rfl (fun ls hl => ?_)
          refine lv_aload_n hx hb dX8_recordFields_23 rfl (lv_at hl 4 rfl) ?_
          refine x_geto hx hb hf4 hw (by omega) (by omega) sl_7_3 lk224 dX8_recordFields_24 ?_
          refine lv_iload hx hb dX8_recordFields_27 (lv_at hl 0 rfl) ?_
          refine lv_aload_n hx hb dX8_recordFields_29 rfl (lv_at hl 2 rfl) ?_
          refine x_getr (jz := 0) hx hb hf6 hw (by omega) (by omega) sl_15_0 rfl lk97 dX8_recordFields_30 (fun y12 => ?_) (fun r13 y12 gr13 lr13 => ?_)
          · exfalso
            have e14 : Ya 15 x 0 = Y 15 x 0 := by rw [hGYa 15 x 0 (show 1501 ∉ [500] by first | exact nlm_ni rfl | decide)]
            rw [e14] at y12
            rw [y1] at y12; cases y12
          · have e15 : Ya 15 x 0 = Y 15 x 0 := by rw [hGYa 15 x 0 (show 1501 ∉ [500] by first | exact nlm_ni rfl | decide)]
            rw [e15] at y12
            have er13 : r13 = r2 := by rw [y1] at y12; cases y12; rfl
            rw [er13]
            refine x_geto hx hb hf7 hw (by omega) (by omega) sl_19_2 lk320 dX8_recordFields_33 ?_
            refine lv_iload hx hb dX8_recordFields_36 (lv_at hl 5 rfl) ?_
            refine x_iald hx hb hK.1 hw (by omega) (by omega) ar_20 (len_E ar_20 (by first | exact Nat.ne_of_beq_eq_false rfl | decide)) (by omega) (by omega) (by omega) dX8_recordFields_38 ?_
            have e16 : ∀ p9 q9 : Int, Xa 20 p9 q9 = X 20 p9 q9 := fun p9 q9 => by rw [hGXa 20 p9 q9 (show 2000 ∉ [701, 707, 800, 900, 1000, 1100, 1200, 1300, 1400, 1504, 2602] by first | exact nlm_ni rfl | decide)]
            rw [e16 r2 k]
            have f17 : 0 ≤ X 20 r2 k ∧ X 20 r2 k ≤ 19 := hR 20 r2 k
            refine x_iast hx hb hK.1 hw hS (by omega) (by omega) ar_10 (len_E ar_10 (by first | exact Nat.ne_of_beq_eq_false rfl | decide)) (by omega) (by omega) (by omega) dX8_recordFields_39 (fun H locs hw hS => ?_)
            obtain ⟨X18, hX18⟩ : ∃ Xq, Xq = u3 Xa 10 g ((r * 5) + k) (X 20 r2 k) := ⟨_, rfl⟩
            rw [← hX18] at hw
            have hRX18 : Rng X18 := by rw [hX18]; exact rng_set hRXa (show 0 ≤ (X 20 r2 k) ∧ (X 20 r2 k) ≤ 19 by omega)
            have hVX18 : X18 10 g ((r * 5) + k) = (X 20 r2 k) := by rw [hX18]; exact u3_s _ _ _ _ _
            have hFX18 : Frm [701, 707, 800, 900, 1000, 1100, 1200, 1300, 1400, 1504, 2602] X X18 := by rw [hX18]; exact Frm.set hFXa (show 1000 ∈ [701, 707, 800, 900, 1000, 1100, 1200, 1300, 1400, 1504, 2602] by first | exact nlm_in rfl | decide)
            refine lv_aload_n hx hb dX8_recordFields_40 rfl (lv_at hl 4 rfl) ?_
            refine x_geto hx hb hf4 hw (by omega) (by omega) sl_7_4 lk341 dX8_recordFields_41 ?_
            refine lv_iload hx hb dX8_recordFields_44 (lv_at hl 0 rfl) ?_
            refine lv_aload_n hx hb dX8_recordFields_46 rfl (lv_at hl 2 rfl) ?_
            refine x_getr (jz := 0) hx hb hf6 hw (by omega) (by omega) sl_15_0 rfl lk97 dX8_recordFields_47 (fun y19 => ?_) (fun r20 y19 gr20 lr20 => ?_)
            · exfalso
              have e21 : Ya 15 x 0 = Y 15 x 0 := by rw [hGYa 15 x 0 (show 1501 ∉ [500] by first | exact nlm_ni rfl | decide)]
              rw [e21] at y19
              rw [y1] at y19; cases y19
            · have e22 : Ya 15 x 0 = Y 15 x 0 := by rw [hGYa 15 x 0 (show 1501 ∉ [500] by first | exact nlm_ni rfl | decide)]
              rw [e22] at y19
              have er20 : r20 = r2 := by rw [y1] at y19; cases y19; rfl
              rw [er20]
              refine x_geto hx hb hf7 hw (by omega) (by omega) sl_19_3 lk135 dX8_recordFields_50 ?_
              refine lv_iload hx hb dX8_recordFields_53 (lv_at hl 5 rfl) ?_
              refine x_iald hx hb hK.1 hw (by omega) (by omega) ar_21 (len_E ar_21 (by first | exact Nat.ne_of_beq_eq_false rfl | decide)) (by omega) (by omega) (by omega) dX8_recordFields_55 ?_
              have e23 : ∀ p9 q9 : Int, X18 21 p9 q9 = X 21 p9 q9 := fun p9 q9 => by rw [hX18, u3_k _ _ _ _ (by first | exact Nat.ne_of_beq_eq_false rfl | decide), hGXa 21 p9 q9 (show 2100 ∉ [701, 707, 800, 900, 1000, 1100, 1200, 1300, 1400, 1504, 2602] by first | exact nlm_ni rfl | decide)]
              rw [e23 r2 k]
              have f24 : 0 ≤ X 21 r2 k ∧ X 21 r2 k ≤ 5 := hR 21 r2 k
              refine x_iast hx hb hK.1 hw hS (by omega) (by omega) ar_11 (len_E ar_11 (by first | exact Nat.ne_of_beq_eq_false rfl | decide)) (by omega) (by omega) (by omega) dX8_recordFields_56 (fun H locs hw hS => ?_)
              obtain ⟨X25, hX25⟩ : ∃ Xq, Xq = u3 X18 11 g ((r * 5) + k) (X 21 r2 k) := ⟨_, rfl⟩
              rw [← hX25] at hw
              have hRX25 : Rng X25 := by rw [hX25]; exact rng_set hRX18 (show 0 ≤ (X 21 r2 k) ∧ (X 21 r2 k) ≤ 5 by omega)
              have hVX25 : X25 11 g ((r * 5) + k) = (X 21 r2 k) := by rw [hX25]; exact u3_s _ _ _ _ _
              have hFX25 : Frm [701, 707, 800, 900, 1000, 1100, 1200, 1300, 1400, 1504, 2602] X X25 := by rw [hX25]; exact Frm.set hFX18 (show 1100 ∈ [701, 707, 800, 900, 1000, 1100, 1200, 1300, 1400, 1504, 2602] by first | exact nlm_in rfl | decide)
              refine lv_aload_n hx hb dX8_recordFields_57 rfl (lv_at hl 4 rfl) ?_
              refine x_geto hx hb hf4 hw (by omega) (by omega) sl_7_5 lk342 dX8_recordFields_58 ?_
              refine lv_iload hx hb dX8_recordFields_61 (lv_at hl 0 rfl) ?_
              refine lv_aload_n hx hb dX8_recordFields_63 rfl (lv_at hl 1 rfl) ?_
              refine lv_aload_n hx hb dX8_recordFields_64 rfl (lv_at hl 2 rfl) ?_
              refine lv_iload hx hb dX8_recordFields_65 (lv_at hl 5 rfl) ?_
              refine lv_aload_n hx hb dX8_recordFields_67 rfl (lv_at hl 4 rfl) ?_
              have q26 : Frm [1000, 1100] Xa X18 := by rw [hX18]; exact Frm.set Frm.rf (show 1000 ∈ [1000, 1100] by first | exact nlm_in rfl | decide)
              have q27 : Frm [1000, 1100] Xa X25 := by rw [hX25]; exact Frm.set q26 (show 1100 ∈ [1000, 1100] by first | exact nlm_in rfl | decide)
              have hO28 : rcOK X25 Ya g := rcOK.frm (M := [1000, 1100]) (N := []) hOa q27 Frm.rf (by decide) (by decide)
              have e29 : X25 7 g 6 = Xa 7 g 6 := by rw [hX25, u3_k _ _ _ _ (by first | exact Nat.ne_of_beq_eq_false rfl | decide), hX18, u3_k _ _ _ _ (by first | exact Nat.ne_of_beq_eq_false rfl | decide)]
              have e30 : X25 7 g 0 = Xa 7 g 0 := by rw [hX25, u3_k _ _ _ _ (by first | exact Nat.ne_of_beq_eq_false rfl | decide), hX18, u3_k _ _ _ _ (by first | exact Nat.ne_of_beq_eq_false rfl | decide)]
              have hCq33 : CInv cnt X25 Ya ln := cinv_frm (M := [1000, 1100]) (N := []) hCIXa q27 Frm.rf (by decide) (by decide)
              have hT36 : rcT X25 Ya g (recK (cLa X Y) (cVl X Y) (cRid Y) sg r k.toNat) := rcT.frm (M := [1000, 1100]) (N := []) hTa q27 Frm.rf (by decide) (by decide)
              have hR939 : rcR X25 Ya ln g (recK (cLa X Y) (cVl X Y) (cRid Y) sg r k.toNat) := rcR.frm (M := [1000, 1100]) (N := []) hRr9 q27 Frm.rf (by decide) (by decide)
              have q40 : Frm [701, 707, 800, 900, 1000, 1100, 1200, 1300, 1400, 1504, 2602] X Xa := Frm.tr Frm.rf (Frm.mono hGXa (by first | exact nls_of rfl | decide))
              have q41 : Frm [701, 707, 800, 900, 1000, 1100, 1200, 1300, 1400, 1504, 2602] X X18 := by rw [hX18]; exact Frm.set q40 (show 1000 ∈ [701, 707, 800, 900, 1000, 1100, 1200, 1300, 1400, 1504, 2602] by first | exact nlm_in rfl | decide)
              have q43 : Frm [500] Y Ya := Frm.tr Frm.rf (Frm.mono hGYa (by first | exact nls_of rfl | decide))
              have hfe44 : cFc X25 Ya = cFc X Y := cFc.frm (M := [701, 707, 800, 900, 1000, 1100, 1200, 1300, 1400, 1504, 2602]) (N := [500]) hFX25 q43 (by decide) (by decide)
              have hre45 : cLa X25 Ya = cLa X Y ∧ cVl X25 Ya = cVl X Y ∧ cRid Ya = cRid Y := ⟨cLa.frm (M := [701, 707, 800, 900, 1000, 1100, 1200, 1300, 1400, 1504, 2602]) (N := [500]) hFX25 q43 (by decide) (by decide), cVl.frm (M := [701, 707, 800, 900, 1000, 1100, 1200, 1300, 1400, 1504, 2602]) (N := [500]) hFX25 q43 (by decide) (by decide), cRid.frm (N := [500]) q43 (by decide)⟩
              have e46 : X25 0 0 3 = X 0 0 3 := by rw [hX25, u3_k _ _ _ _ (by first | exact Nat.ne_of_beq_eq_false rfl | decide), hX18, u3_k _ _ _ _ (by first | exact Nat.ne_of_beq_eq_false rfl | decide), hGXa 0 0 3 (show 4 ∉ [701, 707, 800, 900, 1000, 1100, 1200, 1300, 1400, 1504, 2602] by first | exact nlm_ni rfl | decide)]
              refine gos_l (run_V (As := [.ref (ad 15 x), .int (jI k), .ref (ad 7 g)]) (rest := [.int (jI ((r * 5) + k)), .ref (ad 12 g)]) hx hb hml hown hts (c_X8_recordedValue l D tc base ad cnt X25 Ya ln hRX25 hFx hLn hCq33 x k g (by omega) (by simp only [e46]; omega) (by omega) (by omega) hO28 (by simp only [e29]; omega) (recK (cLa X Y) (cVl X Y) (cRid Y) sg r k.toNat) hT36 hR939 (5 * r + k) (by rw [hfe44]; unfold cFc; rw [tyo_some y1]; omega)) (cwV 3 hts gX8_recordFields_X8_recordedValue rfl rfl rfl (by first | exact hd_X8_recordedValue | decide +kernel) ⟨Nat.le_of_ble_eq_true rfl, Nat.le_of_ble_eq_true rfl⟩) hK hw (by first | exact Int.le_refl 0 | omega) (by first | exact zlt hc0 | omega) sl_0_0 rfl rfl hl.1 rfl (Nat.le_of_ble_eq_true rfl) dX8_recordFields_68 ⟨Nat.le_of_ble_eq_true rfl, Nat.le_of_ble_eq_true rfl⟩) hS (fun z47 u48 H locs p49 hw hS => ?_)
              obtain ⟨X50, Y51, eu48, hRX50, hG52, hJ53, hCIX50, p49, hOX50, hleX50, hnrX50, htvX50, hcsX50, hgkX50⟩ := p49
              subst eu48
              have hFX50 : Frm [701, 707, 800, 900, 1000, 1100, 1200, 1300, 1400, 1504, 2602] X X50 := Frm.tr hFX25 (Frm.mono hG52 (by first | exact nls_of rfl | decide))
              have hHY51 : Frm [500] Y Y51 := Frm.tr hHYa (Frm.mono hJ53 (by first | exact nls_of rfl | decide))
              rw [e30] at hleX50
              rw [e29] at hnrX50
              rw [hre45.1, hre45.2.1, hre45.2.2] at hcsX50
              refine x_last hx hb hK.1 hw hS (by omega) (by omega) ar_12 (len_E ar_12 (by first | exact Nat.ne_of_beq_eq_false rfl | decide)) (by omega) (by omega) (by omega) dX8_recordFields_71 (fun H locs hw hS => ?_)
              obtain ⟨X54, hX54⟩ : ∃ Xq, Xq = u3 X50 12 g ((r * 5) + k) z47 := ⟨_, rfl⟩
              rw [← hX54] at hw
              have hRX54 : Rng X54 := by rw [hX54]; exact rng_set hRX50 (show (-9223372036854775808) ≤ z47 ∧ z47 ≤ 9223372036854775807 by omega)
              have hVX54 : X54 12 g ((r * 5) + k) = z47 := by rw [hX54]; exact u3_s _ _ _ _ _
              have hFX54 : Frm [701, 707, 800, 900, 1000, 1100, 1200, 1300, 1400, 1504, 2602] X X54 := by rw [hX54]; exact Frm.set hFX50 (show 1200 ∈ [701, 707, 800, 900, 1000, 1100, 1200, 1300, 1400, 1504, 2602] by first | exact nlm_in rfl | decide)
              refine lv_iinc (v := jI (k + 1)) (lv' := [(4, .int (jI (k + 1))), (5, .int (jI ((r * 5) + k))), (0, .ref (ad 0 0)), (1, .ref (ad 15 x)), (2, .int (jI r)), (3, .ref (ad 7 g))]) hx hb dX8_recordFields_72 hl (k := 5) rfl (jI_add _ _) (by decide) rfl (fun ls hl => ?_)
              refine lv_goto (tgt := 3) hx hb dX8_recordFields_75 (by decide) ?_
              have q62 : Frm [1200] X50 X54 := by rw [hX54]; exact Frm.set Frm.rf (show 1200 ∈ [1200] by first | exact nlm_in rfl | decide)
              have hCq63 : CInv cnt X54 Y51 ln := cinv_frm (M := [1200]) (N := []) hCIX50 q62 Frm.rf (by decide) (by decide)
              have hO65 : rcOK X54 Y51 g := rcOK.frm (M := [1200]) (N := []) hOX50 q62 Frm.rf (by decide) (by decide)
              have e66 : X54 7 g 0 = X50 7 g 0 := by rw [hX54, u3_k _ _ _ _ (by first | exact Nat.ne_of_beq_eq_false rfl | decide)]
              have e67 : X54 7 g 6 = X50 7 g 6 := by rw [hX54, u3_k _ _ _ _ (by first | exact Nat.ne_of_beq_eq_false rfl | decide)]
              have q68 : Frm [1000] Xa X18 := by rw [hX18]; exact Frm.set Frm.rf (show 1000 ∈ [1000] by first | exact nlm_in rfl | decide)
              have q69 : Frm [701, 707, 800, 900, 1300, 1400, 1504, 2602] X25 X50 := Frm.tr Frm.rf (Frm.mono hG52 (by first | exact nls_of rfl | decide))
              have e70 : X50 11 g (r * 5 + k) = (X 21 r2 k) := (by rw [hG52 11 g (r * 5 + k) (show 1100 ∉ [701, 707, 800, 900, 1300, 1400, 1504, 2602] by first | exact nlm_ni rfl | decide)]; exact hVX25)
              have e71 : ∀ p9 q9 : Int, X25 21 p9 q9 = X 21 p9 q9 := fun p9 q9 => by rw [hX25, u3_k _ _ _ _ (by first | exact Nat.ne_of_beq_eq_false rfl | decide), hX18, u3_k _ _ _ _ (by first | exact Nat.ne_of_beq_eq_false rfl | decide), hGXa 21 p9 q9 (show 2100 ∉ [701, 707, 800, 900, 1000, 1100, 1200, 1300, 1400, 1504, 2602] by first | exact nlm_ni rfl | decide)]
              have q74 : Frm [701, 707, 800, 900, 1000, 1100, 1200, 1300, 1400, 1504, 2602] Xa X18 := by rw [hX18]; exact Frm.set Frm.rf (show 1000 ∈ [701, 707, 800, 900, 1000, 1100, 1200, 1300, 1400, 1504, 2602] by first | exact nlm_in rfl | decide)
              have q75 : Frm [701, 707, 800, 900, 1000, 1100, 1200, 1300, 1400, 1504, 2602] Xa X25 := by rw [hX25]; exact Frm.set q74 (show 1100 ∈ [701, 707, 800, 900, 1000, 1100, 1200, 1300, 1400, 1504, 2602] by first | exact nlm_in rfl | decide)
              have q76 : Frm [701, 707, 800, 900, 1000, 1100, 1200, 1300, 1400, 1504, 2602] Xa X50 := Frm.tr q75 (Frm.mono hG52 (by first | exact nls_of rfl | decide))
              have q77 : Frm [701, 707, 800, 900, 1000, 1100, 1200, 1300, 1400, 1504, 2602] Xa X54 := by rw [hX54]; exact Frm.set q76 (show 1200 ∈ [701, 707, 800, 900, 1000, 1100, 1200, 1300, 1400, 1504, 2602] by first | exact nlm_in rfl | decide)
              have q78 : Frm [500] Ya Y51 := Frm.tr Frm.rf (Frm.mono hJ53 (by first | exact nls_of rfl | decide))
              have hcs079 : cSt X X54 Y Y51 := cSt.of (L := [701, 707, 800, 900, 1000, 1100, 1200, 1300, 1400, 1504, 2602]) (N := [500]) hFX54 hHY51 (by decide) (by decide)
              have q87 : gK g X Xa := gK.tr gK.rf hgkXa
              have q88 : gK g X X18 := by rw [hX18]; exact gK.set q87 (fun _ => by first | rfl | omega)
              have q89 : gK g X X25 := by rw [hX25]; exact gK.set q88 (fun _ => by first | rfl | omega)
              have q90 : gK g X X50 := gK.tr q89 hgkX50
              have q91 : gK g X X54 := by rw [hX54]; exact gK.set q90 (fun _ => by first | rfl | omega)
              exact ih3 (k + 1) X54 Y51 _ _ _ (by omega) hRX54 hFX54 hHY51 (by omega) (hCq63) (hO65) ((by first | omega | (simp only [e66]; omega))) ((by first | omega | (simp only [e67]; omega))) ((by rw [hX54]; exact cRx.val (cRx.frm (by rw [hX25]; exact cRv.lane (cRv.frm hRa q68 (by decide))) q69 (by decide)) (fun h9 => by rw [e70] at h9; exact htvX50 r2 (by rw [hGYa 15 x 0 (show 1501 ∉ [500] by first | exact nlm_ni rfl | decide)]; exact y1) (by rw [e71]; exact h9)))) ((by rw [recK_s (by omega), hxr]; exact rcT.frm (M := [1200]) (N := []) hcsX50.1 q62 Frm.rf (by decide) (by decide))) ((by rw [recK_s (by omega), hxr]; exact rcR.frm (M := [1200]) (N := []) hcsX50.2.1 q62 Frm.rf (by decide) (by decide))) ((by rw [recK_s (by omega), hxr]; exact rcV.push hVa (cSt.of (L := [701, 707, 800, 900, 1000, 1100, 1200, 1300, 1400, 1504, 2602]) (N := [500]) q77 q78 (by decide) (by decide)) ⟨by omega, by omega⟩ (by omega) (fun t9 => by rw [show Xa 19 t9 1 = X 19 t9 1 from (by rw [hGXa 19 t9 1 (show 1902 ∉ [701, 707, 800, 900, 1000, 1100, 1200, 1300, 1400, 1504, 2602] by first | exact nlm_ni rfl | decide)])]; exact (hR 19 t9 1).2) (fun j hj => (by rw [hX54, u3_k _ _ _ _ (by first | exact Nat.ne_of_beq_eq_false rfl | decide), hG52 10 g j (show 1000 ∉ [701, 707, 800, 900, 1300, 1400, 1504, 2602] by first | exact nlm_ni rfl | decide), hX25, u3_k _ _ _ _ (by first | exact Nat.ne_of_beq_eq_false rfl | decide), hX18, u3_ij (by omega)])) (fun j hj => (by rw [hX54, u3_k _ _ _ _ (by first | exact Nat.ne_of_beq_eq_false rfl | decide), hG52 11 g j (show 1100 ∉ [701, 707, 800, 900, 1300, 1400, 1504, 2602] by first | exact nlm_ni rfl | decide), hX25, u3_ij (by omega), hX18, u3_k _ _ _ _ (by first | exact Nat.ne_of_beq_eq_false rfl | decide)])) (fun j hj => (by rw [hX54, u3_ij (by omega), hG52 12 g j (show 1200 ∉ [701, 707, 800, 900, 1300, 1400, 1504, 2602] by first | exact nlm_ni rfl | decide), hX25, u3_k _ _ _ _ (by first | exact Nat.ne_of_beq_eq_false rfl | decide), hX18, u3_k _ _ _ _ (by first | exact Nat.ne_of_beq_eq_false rfl | decide)])) (fun q a b => recP_o ⟨a, by omega⟩) (fun q hq => recP_5 hq) ⟨(by rw [recP_o ⟨by omega, by omega⟩, recK_o _ ⟨by omega, by omega⟩, hxr, hcs079.2.2.2, hcs079.2.1, tyo_some y1]; exact (by rw [show 5 * r + k = r * 5 + k by omega]; exact (by rw [hX54, u3_k _ _ _ _ (by first | exact Nat.ne_of_beq_eq_false rfl | decide), hG52 10 g (r * 5 + k) (show 1000 ∉ [701, 707, 800, 900, 1300, 1400, 1504, 2602] by first | exact nlm_ni rfl | decide), hX25, u3_k _ _ _ _ (by first | exact Nat.ne_of_beq_eq_false rfl | decide)]; exact hVX18))), (by rw [recP_o ⟨by omega, by omega⟩, recK_o _ ⟨by omega, by omega⟩, hxr]; unfold cLa; rw [hcs079.2.2.2, hcs079.2.2.1, tyo_some y1]; exact (by rw [show 5 * r + k = r * 5 + k by omega]; exact (by rw [hX54, u3_k _ _ _ _ (by first | exact Nat.ne_of_beq_eq_false rfl | decide), hG52 11 g (r * 5 + k) (show 1100 ∉ [701, 707, 800, 900, 1300, 1400, 1504, 2602] by first | exact nlm_ni rfl | decide)]; exact hVX25))), (by have h9 := hVX54; rw [show r * 5 + k = 5 * r + k by omega] at h9; rw [h9]; exact hcsX50.2.2)⟩)) (q91) ((by unfold cFc; rw [tyo_some y1]; omega)) hw hS (lv_sub hl [2, 3, 4, 5, 0] rfl)
  exact lp3 (5 - 0 : Int).toNat.succ 0 X Y _ _ _ (by omega) hR Frm.rf Frm.rf (by omega) (hCI) (hO) (Int.le_refl _) ((by omega)) (hRv) (hst) (hsr) (hsv) (gK.rf) ((hR 19 _ 1).1) hw hS (lv_sub hl [1, 2, 3, 4, 0] rfl)

set_option maxHeartbeats 4000000 in
set_option maxRecDepth 100000 in
theorem c_X8_recordFrom (l : Launch) (D : va_G) (tc : Nat → ClassId) (base : Nat) (ad : Nat → Int → Nat) (cnt : Nat → Int) (X : Nat → Int → Int → Int) (Y : Nat → Int → Int → Option Int) (ln : Int → Int) (hR : Rng X) (hFx : Fx cnt) (hLn : LnOK ln) (hCI : CInv cnt X Y ln) (x g : Int) (hx0 : 0 ≤ x ∧ x ≤ 29) (hxt : x < X 0 0 3) (hg : 0 ≤ g ∧ g < 6) (hRv : cRv X) : KV l D tc base yX8_recordFrom wsX8_recordFrom ({ frames := 3, cells := 0, slots := 0, locals := 72 } : Room) [.ref (ad 0 0), .ref (ad 15 x), .ref (ad 7 g)] (ad, cnt, X, Y, ln) 0 0 (fun u => ∃ (X1 : Nat → Int → Int → Int) (Y1 : Nat → Int → Int → Option Int), u = (ad, cnt, X1, Y1, ln) ∧ Rng X1 ∧ Frm [701, 707, 800, 900, 1000, 1100, 1200, 1300, 1400, 1504, 2602] X X1 ∧ Frm [500] Y Y1 ∧ CInv cnt X1 Y1 ln ∧ (0 : Int) ≤ 0 ∧ rcOK X1 Y1 g ∧ cRv X1 ∧ rcT X1 Y1 g (recR (cFc X Y) (cLa X Y) (cVl X Y) (cRid Y) x 30) ∧ rcR X1 Y1 ln g (recR (cFc X Y) (cLa X Y) (cVl X Y) (cRid Y) x 30) ∧ rcV X1 Y1 g (recR (cFc X Y) (cLa X Y) (cVl X Y) (cRid Y) x 30) (recR (cFc X Y) (cLa X Y) (cVl X Y) (cRid Y) x 30 0 0) 0 ∧ gK g X X1) := by
  refine K_of (cc := cX8_recordFrom) (maxL := 4) (ret := none) (by decide) rfl (Nat.le_of_ble_eq_true rfl) ?_
  intro p e s m below meth c ls hx hb hr hml hown hts hlocks hl hK hw hS
  have hown : s.vm.findClass RX8 = some m.cls := hown
  obtain ⟨av9, hav9⟩ : ∃ a9 : Array Value, a9 = ([.ref (ad 0 0), .ref (ad 15 x), .ref (ad 7 g)] : List Value).toArray := ⟨_, rfl⟩
  rw [← hav9] at hts ⊢
  obtain ⟨Q9, hQ9⟩ : ∃ q9Q : State → Prop, q9Q = MQ below (QV D tc base (fun u => ∃ (X1 : Nat → Int → Int → Int) (Y1 : Nat → Int → Int → Option Int), u = (ad, cnt, X1, Y1, ln) ∧ Rng X1 ∧ Frm [701, 707, 800, 900, 1000, 1100, 1200, 1300, 1400, 1504, 2602] X X1 ∧ Frm [500] Y Y1 ∧ CInv cnt X1 Y1 ln ∧ (0 : Int) ≤ 0 ∧ rcOK X1 Y1 g ∧ cRv X1 ∧ rcT X1 Y1 g (recR (cFc X Y) (cLa X Y) (cVl X Y) (cRid Y) x 30) ∧ rcR X1 Y1 ln g (recR (cFc X Y) (cLa X Y) (cVl X Y) (cRid Y) x 30) ∧ rcV X1 Y1 g (recR (cFc X Y) (cLa X Y) (cVl X Y) (cRid Y) x 30) (recR (cFc X Y) (cLa X Y) (cVl X Y) (cRid Y) x 30 0 0) 0 ∧ gK g X X1)) av9 s 0 0 (frA base) := ⟨_, rfl⟩
  rw [← hQ9]
  have hi4 : ∀ w ∈ wsX40, w ∈ wsX8_recordFrom := fun w h => List.mem_cons_of_mem _ (List.mem_append_left _ (List.mem_append_left _ (List.mem_append_left _ (List.mem_append_left _ (List.mem_append_right _ h)))))
  have hf4 : fctx s m _ RX8 wsX8_recordFrom D tc RX4 TX4 9 4 := ⟨hts, hi4, hown, hK.1, rfl⟩
  have hi8 : ∀ w ∈ wsX80, w ∈ wsX8_recordFrom := fun w h => List.mem_cons_of_mem _ (List.mem_append_left _ (List.mem_append_left _ (List.mem_append_left _ (List.mem_append_right _ h))))
  have hf8 : fctx s m _ RX8 wsX8_recordFrom D tc RX8 TX8 12 8 := ⟨hts, hi8, hown, hK.1, rfl⟩
  have lk39 := hts (.fieldLink RX8 39 (TX8 8).1 (TX8 8).2.1 (TX8 8).2.2.1) (gj_X8_recordFrom_0 _ (gp_1 (gp_1 gp_h)))
  have lk231 := hts (.fieldLink RX8 231 (TX4 0).1 (TX4 0).2.1 (TX4 0).2.2.1) (gj_X8_recordFrom_0 _ (gp_h))
  have lk234 := hts (.fieldLink RX8 234 (TX4 6).1 (TX4 6).2.1 (TX4 6).2.2.1) (gj_X8_recordFrom_0 _ (gp_1 gp_h))
  have hc0 : cnt 0 = 1 := hFx.at 0 1 (by decide)
  have hc5 : cnt 5 = 1 := hFx.at 5 1 (by decide)
  have hc7 : cnt 7 = 6 := hFx.at 7 6 (by decide)
  have hc15 : cnt 15 = 30 := hFx.at 15 30 (by decide)
  have hl : lv_has ls 4 [(0, .ref (ad 0 0)), (1, .ref (ad 15 x)), (2, .ref (ad 7 g))] := hl
  have ftc : 0 ≤ X 0 0 3 ∧ X 0 0 3 ≤ 30 := hR 0 0 3
  have fty : 0 ≤ X 0 0 1 ∧ X 0 0 1 ≤ 8 := hR 0 0 1
  have hct : cnt 19 = X 0 0 1 := hCI.2.2.2.1.1
  have hfj : 0 ≤ X 29 0 3 ∧ X 29 0 3 ≤ 4 := hR 29 0 3
  have hfn : 0 ≤ X 29 0 1 ∧ X 29 0 1 ≤ 80 := hR 29 0 1
  refine lv_aload_n hx hb dX8_recordFrom_0 rfl (lv_at hl 0 rfl) ?_
  refine gos_v (run_V (As := []) (rest := []) hx hb hml hown hts (c_X8_forgetNumbers l D tc base ad cnt X Y ln hR hFx hLn hCI) (cwV 0 hts gX8_recordFrom_X8_forgetNumbers rfl rfl rfl (by first | exact hd_X8_forgetNumbers | decide +kernel) ⟨Nat.le_of_ble_eq_true rfl, Nat.le_of_ble_eq_true rfl⟩) hK hw (by first | exact Int.le_refl 0 | omega) (by first | exact zlt hc0 | omega) sl_0_0 rfl rfl hl.1 rfl (Nat.le_of_ble_eq_true rfl) dX8_recordFrom_1 ⟨Nat.le_of_ble_eq_true rfl, Nat.le_of_ble_eq_true rfl⟩) hS (fun u2 H locs p3 hw hS => ?_)
  obtain ⟨X4, eu2, hRX4, hG5, hCIX4, p3, hfaX4, hfwX4⟩ := p3
  subst eu2
  have hFX4 : Frm [701, 707, 800, 900, 1000, 1100, 1200, 1300, 1400, 1504, 2602] X X4 := Frm.tr Frm.rf (Frm.mono hG5 (by first | exact nls_of rfl | decide))
  refine lv_aload_n hx hb dX8_recordFrom_4 rfl (lv_at hl 2 rfl) ?_
  refine lv_iconst (v := jI 0) hx hb dX8_recordFrom_5 rfl ?_
  refine x_puti (jz := 0) hx hb hf4 ⟨tyX4_ok, nmX4⟩ hw hS (by omega) (by omega) sl_7_0 rfl lk231 rfl (tyX4_ok 0 (by decide)) rfl rfl dX8_recordFrom_6 (fun H locs hw hS => ?_)
  obtain ⟨X6, hX6⟩ : ∃ Xq, Xq = u3 X4 7 g 0 0 := ⟨_, rfl⟩
  rw [← hX6] at hw
  have hRX6 : Rng X6 := by rw [hX6]; exact rng_set hRX4 (show 0 ≤ 0 ∧ 0 ≤ 30 by omega)
  have hVX6 : X6 7 g 0 = 0 := by rw [hX6]; exact u3_s _ _ _ _ _
  have hFX6 : Frm [701, 707, 800, 900, 1000, 1100, 1200, 1300, 1400, 1504, 2602] X X6 := by rw [hX6]; exact Frm.set hFX4 (show 701 ∈ [701, 707, 800, 900, 1000, 1100, 1200, 1300, 1400, 1504, 2602] by first | exact nlm_in rfl | decide)
  refine lv_aload_n hx hb dX8_recordFrom_9 rfl (lv_at hl 2 rfl) ?_
  refine lv_iconst (v := jI 0) hx hb dX8_recordFrom_10 rfl ?_
  refine x_puti (jz := 6) hx hb hf4 ⟨tyX4_ok, nmX4⟩ hw hS (by omega) (by omega) sl_7_6 rfl lk234 rfl (tyX4_ok 6 (by decide)) rfl rfl dX8_recordFrom_11 (fun H locs hw hS => ?_)
  obtain ⟨X7, hX7⟩ : ∃ Xq, Xq = u3 X6 7 g 6 0 := ⟨_, rfl⟩
  rw [← hX7] at hw
  have hRX7 : Rng X7 := by rw [hX7]; exact rng_set hRX6 (show 0 ≤ 0 ∧ 0 ≤ 150 by omega)
  have hVX7 : X7 7 g 6 = 0 := by rw [hX7]; exact u3_s _ _ _ _ _
  have hFX7 : Frm [701, 707, 800, 900, 1000, 1100, 1200, 1300, 1400, 1504, 2602] X X7 := by rw [hX7]; exact Frm.set hFX6 (show 707 ∈ [701, 707, 800, 900, 1000, 1100, 1200, 1300, 1400, 1504, 2602] by first | exact nlm_in rfl | decide)
  have q8 : Frm [701, 707] X4 X6 := by rw [hX6]; exact Frm.set Frm.rf (show 701 ∈ [701, 707] by first | exact nlm_in rfl | decide)
  have q9 : Frm [701, 707] X4 X7 := by rw [hX7]; exact Frm.set q8 (show 707 ∈ [701, 707] by first | exact nlm_in rfl | decide)
  have hO0 : rcOK X7 Y g := rcOK.nil (by rw [hX7, u3_ij (by omega)]; exact hVX6)
  have hCI0 : CInv cnt X7 Y ln := cinv_record (g := g) hCIX4 (Frm.mono q9 (by first | exact nls_of rfl | decide)) Frm.rf (fun i hi => ⟨(by rw [hX7, u3_ij (by omega), hX6, u3_ij (by omega)]), fun j => (by rw [hX7, u3_k _ _ _ _ (by first | exact Nat.ne_of_beq_eq_false rfl | decide), hX6, u3_k _ _ _ _ (by first | exact Nat.ne_of_beq_eq_false rfl | decide)])⟩) (fun r9 a b => by rw [hX7, u3_ij (by omega)] at b; rw [hVX6] at b; omega)
  have hT0 : rcT X7 Y g sg0 := ⟨(by rw [hX7, u3_ij (by omega)]; exact hVX6), fun i a b => absurd b (by show ¬ i < 0; omega), fun x9 a b => (by rw [hX7, u3_k _ _ _ _ (by first | exact Nat.ne_of_beq_eq_false rfl | decide), hX6, u3_k _ _ _ _ (by first | exact Nat.ne_of_beq_eq_false rfl | decide)]; exact hfaX4 x9 a (by rw [← (show X7 0 0 3 = X 0 0 3 from (by rw [hX7, u3_k _ _ _ _ (by first | exact Nat.ne_of_beq_eq_false rfl | decide), hX6, u3_k _ _ _ _ (by first | exact Nat.ne_of_beq_eq_false rfl | decide), hG5 0 0 3 (show 4 ∉ [1504, 2602] by first | exact nlm_ni rfl | decide)]))]; exact b))⟩
  refine lv_aload_n hx hb dX8_recordFrom_14 rfl (lv_at hl 0 rfl) ?_
  refine lv_aload_n hx hb dX8_recordFrom_15 rfl (lv_at hl 1 rfl) ?_
  refine lv_aload_n hx hb dX8_recordFrom_16 rfl (lv_at hl 2 rfl) ?_
  have e10 : X7 0 0 3 = X 0 0 3 := by rw [hX7, u3_k _ _ _ _ (by first | exact Nat.ne_of_beq_eq_false rfl | decide), hX6, u3_k _ _ _ _ (by first | exact Nat.ne_of_beq_eq_false rfl | decide), hG5 0 0 3 (show 4 ∉ [1504, 2602] by first | exact nlm_ni rfl | decide)]
  refine gos_i (run_V (As := [.ref (ad 15 x), .ref (ad 7 g)]) (rest := []) hx hb hml hown hts (c_X8_recordNumberOf l D tc base ad cnt X7 Y ln hRX7 hFx hLn hCI0 x g (by omega) (by simp only [e10]; omega) (by omega) hO0 (sg0) hT0) (cwV 2 hts gX8_recordFrom_X8_recordNumberOf rfl rfl rfl (by first | exact hd_X8_recordNumberOf | decide +kernel) ⟨Nat.le_of_ble_eq_true rfl, Nat.le_of_ble_eq_true rfl⟩) hK hw (by first | exact Int.le_refl 0 | omega) (by first | exact zlt hc0 | omega) sl_0_0 rfl rfl hl.1 rfl (Nat.le_of_ble_eq_true rfl) dX8_recordFrom_17 ⟨Nat.le_of_ble_eq_true rfl, Nat.le_of_ble_eq_true rfl⟩) hS (fun z11 u12 H locs p13 hw hS => ?_)
  obtain ⟨X14, Y15, eu12, hRX14, hG16, hJ17, hCIX14, p13, hOX14, hleX14, hzrX14, hTrX14, hgkX14⟩ := p13
  subst eu12
  have hFX14 : Frm [701, 707, 800, 900, 1000, 1100, 1200, 1300, 1400, 1504, 2602] X X14 := Frm.tr hFX7 (Frm.mono hG16 (by first | exact nls_of rfl | decide))
  have hHY15 : Frm [500] Y Y15 := Frm.tr Frm.rf (Frm.mono hJ17 (by first | exact nls_of rfl | decide))
  refine lv_pop hx hb dX8_recordFrom_20 rfl ?_
  refine lv_iconst (v := jI 0) hx hb dX8_recordFrom_21 rfl ?_
  refine lv_istore_n (lv' := [(3, .int (jI 0)), (0, .ref (ad 0 0)), (1, .ref (ad 15 x)), (2, .ref (ad 7 g))]) hx hb dX8_recordFrom_22 rfl hl (by decide) rfl (fun ls hl => ?_)
  have lp23 : ∀ (nn : Nat) (r : Int) (Xa : Nat → Int → Int → Int) (Ya : Nat → Int → Int → Option Int) (H : Heap) (locs : List Loc) (ls : Array Slot), (30 - r) < (nn : Int) → (Rng Xa) → (Frm [701, 707, 800, 900, 1000, 1100, 1200, 1300, 1400, 1504, 2602] X14 Xa) → (Frm [500] Y15 Ya) → (0 ≤ r ∧ r ≤ 30) → (CInv cnt Xa Ya ln) → (rcOK Xa Ya g) → (Xa 7 g 6 ≤ 5 * r) → (cRv Xa) → (rcT Xa Ya g (recR (cFc X Y) (cLa X Y) (cVl X Y) (cRid Y) x r.toNat)) → (rcR Xa Ya ln g (recR (cFc X Y) (cLa X Y) (cVl X Y) (cRid Y) x r.toNat)) → (rcV Xa Ya g (recR (cFc X Y) (cLa X Y) (cVl X Y) (cRid Y) x r.toNat) r 0) → (gK g X14 Xa) → wd D tc base (ad, cnt, Xa, Ya, ln) H → va_S (frA base) s.heap H locs → lv_has ls 4 [(0, .ref (ad 0 0)), (1, .ref (ad 15 x)), (2, .ref (ad 7 g)), (3, .int (jI r))] → W p l e ({ frames := 3, cells := 0, slots := 0, locals := 72 } : Room) s m av9 below meth c H locs 0 0 Q9 (F0 m 23 ls []) := by
    intro nn
    induction nn with
    | zero => intro r Xa Ya H locs ls hm hRXa hGXa hGYa hr0 hCIXa hOa hna hRa hTa hRr9 hVa hgkXa hw hS hl; exfalso; omega
    | succ nn ih23 =>
      intro r Xa Ya H locs ls hm hRXa hGXa hGYa hr0 hCIXa hOa hna hRa hTa hRr9 hVa hgkXa hw hS hl
      have hHYa : Frm [500] Y Ya := Frm.tr hHY15 (Frm.mono hGYa (by first | exact nls_of rfl | decide))
      have hFXa : Frm [701, 707, 800, 900, 1000, 1100, 1200, 1300, 1400, 1504, 2602] X Xa := Frm.tr hFX14 (Frm.mono hGXa (by first | exact nls_of rfl | decide))
      have hTa1 : Xa 7 g 0 = recR (cFc X Y) (cLa X Y) (cVl X Y) (cRid Y) x r.toNat 0 0 := hTa.1
      refine lv_iload_n hx hb dX8_recordFrom_23 rfl (lv_at hl 3 rfl) ?_
      refine lv_bipush (v := jI 30) hx hb dX8_recordFrom_24 (by decide) ?_
      refine x_icmp_ge (tgt := 55) hx hb (by omega) (by omega) dX8_recordFrom_26 (by decide) (fun c18 => ?_) (fun c18 => ?_)
      · rw [hQ9]
        refine ret_v (mc := 0) (ms := 0) hx hb hr hlocks hw hS (by first | exact Nat.le_of_ble_eq_true rfl | omega) (by first | exact Nat.le_of_ble_eq_true rfl | omega) dX8_recordFrom_55 ?_
        have f7g : 0 ≤ Xa 7 g 0 ∧ Xa 7 g 0 ≤ 30 := hRXa 7 g 0
        have hfs19 : recR (cFc X Y) (cLa X Y) (cVl X Y) (cRid Y) x 30 = recR (cFc X Y) (cLa X Y) (cVl X Y) (cRid Y) x r.toNat := recR_end ⟨by omega, by omega⟩ (by omega)
        have q20 : gK g X X4 := gK.tr gK.rf (gK.frm hG5 (by decide))
        have q21 : gK g X X6 := by rw [hX6]; exact gK.set q20 (fun _ => by first | rfl | omega)
        have q22 : gK g X X7 := by rw [hX7]; exact gK.set q21 (fun _ => by first | rfl | omega)
        have q23 : gK g X X14 := gK.tr q22 hgkX14
        have q24 : gK g X Xa := gK.tr q23 hgkXa
        exact ⟨Xa, Ya, rfl, hRXa, hFXa, hHYa, hCIXa, by omega, hOa, hRa, (by rw [hfs19]; exact hTa), (by rw [hfs19]; exact hRr9), (by rw [hfs19]; exact rcV.upto hVa (by omega)), q24⟩
      · refine lv_iload_n hx hb dX8_recordFrom_29 rfl (lv_at hl 3 rfl) ?_
        refine lv_aload_n hx hb dX8_recordFrom_30 rfl (lv_at hl 2 rfl) ?_
        refine x_geti (jz := 0) hx hb hf4 hw (by omega) (by omega) sl_7_0 rfl lk231 dX8_recordFrom_31 ?_
        have f25 : 0 ≤ Xa 7 g 0 ∧ Xa 7 g 0 ≤ 30 := hRXa 7 g 0
        refine x_icmp_ge (tgt := 55) hx hb (by omega) (by omega) dX8_recordFrom_34 (by decide) (fun c26 => ?_) (fun c26 => ?_)
        · rw [hQ9]
          refine ret_v (mc := 0) (ms := 0) hx hb hr hlocks hw hS (by first | exact Nat.le_of_ble_eq_true rfl | omega) (by first | exact Nat.le_of_ble_eq_true rfl | omega) dX8_recordFrom_55 ?_
          have f7g : 0 ≤ Xa 7 g 0 ∧ Xa 7 g 0 ≤ 30 := hRXa 7 g 0
          have hfs27 : recR (cFc X Y) (cLa X Y) (cVl X Y) (cRid Y) x 30 = recR (cFc X Y) (cLa X Y) (cVl X Y) (cRid Y) x r.toNat := recR_end ⟨by omega, by omega⟩ (by omega)
          have q28 : gK g X X4 := gK.tr gK.rf (gK.frm hG5 (by decide))
          have q29 : gK g X X6 := by rw [hX6]; exact gK.set q28 (fun _ => by first | rfl | omega)
          have q30 : gK g X X7 := by rw [hX7]; exact gK.set q29 (fun _ => by first | rfl | omega)
          have q31 : gK g X X14 := gK.tr q30 hgkX14
          have q32 : gK g X Xa := gK.tr q31 hgkXa
          exact ⟨Xa, Ya, rfl, hRXa, hFXa, hHYa, hCIXa, by omega, hOa, hRa, (by rw [hfs27]; exact hTa), (by rw [hfs27]; exact hRr9), (by rw [hfs27]; exact rcV.upto hVa (by omega)), q32⟩
        · refine lv_aload_n hx hb dX8_recordFrom_37 rfl (lv_at hl 0 rfl) ?_
          refine lv_aload_n hx hb dX8_recordFrom_38 rfl (lv_at hl 0 rfl) ?_
          refine x_geto hx hb hf8 hw (by first | exact Int.le_refl 0 | omega) (by first | exact zlt hc0 | omega) sl_0_8 lk39 dX8_recordFrom_39 ?_
          refine lv_iload_n hx hb dX8_recordFrom_42 rfl (lv_at hl 3 rfl) ?_
          refine x_aald hx hb hK.1 hw (by first | exact Int.le_refl 0 | omega) (by first | exact zlt hc5 | omega) ar_5 rfl (len_E ar_5 (by first | exact Nat.ne_of_beq_eq_false rfl | decide)) (by omega) (by omega) (by omega) dX8_recordFrom_43 (fun y33 => ?_) (fun r34 y33 gr34 lr34 => ?_)
          · exfalso
            obtain ⟨x9, e9, -⟩ := hOa.1 r (by omega) (by omega); rw [e9] at y33; cases y33
          · have e35 : Xa 0 0 3 = X 0 0 3 := by rw [hGXa 0 0 3 (show 4 ∉ [701, 707, 800, 900, 1000, 1100, 1200, 1300, 1400, 1504, 2602] by first | exact nlm_ni rfl | decide), hG16 0 0 3 (show 4 ∉ [1504, 701, 800, 900] by first | exact nlm_ni rfl | decide), hX7, u3_k _ _ _ _ (by first | exact Nat.ne_of_beq_eq_false rfl | decide), hX6, u3_k _ _ _ _ (by first | exact Nat.ne_of_beq_eq_false rfl | decide), hG5 0 0 3 (show 4 ∉ [1504, 2602] by first | exact nlm_ni rfl | decide)]
            have hb8 : r34 < X 0 0 3 := by obtain ⟨x9, e9, a9, b9, -⟩ := hOa.1 r (by omega) (by omega); rw [e9] at y33; cases y33; simp only [e35] at b9; exact b9
            have hx9 : recR (cFc X Y) (cLa X Y) (cVl X Y) (cRid Y) x r.toNat 1 r = r34 := by have h8 := (hTa.2.1 r (by omega) (by omega)).1; rw [y33] at h8; exact (Option.some.inj h8).symm
            refine lv_iload_n hx hb dX8_recordFrom_44 rfl (lv_at hl 3 rfl) ?_
            refine lv_aload_n hx hb dX8_recordFrom_45 rfl (lv_at hl 2 rfl) ?_
            have q36 : Frm [701, 707, 800, 900, 1000, 1100, 1200, 1300, 1400, 1504, 2602] X X4 := Frm.tr Frm.rf (Frm.mono hG5 (by first | exact nls_of rfl | decide))
            have q37 : Frm [701, 707, 800, 900, 1000, 1100, 1200, 1300, 1400, 1504, 2602] X X6 := by rw [hX6]; exact Frm.set q36 (show 701 ∈ [701, 707, 800, 900, 1000, 1100, 1200, 1300, 1400, 1504, 2602] by first | exact nlm_in rfl | decide)
            have q38 : Frm [701, 707, 800, 900, 1000, 1100, 1200, 1300, 1400, 1504, 2602] X X7 := by rw [hX7]; exact Frm.set q37 (show 707 ∈ [701, 707, 800, 900, 1000, 1100, 1200, 1300, 1400, 1504, 2602] by first | exact nlm_in rfl | decide)
            have q39 : Frm [701, 707, 800, 900, 1000, 1100, 1200, 1300, 1400, 1504, 2602] X X14 := Frm.tr q38 (Frm.mono hG16 (by first | exact nls_of rfl | decide))
            have q40 : Frm [701, 707, 800, 900, 1000, 1100, 1200, 1300, 1400, 1504, 2602] X Xa := Frm.tr q39 (Frm.mono hGXa (by first | exact nls_of rfl | decide))
            have q41 : Frm [500] Y Y15 := Frm.tr Frm.rf (Frm.mono hJ17 (by first | exact nls_of rfl | decide))
            have q42 : Frm [500] Y Ya := Frm.tr q41 (Frm.mono hGYa (by first | exact nls_of rfl | decide))
            have hre43 : cLa Xa Ya = cLa X Y ∧ cVl Xa Ya = cVl X Y ∧ cRid Ya = cRid Y ∧ cFc Xa Ya = cFc X Y := ⟨cLa.frm (M := [701, 707, 800, 900, 1000, 1100, 1200, 1300, 1400, 1504, 2602]) (N := [500]) q40 q42 (by decide) (by decide), cVl.frm (M := [701, 707, 800, 900, 1000, 1100, 1200, 1300, 1400, 1504, 2602]) (N := [500]) q40 q42 (by decide) (by decide), cRid.frm (N := [500]) q42 (by decide), cFc.frm (M := [701, 707, 800, 900, 1000, 1100, 1200, 1300, 1400, 1504, 2602]) (N := [500]) q40 q42 (by decide) (by decide)⟩
            refine gos_v (run_V (As := [.ref (ad 15 r34), .int (jI r), .ref (ad 7 g)]) (rest := []) hx hb hml hown hts (c_X8_recordFields l D tc base ad cnt Xa Ya ln hRXa hFx hLn hCIXa r34 r g (by omega) (by simp only [e35]; omega) (by omega) (by omega) hOa (by omega) hRa (recR (cFc X Y) (cLa X Y) (cVl X Y) (cRid Y) x r.toNat) hTa hRr9 hVa hx9 (by omega)) (cwV 3 hts gX8_recordFrom_X8_recordFields rfl rfl rfl (by first | exact hd_X8_recordFields | decide +kernel) ⟨Nat.le_of_ble_eq_true rfl, Nat.le_of_ble_eq_true rfl⟩) hK hw (by first | exact Int.le_refl 0 | omega) (by first | exact zlt hc0 | omega) sl_0_0 rfl rfl hl.1 rfl (Nat.le_of_ble_eq_true rfl) dX8_recordFrom_46 ⟨Nat.le_of_ble_eq_true rfl, Nat.le_of_ble_eq_true rfl⟩) hS (fun u46 H locs p47 hw hS => ?_)
            obtain ⟨X48, Y49, eu46, hRX48, hG50, hJ51, hCIX48, p47, hOX48, hleX48, hnrX48, hRvX48, hTfX48, hRfX48, hVfX48, hgkX48⟩ := p47
            subst eu46
            have hFX48 : Frm [701, 707, 800, 900, 1000, 1100, 1200, 1300, 1400, 1504, 2602] X X48 := Frm.tr hFXa (Frm.mono hG50 (by first | exact nls_of rfl | decide))
            have hHY49 : Frm [500] Y Y49 := Frm.tr hHYa (Frm.mono hJ51 (by first | exact nls_of rfl | decide))
            rw [hre43.1, hre43.2.1, hre43.2.2.1, hre43.2.2.2] at hTfX48 hRfX48 hVfX48
            refine lv_iinc (v := jI (r + 1)) (lv' := [(3, .int (jI (r + 1))), (0, .ref (ad 0 0)), (1, .ref (ad 15 x)), (2, .ref (ad 7 g))]) hx hb dX8_recordFrom_49 hl (k := 3) rfl (jI_add _ _) (by decide) rfl (fun ls hl => ?_)
            refine lv_goto (tgt := 23) hx hb dX8_recordFrom_52 (by decide) ?_
            have q52 : Frm [701, 707, 800, 900, 1000, 1100, 1200, 1300, 1400, 1504, 2602] X14 Xa := Frm.tr Frm.rf (Frm.mono hGXa (by first | exact nls_of rfl | decide))
            have q53 : Frm [701, 707, 800, 900, 1000, 1100, 1200, 1300, 1400, 1504, 2602] X14 X48 := Frm.tr q52 (Frm.mono hG50 (by first | exact nls_of rfl | decide))
            have q54 : Frm [500] Y15 Ya := Frm.tr Frm.rf (Frm.mono hGYa (by first | exact nls_of rfl | decide))
            have q55 : Frm [500] Y15 Y49 := Frm.tr q54 (Frm.mono hJ51 (by first | exact nls_of rfl | decide))
            have q56 : gK g X14 Xa := gK.tr gK.rf hgkXa
            have q57 : gK g X14 X48 := gK.tr q56 hgkX48
            exact ih23 (r + 1) X48 Y49 _ _ _ (by omega) hRX48 q53 q55 (by omega) (hCIX48) (hOX48) ((by omega)) (hRvX48) ((by rw [recR_next (by omega) (by omega) (by rw [hx9])]; exact hTfX48)) ((by rw [recR_next (by omega) (by omega) (by rw [hx9])]; exact hRfX48)) ((by rw [recR_next (by omega) (by omega) (by rw [hx9])]; exact hVfX48)) (q57) hw hS (lv_sub hl [1, 2, 3, 0] rfl)
  have e58 : X14 7 g 6 = X7 7 g 6 := by rw [hG16 7 g 6 (show 707 ∉ [1504, 701, 800, 900] by first | exact nlm_ni rfl | decide)]
  have q59 : Frm [701, 707, 800, 900, 1504, 2602] X X4 := Frm.tr Frm.rf (Frm.mono hG5 (by first | exact nls_of rfl | decide))
  have q60 : Frm [701, 707, 800, 900, 1504, 2602] X X6 := by rw [hX6]; exact Frm.set q59 (show 701 ∈ [701, 707, 800, 900, 1504, 2602] by first | exact nlm_in rfl | decide)
  have q61 : Frm [701, 707, 800, 900, 1504, 2602] X X7 := by rw [hX7]; exact Frm.set q60 (show 707 ∈ [701, 707, 800, 900, 1504, 2602] by first | exact nlm_in rfl | decide)
  have q62 : Frm [701, 707, 800, 900, 1504, 2602] X X14 := Frm.tr q61 (Frm.mono hG16 (by first | exact nls_of rfl | decide))
  have q68 : Frm [500] Y Y15 := Frm.tr Frm.rf (Frm.mono hJ17 (by first | exact nls_of rfl | decide))
  have hff63 : cFc X14 Y15 = cFc X Y := cFc.frm (M := [701, 707, 800, 900, 1504, 2602]) (N := [500]) q62 q68 (by decide) (by decide)
  exact lp23 (30 - 0 : Int).toNat.succ 0 X14 Y15 _ _ _ (by omega) hRX14 Frm.rf Frm.rf (by omega) (hCIX14) (hOX14) ((by simp only [e58]; omega)) (hRv.frm q62 (by decide)) (rcT.init hTrX14) (rcR.init (by rw [hG16 7 g 6 (show 707 ∉ [1504, 701, 800, 900] by first | exact nlm_ni rfl | decide)]; exact hVX7) (fun y k w9 a b c d e9 => (by rw [hG16 26 w9 1 (show 2602 ∉ [1504, 701, 800, 900] by first | exact nlm_ni rfl | decide), hX7, u3_k _ _ _ _ (by first | exact Nat.ne_of_beq_eq_false rfl | decide), hX6, u3_k _ _ _ _ (by first | exact Nat.ne_of_beq_eq_false rfl | decide)]; exact hfwX4 y k w9 a (by rw [← (show X14 0 0 3 = X 0 0 3 from (by rw [hG16 0 0 3 (show 4 ∉ [1504, 701, 800, 900] by first | exact nlm_ni rfl | decide), hX7, u3_k _ _ _ _ (by first | exact Nat.ne_of_beq_eq_false rfl | decide), hX6, u3_k _ _ _ _ (by first | exact Nat.ne_of_beq_eq_false rfl | decide), hG5 0 0 3 (show 4 ∉ [1504, 2602] by first | exact nlm_ni rfl | decide)]))]; exact b) c (by rw [← hff63]; exact d) (by rw [← (show Y15 17 y k = Y 17 y k from (by rw [hJ17 17 y k (show 1700 ∉ [500] by first | exact nlm_ni rfl | decide)]))]; exact e9)))) (⟨fun r' k' a b => by omega, fun k' a b => by omega⟩) (gK.rf) hw hS (lv_sub hl [1, 2, 3, 0] rfl)
end
section
set_option maxHeartbeats 4000000 in
set_option maxRecDepth 100000 in
theorem c_X8_firstShutSlot (l : Launch) (D : va_G) (tc : Nat → ClassId) (base : Nat) (ad : Nat → Int → Nat) (cnt : Nat → Int) (X : Nat → Int → Int → Int) (Y : Nat → Int → Int → Option Int) (ln : Int → Int) (hR : Rng X) (hFx : Fx cnt) (hLn : LnOK ln) (hCI : CInv cnt X Y ln) (g : Int) (hg : 0 ≤ g ∧ g < 6) (hO : rcOK X Y g) : KI l D tc base yX8_firstShutSlot wsX8_firstShutSlot ({ frames := 0, cells := 0, slots := 0, locals := 0 } : Room) [.ref (ad 0 0), .ref (ad 7 g)] (ad, cnt, X, Y, ln) 0 0 (fun z u => u = (ad, cnt, X, Y, ln) ∧ (-1 ≤ z ∧ z ≤ 149) ∧ ((z = -1 ∧ ∀ r x k, 0 ≤ r → r < X 7 g 0 → Y 5 0 r = some x → 0 ≤ k → k < cFc X Y x → X 23 (tyo (Y 15 x 0)) k = 0) ∨ (0 ≤ z ∧ ∃ r x k, 0 ≤ r ∧ r < X 7 g 0 ∧ Y 5 0 r = some x ∧ 0 ≤ k ∧ k < cFc X Y x ∧ X 23 (tyo (Y 15 x 0)) k ≠ 0))) := by
  refine K_of (cc := cX8_firstShutSlot) (maxL := 5) (ret := (some .int)) (by decide) rfl (Nat.le_of_ble_eq_true rfl) ?_
  intro p e s m below meth c ls hx hb hr hml hown hts hlocks hl hK hw hS
  have hown : s.vm.findClass RX8 = some m.cls := hown
  obtain ⟨av9, hav9⟩ : ∃ a9 : Array Value, a9 = ([.ref (ad 0 0), .ref (ad 7 g)] : List Value).toArray := ⟨_, rfl⟩
  rw [← hav9] at hts ⊢
  obtain ⟨Q9, hQ9⟩ : ∃ q9Q : State → Prop, q9Q = MQ below (QI D tc base (fun z u => u = (ad, cnt, X, Y, ln) ∧ (-1 ≤ z ∧ z ≤ 149) ∧ ((z = -1 ∧ ∀ r x k, 0 ≤ r → r < X 7 g 0 → Y 5 0 r = some x → 0 ≤ k → k < cFc X Y x → X 23 (tyo (Y 15 x 0)) k = 0) ∨ (0 ≤ z ∧ ∃ r x k, 0 ≤ r ∧ r < X 7 g 0 ∧ Y 5 0 r = some x ∧ 0 ≤ k ∧ k < cFc X Y x ∧ X 23 (tyo (Y 15 x 0)) k ≠ 0)))) av9 s 0 0 (frA base) := ⟨_, rfl⟩
  rw [← hQ9]
  have hi4 : ∀ w ∈ wsX40, w ∈ wsX8_firstShutSlot := fun w h => List.mem_cons_of_mem _ (List.mem_append_left _ (List.mem_append_left _ (List.mem_append_left _ (List.mem_append_right _ h))))
  have hf4 : fctx s m _ RX8 wsX8_firstShutSlot D tc RX4 TX4 9 4 := ⟨hts, hi4, hown, hK.1, rfl⟩
  have hi6 : ∀ w ∈ wsX60, w ∈ wsX8_firstShutSlot := fun w h => List.mem_cons_of_mem _ (List.mem_append_left _ (List.mem_append_right _ h))
  have hf6 : fctx s m _ RX8 wsX8_firstShutSlot D tc RX6 TX6 4 6 := ⟨hts, hi6, hown, hK.1, rfl⟩
  have hi7 : ∀ w ∈ wsX70, w ∈ wsX8_firstShutSlot := fun w h => List.mem_cons_of_mem _ (List.mem_append_right _ h)
  have hf7 : fctx s m _ RX8 wsX8_firstShutSlot D tc RX7 TX7 8 7 := ⟨hts, hi7, hown, hK.1, rfl⟩
  have hi8 : ∀ w ∈ wsX80, w ∈ wsX8_firstShutSlot := fun w h => List.mem_cons_of_mem _ (List.mem_append_left _ (List.mem_append_left _ (List.mem_append_right _ h)))
  have hf8 : fctx s m _ RX8 wsX8_firstShutSlot D tc RX8 TX8 12 8 := ⟨hts, hi8, hown, hK.1, rfl⟩
  have lk39 := hts (.fieldLink RX8 39 (TX8 8).1 (TX8 8).2.1 (TX8 8).2.2.1) (gj_X8_firstShutSlot_0 _ (gp_1 gp_h))
  have lk85 := hts (.fieldLink RX8 85 (TX7 1).1 (TX7 1).2.1 (TX7 1).2.2.1) (gj_X8_firstShutSlot_0 _ (gp_1 (gp_1 (gp_1 gp_h))))
  have lk97 := hts (.fieldLink RX8 97 (TX6 0).1 (TX6 0).2.1 (TX6 0).2.2.1) (gj_X8_firstShutSlot_0 _ (gp_1 (gp_1 gp_h)))
  have lk112 := hts (.fieldLink RX8 112 (TX7 5).1 (TX7 5).2.1 (TX7 5).2.2.1) (gj_X8_firstShutSlot_0 _ (gp_4 gp_h))
  have lk231 := hts (.fieldLink RX8 231 (TX4 0).1 (TX4 0).2.1 (TX4 0).2.2.1) (gj_X8_firstShutSlot_0 _ (gp_h))
  have hc0 : cnt 0 = 1 := hFx.at 0 1 (by decide)
  have hc5 : cnt 5 = 1 := hFx.at 5 1 (by decide)
  have hc7 : cnt 7 = 6 := hFx.at 7 6 (by decide)
  have hc15 : cnt 15 = 30 := hFx.at 15 30 (by decide)
  have hc23 : cnt 23 = cnt 19 := hFx.2.1 23 (by decide)
  have hl : lv_has ls 5 [(0, .ref (ad 0 0)), (1, .ref (ad 7 g))] := hl
  have ftc : 0 ≤ X 0 0 3 ∧ X 0 0 3 ≤ 30 := hR 0 0 3
  have fty : 0 ≤ X 0 0 1 ∧ X 0 0 1 ≤ 8 := hR 0 0 1
  have hct : cnt 19 = X 0 0 1 := hCI.2.2.2.1.1
  have hfj : 0 ≤ X 29 0 3 ∧ X 29 0 3 ≤ 4 := hR 29 0 3
  have hfn : 0 ≤ X 29 0 1 ∧ X 29 0 1 ≤ 80 := hR 29 0 1
  refine lv_iconst (v := jI 0) hx hb dX8_firstShutSlot_0 rfl ?_
  refine lv_istore_n (lv' := [(2, .int (jI 0)), (0, .ref (ad 0 0)), (1, .ref (ad 7 g))]) hx hb dX8_firstShutSlot_1 rfl hl (by decide) rfl (fun ls hl => ?_)
  have lp2 : ∀ (nn : Nat) (r : Int) (H : Heap) (locs : List Loc) (ls : Array Slot), (30 - r) < (nn : Int) → (0 ≤ r ∧ r ≤ 30) → (∀ r9 x9 k9, 0 ≤ r9 → r9 < r → Y 5 0 r9 = some x9 → 0 ≤ k9 → k9 < cFc X Y x9 → X 23 (tyo (Y 15 x9 0)) k9 = 0) → wd D tc base (ad, cnt, X, Y, ln) H → va_S (frA base) s.heap H locs → lv_has ls 5 [(0, .ref (ad 0 0)), (1, .ref (ad 7 g)), (2, .int (jI r))] → W p l e ({ frames := 0, cells := 0, slots := 0, locals := 0 } : Room) s m av9 below meth c H locs 0 0 Q9 (F0 m 2 ls []) := by
    intro nn
    induction nn with
    | zero => intro r H locs ls hm hr0 hnr hw hS hl; exfalso; omega
    | succ nn ih2 =>
      intro r H locs ls hm hr0 hnr hw hS hl
      refine lv_iload_n hx hb dX8_firstShutSlot_2 rfl (lv_at hl 2 rfl) ?_
      refine lv_aload_n hx hb dX8_firstShutSlot_3 rfl (lv_at hl 1 rfl) ?_
      refine x_geti (jz := 0) hx hb hf4 hw (by omega) (by omega) sl_7_0 rfl lk231 dX8_firstShutSlot_4 ?_
      have f1 : 0 ≤ X 7 g 0 ∧ X 7 g 0 ≤ 30 := hR 7 g 0
      refine x_icmp_ge (tgt := 61) hx hb (by omega) (by omega) dX8_firstShutSlot_7 (by decide) (fun c2 => ?_) (fun c2 => ?_)
      · refine lv_iconst (v := jI (-1)) hx hb dX8_firstShutSlot_61 rfl ?_
        rw [hQ9]
        refine ret_i (mc := 0) (ms := 0) hx hb hr hlocks hw hS (by first | exact Nat.le_of_ble_eq_true rfl | omega) (by first | exact Nat.le_of_ble_eq_true rfl | omega) dX8_firstShutSlot_62 ?_
        exact ⟨rfl, by omega, Or.inl ⟨rfl, fun r9 x9 k9 a b c d e9 => hnr r9 x9 k9 a (by omega) c d e9⟩⟩
      · refine lv_aload_n hx hb dX8_firstShutSlot_10 rfl (lv_at hl 0 rfl) ?_
        refine x_geto hx hb hf8 hw (by first | exact Int.le_refl 0 | omega) (by first | exact zlt hc0 | omega) sl_0_8 lk39 dX8_firstShutSlot_11 ?_
        refine lv_iload_n hx hb dX8_firstShutSlot_14 rfl (lv_at hl 2 rfl) ?_
        refine x_aald hx hb hK.1 hw (by first | exact Int.le_refl 0 | omega) (by first | exact zlt hc5 | omega) ar_5 rfl (len_E ar_5 (by first | exact Nat.ne_of_beq_eq_false rfl | decide)) (by omega) (by omega) (by omega) dX8_firstShutSlot_15 (fun y3 => ?_) (fun r4 y3 gr4 lr4 => ?_)
        · exfalso
          obtain ⟨x9, e9, -⟩ := hO.1 r (by omega) (by omega); rw [e9] at y3; cases y3
        · have hb8 : r4 < X 0 0 3 := by obtain ⟨x9, e9, a9, b9, -⟩ := hO.1 r (by omega) (by omega); rw [e9] at y3; cases y3; exact b9
          refine x_getr (jz := 0) hx hb hf6 hw (by omega) (by omega) sl_15_0 rfl lk97 dX8_firstShutSlot_16 (fun y5 => ?_) (fun r6 y5 gr6 lr6 => ?_)
          · exfalso
            exact absurd y5 (hCI.2.2.2.2.1 r4 (by omega) (by omega))
          · refine lv_astore_n (lv' := [(3, .ref (ad 19 r6)), (0, .ref (ad 0 0)), (1, .ref (ad 7 g)), (2, .int (jI r))]) hx hb dX8_firstShutSlot_19 rfl hl (by decide) rfl (fun ls hl => ?_)
            refine lv_iconst (v := jI 0) hx hb dX8_firstShutSlot_20 rfl ?_
            refine lv_istore (lv' := [(4, .int (jI 0)), (3, .ref (ad 19 r6)), (0, .ref (ad 0 0)), (1, .ref (ad 7 g)), (2, .int (jI r))]) hx hb dX8_firstShutSlot_21 hl (by decide) rfl (fun ls hl => ?_)
            have lp23 : ∀ (nn : Nat) (k : Int) (H : Heap) (locs : List Loc) (ls : Array Slot), (5 - k) < (nn : Int) → (0 ≤ k ∧ k ≤ 5) → (∀ k9, 0 ≤ k9 → k9 < k → X 23 r6 k9 = 0) → wd D tc base (ad, cnt, X, Y, ln) H → va_S (frA base) s.heap H locs → lv_has ls 5 [(0, .ref (ad 0 0)), (1, .ref (ad 7 g)), (2, .int (jI r)), (3, .ref (ad 19 r6)), (4, .int (jI k))] → W p l e ({ frames := 0, cells := 0, slots := 0, locals := 0 } : Room) s m av9 below meth c H locs 0 0 Q9 (F0 m 23 ls []) := by
              intro nn
              induction nn with
              | zero => intro k H locs ls hm hk hnk hw hS hl; exfalso; omega
              | succ nn ih23 =>
                intro k H locs ls hm hk hnk hw hS hl
                refine lv_iload hx hb dX8_firstShutSlot_23 (lv_at hl 4 rfl) ?_
                refine lv_aload_n hx hb dX8_firstShutSlot_25 rfl (lv_at hl 3 rfl) ?_
                refine x_geti (jz := 1) hx hb hf7 hw (by omega) (by omega) sl_19_1 rfl lk85 dX8_firstShutSlot_26 ?_
                have f7 : 0 ≤ X 19 r6 1 ∧ X 19 r6 1 ≤ 5 := hR 19 r6 1
                refine x_icmp_ge (tgt := 55) hx hb (by omega) (by omega) dX8_firstShutSlot_29 (by decide) (fun c8 => ?_) (fun c8 => ?_)
                · refine lv_iinc (v := jI (r + 1)) (lv' := [(2, .int (jI (r + 1))), (0, .ref (ad 0 0)), (1, .ref (ad 7 g)), (3, .ref (ad 19 r6)), (4, .int (jI k))]) hx hb dX8_firstShutSlot_55 hl (k := 2) rfl (jI_add _ _) (by decide) rfl (fun ls hl => ?_)
                  refine lv_goto (tgt := 2) hx hb dX8_firstShutSlot_58 (by decide) ?_
                  exact ih2 (r + 1) _ _ _ (by omega) (by omega) (fun r9 x9 k9 a b c d e9 => if hr9 : r9 = r then (by rw [hr9, y3] at c; cases c; unfold cFc at e9; rw [tyo_some y5] at e9 ⊢; exact hnk k9 d (by omega)) else hnr r9 x9 k9 a (by omega) c d e9) hw hS (lv_sub hl [1, 2, 0] rfl)
                · refine lv_aload_n hx hb dX8_firstShutSlot_32 rfl (lv_at hl 3 rfl) ?_
                  refine x_geto hx hb hf7 hw (by omega) (by omega) sl_19_5 lk112 dX8_firstShutSlot_33 ?_
                  refine lv_iload hx hb dX8_firstShutSlot_36 (lv_at hl 4 rfl) ?_
                  refine x_zald hx hb hK.1 hw (by omega) (by omega) ar_23 (len_E ar_23 (by first | exact Nat.ne_of_beq_eq_false rfl | decide)) (by omega) (by omega) (by omega) dX8_firstShutSlot_38 ?_
                  have f9 : 0 ≤ X 23 r6 k ∧ X 23 r6 k ≤ 1 := hR 23 r6 k
                  refine x_if_eq (tgt := 49) hx hb (by omega) dX8_firstShutSlot_39 (by decide) (fun c10 => ?_) (fun c10 => ?_)
                  · refine lv_iinc (v := jI (k + 1)) (lv' := [(4, .int (jI (k + 1))), (0, .ref (ad 0 0)), (1, .ref (ad 7 g)), (2, .int (jI r)), (3, .ref (ad 19 r6))]) hx hb dX8_firstShutSlot_49 hl (k := 4) rfl (jI_add _ _) (by decide) rfl (fun ls hl => ?_)
                    refine lv_goto (tgt := 23) hx hb dX8_firstShutSlot_52 (by decide) ?_
                    exact ih23 (k + 1) _ _ _ (by omega) (by omega) (fun k9 a b => if hk9 : k9 = k then (by rw [hk9]; omega) else hnk k9 a (by omega)) hw hS (lv_sub hl [1, 2, 3, 4, 0] rfl)
                  · refine lv_iload_n hx hb dX8_firstShutSlot_42 rfl (lv_at hl 2 rfl) ?_
                    refine lv_iconst (v := jI 5) hx hb dX8_firstShutSlot_43 rfl ?_
                    refine x_imul hx hb dX8_firstShutSlot_44 ?_
                    refine lv_iload hx hb dX8_firstShutSlot_45 (lv_at hl 4 rfl) ?_
                    refine x_iadd hx hb dX8_firstShutSlot_47 ?_
                    rw [hQ9]
                    refine ret_i (mc := 0) (ms := 0) hx hb hr hlocks hw hS (by first | exact Nat.le_of_ble_eq_true rfl | omega) (by first | exact Nat.le_of_ble_eq_true rfl | omega) dX8_firstShutSlot_48 ?_
                    exact ⟨rfl, by omega, Or.inr ⟨by omega, r, r4, k, by omega, by omega, y3, by omega, (by unfold cFc; rw [tyo_some y5]; omega), (by rw [tyo_some y5]; omega)⟩⟩
            exact lp23 (5 - 0 : Int).toNat.succ 0 _ _ _ (by omega) (by omega) (fun k9 a b => by omega) hw hS (lv_sub hl [2, 3, 4, 1, 0] rfl)
  exact lp2 (30 - 0 : Int).toNat.succ 0 _ _ _ (by omega) (by omega) (fun r9 x9 k9 a b => by omega) hw hS (lv_sub hl [1, 2, 0] rfl)

set_option maxHeartbeats 4000000 in
set_option maxRecDepth 100000 in
theorem c_X4_hasItemsOf (l : Launch) (D : va_G) (tc : Nat → ClassId) (base : Nat) (ad : Nat → Int → Nat) (cnt : Nat → Int) (X : Nat → Int → Int → Int) (Y : Nat → Int → Int → Option Int) (ln : Int → Int) (hR : Rng X) (hFx : Fx cnt) (hLn : LnOK ln) (g o i : Int) (hg : 0 ≤ g ∧ g < 6) (ho : 0 ≤ o ∧ o < 6) (hi0 : 0 ≤ i ∧ i ≤ 149) : KI l D tc base yX4_hasItemsOf wsX4_hasItemsOf ({ frames := 0, cells := 0, slots := 0, locals := 0 } : Room) [.ref (ad 7 g), .ref (ad 7 o), .int (jI i)] (ad, cnt, X, Y, ln) 0 0 (fun z u => u = (ad, cnt, X, Y, ln) ∧ (0 ≤ z ∧ z ≤ 1) ∧ ((z = 1 ∧ itE X g o i) ∨ (z = 0 ∧ ¬ itE X g o i))) := by
  refine K_of (cc := cX4_hasItemsOf) (maxL := 4) (ret := (some .boolean)) (by decide) rfl (Nat.le_of_ble_eq_true rfl) ?_
  intro p e s m below meth c ls hx hb hr hml hown hts hlocks hl hK hw hS
  have hown : s.vm.findClass RX4 = some m.cls := hown
  obtain ⟨av9, hav9⟩ : ∃ a9 : Array Value, a9 = ([.ref (ad 7 g), .ref (ad 7 o), .int (jI i)] : List Value).toArray := ⟨_, rfl⟩
  rw [← hav9] at hts ⊢
  obtain ⟨Q9, hQ9⟩ : ∃ q9Q : State → Prop, q9Q = MQ below (QI D tc base (fun z u => u = (ad, cnt, X, Y, ln) ∧ (0 ≤ z ∧ z ≤ 1) ∧ ((z = 1 ∧ itE X g o i) ∨ (z = 0 ∧ ¬ itE X g o i)))) av9 s 0 0 (frA base) := ⟨_, rfl⟩
  rw [← hQ9]
  have hi4 : ∀ w ∈ wsX40, w ∈ wsX4_hasItemsOf := fun w h => List.mem_cons_of_mem _ (List.mem_append_right _ h)
  have hf4 : fctx s m _ RX4 wsX4_hasItemsOf D tc RX4 TX4 9 4 := ⟨hts, hi4, hown, hK.1, rfl⟩
  have lk28 := hts (.fieldLink RX4 28 (TX4 7).1 (TX4 7).2.1 (TX4 7).2.2.1) (gj_X4_hasItemsOf_0 _ (gp_h))
  have lk31 := hts (.fieldLink RX4 31 (TX4 8).1 (TX4 8).2.1 (TX4 8).2.2.1) (gj_X4_hasItemsOf_0 _ (gp_1 gp_h))
  have hc7 : cnt 7 = 6 := hFx.at 7 6 (by decide)
  have hc13 : cnt 13 = 6 := hFx.at 13 6 (by decide)
  have hc14 : cnt 14 = 6 := hFx.at 14 6 (by decide)
  have hl : lv_has ls 4 [(0, .ref (ad 7 g)), (1, .ref (ad 7 o)), (2, .int (jI i))] := hl
  refine lv_aload_n hx hb dX4_hasItemsOf_0 rfl (lv_at hl 0 rfl) ?_
  refine x_geto hx hb hf4 hw (by omega) (by omega) sl_7_7 lk28 dX4_hasItemsOf_1 ?_
  refine lv_iload_n hx hb dX4_hasItemsOf_4 rfl (lv_at hl 2 rfl) ?_
  refine x_iald hx hb hK.1 hw (by omega) (by omega) ar_13 (len_E ar_13 (by first | exact Nat.ne_of_beq_eq_false rfl | decide)) (by omega) (by omega) (by omega) dX4_hasItemsOf_5 ?_
  have f1 : 0 ≤ X 13 g i ∧ X 13 g i ≤ 12 := hR 13 g i
  refine lv_aload_n hx hb dX4_hasItemsOf_6 rfl (lv_at hl 1 rfl) ?_
  refine x_geto hx hb hf4 hw (by omega) (by omega) sl_7_7 lk28 dX4_hasItemsOf_7 ?_
  refine lv_iload_n hx hb dX4_hasItemsOf_10 rfl (lv_at hl 2 rfl) ?_
  refine x_iald hx hb hK.1 hw (by omega) (by omega) ar_13 (len_E ar_13 (by first | exact Nat.ne_of_beq_eq_false rfl | decide)) (by omega) (by omega) (by omega) dX4_hasItemsOf_11 ?_
  have f2 : 0 ≤ X 13 o i ∧ X 13 o i ≤ 12 := hR 13 o i
  refine x_icmp_eq (tgt := 17) hx hb (by omega) (by omega) dX4_hasItemsOf_12 (by decide) (fun c3 => ?_) (fun c3 => ?_)
  · refine lv_iconst (v := jI 0) hx hb dX4_hasItemsOf_17 rfl ?_
    refine lv_istore_n (lv' := [(3, .int (jI 0)), (0, .ref (ad 7 g)), (1, .ref (ad 7 o)), (2, .int (jI i))]) hx hb dX4_hasItemsOf_18 rfl hl (by decide) rfl (fun ls hl => ?_)
    have lp19 : ∀ (nn : Nat) (k : Int) (H : Heap) (locs : List Loc) (ls : Array Slot), (12 - k) < (nn : Int) → (0 ≤ k ∧ k ≤ 12) → (∀ j, 0 ≤ j → j < k → X 14 g (12 * i + j) = X 14 o (12 * i + j)) → wd D tc base (ad, cnt, X, Y, ln) H → va_S (frA base) s.heap H locs → lv_has ls 4 [(0, .ref (ad 7 g)), (1, .ref (ad 7 o)), (2, .int (jI i)), (3, .int (jI k))] → W p l e ({ frames := 0, cells := 0, slots := 0, locals := 0 } : Room) s m av9 below meth c H locs 0 0 Q9 (F0 m 19 ls []) := by
      intro nn
      induction nn with
      | zero => intro k H locs ls hm hk hit hw hS hl; exfalso; omega
      | succ nn ih19 =>
        intro k H locs ls hm hk hit hw hS hl
        refine lv_iload_n hx hb dX4_hasItemsOf_19 rfl (lv_at hl 3 rfl) ?_
        refine lv_aload_n hx hb dX4_hasItemsOf_20 rfl (lv_at hl 0 rfl) ?_
        refine x_geto hx hb hf4 hw (by omega) (by omega) sl_7_7 lk28 dX4_hasItemsOf_21 ?_
        refine lv_iload_n hx hb dX4_hasItemsOf_24 rfl (lv_at hl 2 rfl) ?_
        refine x_iald hx hb hK.1 hw (by omega) (by omega) ar_13 (len_E ar_13 (by first | exact Nat.ne_of_beq_eq_false rfl | decide)) (by omega) (by omega) (by omega) dX4_hasItemsOf_25 ?_
        have f4 : 0 ≤ X 13 g i ∧ X 13 g i ≤ 12 := hR 13 g i
        refine x_icmp_ge (tgt := 63) hx hb (by omega) (by omega) dX4_hasItemsOf_26 (by decide) (fun c5 => ?_) (fun c5 => ?_)
        · refine lv_iconst (v := jI 1) hx hb dX4_hasItemsOf_63 rfl ?_
          rw [hQ9]
          refine ret_z (mc := 0) (ms := 0) hx hb hr hlocks hw hS (by first | exact Nat.le_of_ble_eq_true rfl | omega) (by first | exact Nat.le_of_ble_eq_true rfl | omega) dX4_hasItemsOf_64 (by omega) ?_
          exact ⟨rfl, by omega, Or.inl ⟨rfl, by omega, fun k9 a b => hit k9 a (by omega)⟩⟩
        · refine lv_aload_n hx hb dX4_hasItemsOf_29 rfl (lv_at hl 0 rfl) ?_
          refine x_geto hx hb hf4 hw (by omega) (by omega) sl_7_8 lk31 dX4_hasItemsOf_30 ?_
          refine lv_iload_n hx hb dX4_hasItemsOf_33 rfl (lv_at hl 2 rfl) ?_
          refine lv_bipush (v := jI 12) hx hb dX4_hasItemsOf_34 (by decide) ?_
          refine x_imul hx hb dX4_hasItemsOf_36 ?_
          refine lv_iload_n hx hb dX4_hasItemsOf_37 rfl (lv_at hl 3 rfl) ?_
          refine x_iadd hx hb dX4_hasItemsOf_38 ?_
          refine x_lald hx hb hK.1 hw (by omega) (by omega) ar_14 (len_E ar_14 (by first | exact Nat.ne_of_beq_eq_false rfl | decide)) (by omega) (by omega) (by omega) dX4_hasItemsOf_39 ?_
          have f6 : (-9223372036854775808) ≤ X 14 g ((i * 12) + k) ∧ X 14 g ((i * 12) + k) ≤ 9223372036854775807 := hR 14 g ((i * 12) + k)
          refine lv_aload_n hx hb dX4_hasItemsOf_40 rfl (lv_at hl 1 rfl) ?_
          refine x_geto hx hb hf4 hw (by omega) (by omega) sl_7_8 lk31 dX4_hasItemsOf_41 ?_
          refine lv_iload_n hx hb dX4_hasItemsOf_44 rfl (lv_at hl 2 rfl) ?_
          refine lv_bipush (v := jI 12) hx hb dX4_hasItemsOf_45 (by decide) ?_
          refine x_imul hx hb dX4_hasItemsOf_47 ?_
          refine lv_iload_n hx hb dX4_hasItemsOf_48 rfl (lv_at hl 3 rfl) ?_
          refine x_iadd hx hb dX4_hasItemsOf_49 ?_
          refine x_lald hx hb hK.1 hw (by omega) (by omega) ar_14 (len_E ar_14 (by first | exact Nat.ne_of_beq_eq_false rfl | decide)) (by omega) (by omega) (by omega) dX4_hasItemsOf_50 ?_
          have f7 : (-9223372036854775808) ≤ X 14 o ((i * 12) + k) ∧ X 14 o ((i * 12) + k) ≤ 9223372036854775807 := hR 14 o ((i * 12) + k)
          refine x_lcmp hx hb (by omega) (by omega) dX4_hasItemsOf_51 ?_
          obtain ⟨z8, ez8⟩ : ∃ y : Int, y = cmpZ (X 14 g ((i * 12) + k)) (X 14 o ((i * 12) + k)) := ⟨_, rfl⟩
          rw [← ez8]
          have gz8 : (z8 < 0 ↔ ((X 14 g ((i * 12) + k)) : Int) < (X 14 o ((i * 12) + k))) ∧ (z8 = 0 ↔ ((X 14 g ((i * 12) + k)) : Int) = (X 14 o ((i * 12) + k))) ∧ -1 ≤ z8 ∧ z8 ≤ 1 := by rw [ez8]; exact ⟨cmpZ_lt, cmpZ_eq, (cmpZ_r _ _).1, (cmpZ_r _ _).2⟩
          clear ez8
          refine x_if_eq (tgt := 57) hx hb (by omega) dX4_hasItemsOf_52 (by decide) (fun c9 => ?_) (fun c9 => ?_)
          · replace c9 := cz_eqT gz8 c9
            clear gz8
            refine lv_iinc (v := jI (k + 1)) (lv' := [(3, .int (jI (k + 1))), (0, .ref (ad 7 g)), (1, .ref (ad 7 o)), (2, .int (jI i))]) hx hb dX4_hasItemsOf_57 hl (k := 3) rfl (jI_add _ _) (by decide) rfl (fun ls hl => ?_)
            refine lv_goto (tgt := 19) hx hb dX4_hasItemsOf_60 (by decide) ?_
            exact ih19 (k + 1) _ _ _ (by omega) (by omega) (fun j a b => if hj : j = k then (by rw [hj, show 12 * i + k = i * 12 + k by omega]; omega) else hit j a (by omega)) hw hS (lv_sub hl [1, 2, 3, 0] rfl)
          · replace c9 := cz_eqF gz8 c9
            clear gz8
            refine lv_iconst (v := jI 0) hx hb dX4_hasItemsOf_55 rfl ?_
            rw [hQ9]
            refine ret_z (mc := 0) (ms := 0) hx hb hr hlocks hw hS (by first | exact Nat.le_of_ble_eq_true rfl | omega) (by first | exact Nat.le_of_ble_eq_true rfl | omega) dX4_hasItemsOf_56 (by omega) ?_
            exact ⟨rfl, by omega, Or.inr ⟨rfl, fun q => (by have h9 := q.2 k (by omega) (by omega); rw [show 12 * i + k = i * 12 + k by omega] at h9; omega)⟩⟩
    exact lp19 (12 - 0 : Int).toNat.succ 0 _ _ _ (by omega) (by omega) (fun j a b => by omega) hw hS (lv_sub hl [1, 2, 3, 0] rfl)
  · refine lv_iconst (v := jI 0) hx hb dX4_hasItemsOf_15 rfl ?_
    rw [hQ9]
    refine ret_z (mc := 0) (ms := 0) hx hb hr hlocks hw hS (by first | exact Nat.le_of_ble_eq_true rfl | omega) (by first | exact Nat.le_of_ble_eq_true rfl | omega) dX4_hasItemsOf_16 (by omega) ?_
    exact ⟨rfl, by omega, Or.inr ⟨rfl, fun q => (by have q1 := q.1; omega)⟩⟩

set_option maxHeartbeats 4000000 in
set_option maxRecDepth 100000 in
theorem c_X4_hasValueOf (l : Launch) (D : va_G) (tc : Nat → ClassId) (base : Nat) (ad : Nat → Int → Nat) (cnt : Nat → Int) (X : Nat → Int → Int → Int) (Y : Nat → Int → Int → Option Int) (ln : Int → Int) (hR : Rng X) (hFx : Fx cnt) (hLn : LnOK ln) (g o i : Int) (hg : 0 ≤ g ∧ g < 6) (ho : 0 ≤ o ∧ o < 6) (hi0 : 0 ≤ i ∧ i ≤ 149) (hv : 3 ≤ X 11 g i → -1 ≤ X 12 g i ∧ X 12 g i ≤ 149) : KI l D tc base yX4_hasValueOf wsX4_hasValueOf ({ frames := 1, cells := 0, slots := 0, locals := 23 } : Room) [.ref (ad 7 g), .ref (ad 7 o), .int (jI i)] (ad, cnt, X, Y, ln) 0 0 (fun z u => u = (ad, cnt, X, Y, ln) ∧ (0 ≤ z ∧ z ≤ 1) ∧ ((z = 1 ∧ vqC X g o i) ∨ (z = 0 ∧ ¬ vqC X g o i))) := by
  refine K_of (cc := cX4_hasValueOf) (maxL := 5) (ret := (some .boolean)) (by decide) rfl (Nat.le_of_ble_eq_true rfl) ?_
  intro p e s m below meth c ls hx hb hr hml hown hts hlocks hl hK hw hS
  have hown : s.vm.findClass RX4 = some m.cls := hown
  obtain ⟨av9, hav9⟩ : ∃ a9 : Array Value, a9 = ([.ref (ad 7 g), .ref (ad 7 o), .int (jI i)] : List Value).toArray := ⟨_, rfl⟩
  rw [← hav9] at hts ⊢
  obtain ⟨Q9, hQ9⟩ : ∃ q9Q : State → Prop, q9Q = MQ below (QI D tc base (fun z u => u = (ad, cnt, X, Y, ln) ∧ (0 ≤ z ∧ z ≤ 1) ∧ ((z = 1 ∧ vqC X g o i) ∨ (z = 0 ∧ ¬ vqC X g o i)))) av9 s 0 0 (frA base) := ⟨_, rfl⟩
  rw [← hQ9]
  have hi4 : ∀ w ∈ wsX40, w ∈ wsX4_hasValueOf := fun w h => List.mem_cons_of_mem _ (List.mem_append_right _ h)
  have hf4 : fctx s m _ RX4 wsX4_hasValueOf D tc RX4 TX4 9 4 := ⟨hts, hi4, hown, hK.1, rfl⟩
  have lk21 := hts (.fieldLink RX4 21 (TX4 4).1 (TX4 4).2.1 (TX4 4).2.2.1) (gj_X4_hasValueOf_0 _ (gp_1 gp_h))
  have lk24 := hts (.fieldLink RX4 24 (TX4 5).1 (TX4 5).2.1 (TX4 5).2.2.1) (gj_X4_hasValueOf_0 _ (gp_h))
  have hc7 : cnt 7 = 6 := hFx.at 7 6 (by decide)
  have hc11 : cnt 11 = 6 := hFx.at 11 6 (by decide)
  have hc12 : cnt 12 = 6 := hFx.at 12 6 (by decide)
  have hl : lv_has ls 5 [(0, .ref (ad 7 g)), (1, .ref (ad 7 o)), (2, .int (jI i))] := hl
  refine lv_aload_n hx hb dX4_hasValueOf_0 rfl (lv_at hl 0 rfl) ?_
  refine x_geto hx hb hf4 hw (by omega) (by omega) sl_7_5 lk24 dX4_hasValueOf_1 ?_
  refine lv_iload_n hx hb dX4_hasValueOf_4 rfl (lv_at hl 2 rfl) ?_
  refine x_lald hx hb hK.1 hw (by omega) (by omega) ar_12 (len_E ar_12 (by first | exact Nat.ne_of_beq_eq_false rfl | decide)) (by omega) (by omega) (by omega) dX4_hasValueOf_5 ?_
  have f1 : (-9223372036854775808) ≤ X 12 g i ∧ X 12 g i ≤ 9223372036854775807 := hR 12 g i
  refine lv_lstore_n (lv' := [(3, .long (jL (X 12 g i))), (0, .ref (ad 7 g)), (1, .ref (ad 7 o)), (2, .int (jI i))]) hx hb dX4_hasValueOf_6 rfl hl (by decide) rfl (fun ls hl => ?_)
  refine lv_lload_n hx hb dX4_hasValueOf_7 rfl (lv_at hl 0 rfl) ?_
  refine lv_aload_n hx hb dX4_hasValueOf_8 rfl (lv_at hl 2 rfl) ?_
  refine x_geto hx hb hf4 hw (by omega) (by omega) sl_7_5 lk24 dX4_hasValueOf_9 ?_
  refine lv_iload_n hx hb dX4_hasValueOf_12 rfl (lv_at hl 3 rfl) ?_
  refine x_lald hx hb hK.1 hw (by omega) (by omega) ar_12 (len_E ar_12 (by first | exact Nat.ne_of_beq_eq_false rfl | decide)) (by omega) (by omega) (by omega) dX4_hasValueOf_13 ?_
  have f2 : (-9223372036854775808) ≤ X 12 o i ∧ X 12 o i ≤ 9223372036854775807 := hR 12 o i
  refine x_lcmp hx hb (by omega) (by omega) dX4_hasValueOf_14 ?_
  obtain ⟨z3, ez3⟩ : ∃ y : Int, y = cmpZ (X 12 g i) (X 12 o i) := ⟨_, rfl⟩
  rw [← ez3]
  have gz3 : (z3 < 0 ↔ ((X 12 g i) : Int) < (X 12 o i)) ∧ (z3 = 0 ↔ ((X 12 g i) : Int) = (X 12 o i)) ∧ -1 ≤ z3 ∧ z3 ≤ 1 := by rw [ez3]; exact ⟨cmpZ_lt, cmpZ_eq, (cmpZ_r _ _).1, (cmpZ_r _ _).2⟩
  clear ez3
  refine x_if_eq (tgt := 20) hx hb (by omega) dX4_hasValueOf_15 (by decide) (fun c4 => ?_) (fun c4 => ?_)
  · replace c4 := cz_eqT gz3 c4
    clear gz3
    refine lv_aload_n hx hb dX4_hasValueOf_20 rfl (lv_at hl 1 rfl) ?_
    refine x_geto hx hb hf4 hw (by omega) (by omega) sl_7_4 lk21 dX4_hasValueOf_21 ?_
    refine lv_iload_n hx hb dX4_hasValueOf_24 rfl (lv_at hl 3 rfl) ?_
    refine x_iald hx hb hK.1 hw (by omega) (by omega) ar_11 (len_E ar_11 (by first | exact Nat.ne_of_beq_eq_false rfl | decide)) (by omega) (by omega) (by omega) dX4_hasValueOf_25 ?_
    have f5 : 0 ≤ X 11 g i ∧ X 11 g i ≤ 5 := hR 11 g i
    refine gos_i (run_SN (As := [.int (jI (X 11 g i))]) (rest := []) (host := RX8) hx hb hml hown hts (c_X8_isRowLane l D tc base ad cnt X Y ln (X 11 g i) (by omega)) ⟨va_cnB 1 hts gX4_hasValueOf_X8_isRowLane_n50 rfl rfl rfl hK.2.2.2.1 (hts (.initialized RX8) (by first | exact gj_X4_hasValueOf_0 _ (gp_4 gp_h) | decide +kernel)) (by decide +kernel) ⟨Nat.le_of_ble_eq_true rfl, Nat.le_of_ble_eq_true rfl⟩, hts (.static yX8_isRowLane) (by first | exact gj_X4_hasValueOf_0 _ (gp_1 (gp_1 (gp_1 gp_h))) | decide +kernel), trivial⟩ hK hw rfl hl.1 rfl (Nat.le_of_ble_eq_true rfl) dX4_hasValueOf_26 ⟨Nat.le_of_ble_eq_true rfl, Nat.le_of_ble_eq_true rfl⟩) hS (fun z6 u7 H locs p8 hw hS => ?_)
    obtain ⟨eu7, p8⟩ := p8
    subst eu7
    rcases p8 with ⟨ez6, p8⟩ | ⟨ez6, p8⟩
    · subst ez6
      refine x_if_eqF (tgt := 50) hx hb (by omega) (by decide) dX4_hasValueOf_29 (by decide) ?_
      refine lv_lload_n hx hb dX4_hasValueOf_32 rfl (lv_at hl 0 rfl) ?_
      refine lv_ldc2 (v := jL (-1)) hx hb hown (hts (.constantLong RX4 54 (-1)) (by first | exact gj_X4_hasValueOf_0 _ (gp_1 (gp_1 gp_h)) | decide +kernel)) dX4_hasValueOf_33 ?_
      refine x_lcmp hx hb (by omega) (by omega) dX4_hasValueOf_36 ?_
      obtain ⟨z9, ez9⟩ : ∃ y : Int, y = cmpZ (X 12 g i) (-1) := ⟨_, rfl⟩
      rw [← ez9]
      have gz9 : (z9 < 0 ↔ ((X 12 g i) : Int) < (-1)) ∧ (z9 = 0 ↔ ((X 12 g i) : Int) = (-1)) ∧ -1 ≤ z9 ∧ z9 ≤ 1 := by rw [ez9]; exact ⟨cmpZ_lt, cmpZ_eq, (cmpZ_r _ _).1, (cmpZ_r _ _).2⟩
      clear ez9
      refine x_if_eq (tgt := 50) hx hb (by omega) dX4_hasValueOf_37 (by decide) (fun c10 => ?_) (fun c10 => ?_)
      · replace c10 := cz_eqT gz9 c10
        clear gz9
        refine lv_iconst (v := jI 1) hx hb dX4_hasValueOf_50 rfl ?_
        refine lv_goto (tgt := 55) hx hb dX4_hasValueOf_51 (by decide) ?_
        rw [hQ9]
        refine ret_z (mc := 0) (ms := 0) hx hb hr hlocks hw hS (by first | exact Nat.le_of_ble_eq_true rfl | omega) (by first | exact Nat.le_of_ble_eq_true rfl | omega) dX4_hasValueOf_55 (by omega) ?_
        exact ⟨rfl, by omega, Or.inl ⟨rfl, by omega, fun a9 b9 => (by (try delta Hid at *); first | (exfalso; omega) | (rcases hit9 with ⟨e9, h9⟩ | ⟨e9, h9⟩; exact h9; exfalso; omega))⟩⟩
      · replace c10 := cz_eqF gz9 c10
        clear gz9
        refine lv_aload_n hx hb dX4_hasValueOf_40 rfl (lv_at hl 1 rfl) ?_
        refine lv_aload_n hx hb dX4_hasValueOf_41 rfl (lv_at hl 2 rfl) ?_
        refine lv_lload_n hx hb dX4_hasValueOf_42 rfl (lv_at hl 0 rfl) ?_
        refine x_l2i hx hb dX4_hasValueOf_43 ?_
        refine gos_i (run_V (As := [.ref (ad 7 o), .int (jI (X 12 g i))]) (rest := []) hx hb hml hown hts (c_X4_hasItemsOf l D tc base ad cnt X Y ln hR hFx hLn g o (X 12 g i) (by omega) (by omega) (by omega)) (cwV 2 hts gX4_hasValueOf_X4_hasItemsOf rfl rfl rfl (by first | exact hd_X4_hasItemsOf | decide +kernel) ⟨Nat.le_of_ble_eq_true rfl, Nat.le_of_ble_eq_true rfl⟩) hK hw (by first | exact Int.le_refl 0 | omega) (by first | exact zlt hc7 | omega) sl_7_0 rfl rfl hl.1 rfl (Nat.le_of_ble_eq_true rfl) dX4_hasValueOf_44 ⟨Nat.le_of_ble_eq_true rfl, Nat.le_of_ble_eq_true rfl⟩) hS (fun z11 u12 H locs p13 hw hS => ?_)
        obtain ⟨eu12, p13, hit9⟩ := p13
        subst eu12
        refine x_if_eq (tgt := 54) hx hb (by omega) dX4_hasValueOf_47 (by decide) (fun c14 => ?_) (fun c14 => ?_)
        · refine lv_iconst (v := jI 0) hx hb dX4_hasValueOf_54 rfl ?_
          rw [hQ9]
          refine ret_z (mc := 0) (ms := 0) hx hb hr hlocks hw hS (by first | exact Nat.le_of_ble_eq_true rfl | omega) (by first | exact Nat.le_of_ble_eq_true rfl | omega) dX4_hasValueOf_55 (by omega) ?_
          exact ⟨rfl, by omega, Or.inr ⟨rfl, fun q => (by (try delta Hid at *); first | (have q1 := q.1; omega) | (rcases hit9 with ⟨e9, h9⟩ | ⟨e9, h9⟩; exfalso; omega; exact h9 (q.2 (by omega) (by omega))))⟩⟩
        · refine lv_iconst (v := jI 1) hx hb dX4_hasValueOf_50 rfl ?_
          refine lv_goto (tgt := 55) hx hb dX4_hasValueOf_51 (by decide) ?_
          rw [hQ9]
          refine ret_z (mc := 0) (ms := 0) hx hb hr hlocks hw hS (by first | exact Nat.le_of_ble_eq_true rfl | omega) (by first | exact Nat.le_of_ble_eq_true rfl | omega) dX4_hasValueOf_55 (by omega) ?_
          exact ⟨rfl, by omega, Or.inl ⟨rfl, by omega, fun a9 b9 => (by (try delta Hid at *); first | (exfalso; omega) | (rcases hit9 with ⟨e9, h9⟩ | ⟨e9, h9⟩; exact h9; exfalso; omega))⟩⟩
    · subst ez6
      refine x_if_eqT (tgt := 50) hx hb (by omega) (by decide) dX4_hasValueOf_29 (by decide) ?_
      refine lv_iconst (v := jI 1) hx hb dX4_hasValueOf_50 rfl ?_
      refine lv_goto (tgt := 55) hx hb dX4_hasValueOf_51 (by decide) ?_
      rw [hQ9]
      refine ret_z (mc := 0) (ms := 0) hx hb hr hlocks hw hS (by first | exact Nat.le_of_ble_eq_true rfl | omega) (by first | exact Nat.le_of_ble_eq_true rfl | omega) dX4_hasValueOf_55 (by omega) ?_
      exact ⟨rfl, by omega, Or.inl ⟨rfl, by omega, fun a9 b9 => (by (try delta Hid at *); first | (exfalso; omega) | (rcases hit9 with ⟨e9, h9⟩ | ⟨e9, h9⟩; exact h9; exfalso; omega))⟩⟩
  · replace c4 := cz_eqF gz3 c4
    clear gz3
    refine lv_iconst (v := jI 0) hx hb dX4_hasValueOf_18 rfl ?_
    rw [hQ9]
    refine ret_z (mc := 0) (ms := 0) hx hb hr hlocks hw hS (by first | exact Nat.le_of_ble_eq_true rfl | omega) (by first | exact Nat.le_of_ble_eq_true rfl | omega) dX4_hasValueOf_19 (by omega) ?_
    exact ⟨rfl, by omega, Or.inr ⟨rfl, fun q => (by (try delta Hid at *); first | (have q1 := q.1; omega) | (rcases hit9 with ⟨e9, h9⟩ | ⟨e9, h9⟩; exfalso; omega; exact h9 (q.2 (by omega) (by omega))))⟩⟩

set_option maxHeartbeats 4000000 in
set_option maxRecDepth 100000 in
theorem c_X4_hasShapeOf (l : Launch) (D : va_G) (tc : Nat → ClassId) (base : Nat) (ad : Nat → Int → Nat) (cnt : Nat → Int) (X : Nat → Int → Int → Int) (Y : Nat → Int → Int → Option Int) (ln : Int → Int) (hR : Rng X) (hFx : Fx cnt) (hLn : LnOK ln) (g o r : Int) (hg : 0 ≤ g ∧ g < 6) (ho : 0 ≤ o ∧ o < 6) (hr0 : 0 ≤ r ∧ r ≤ 29) : KI l D tc base yX4_hasShapeOf wsX4_hasShapeOf ({ frames := 0, cells := 0, slots := 0, locals := 0 } : Room) [.ref (ad 7 g), .ref (ad 7 o), .int (jI r)] (ad, cnt, X, Y, ln) 0 0 (fun z u => u = (ad, cnt, X, Y, ln) ∧ ((z = 1 ∧ r < X 7 g 0 ∧ shC X g o r) ∨ (z = 0 ∧ Hid (¬ (shC X g o r))))) := by
  refine K_of (cc := cX4_hasShapeOf) (maxL := 5) (ret := (some .boolean)) (by decide) rfl (Nat.le_of_ble_eq_true rfl) ?_
  intro p e s m below meth c ls hx hb hr hml hown hts hlocks hl hK hw hS
  have hown : s.vm.findClass RX4 = some m.cls := hown
  obtain ⟨av9, hav9⟩ : ∃ a9 : Array Value, a9 = ([.ref (ad 7 g), .ref (ad 7 o), .int (jI r)] : List Value).toArray := ⟨_, rfl⟩
  rw [← hav9] at hts ⊢
  obtain ⟨Q9, hQ9⟩ : ∃ q9Q : State → Prop, q9Q = MQ below (QI D tc base (fun z u => u = (ad, cnt, X, Y, ln) ∧ ((z = 1 ∧ r < X 7 g 0 ∧ shC X g o r) ∨ (z = 0 ∧ Hid (¬ (shC X g o r)))))) av9 s 0 0 (frA base) := ⟨_, rfl⟩
  rw [← hQ9]
  have hi4 : ∀ w ∈ wsX40, w ∈ wsX4_hasShapeOf := fun w h => List.mem_cons_of_mem _ (List.mem_append_right _ h)
  have hf4 : fctx s m _ RX4 wsX4_hasShapeOf D tc RX4 TX4 9 4 := ⟨hts, hi4, hown, hK.1, rfl⟩
  have lk9 := hts (.fieldLink RX4 9 (TX4 1).1 (TX4 1).2.1 (TX4 1).2.2.1) (gj_X4_hasShapeOf_0 _ (gp_1 gp_h))
  have lk15 := hts (.fieldLink RX4 15 (TX4 2).1 (TX4 2).2.1 (TX4 2).2.2.1) (gj_X4_hasShapeOf_0 _ (gp_1 (gp_1 gp_h)))
  have lk18 := hts (.fieldLink RX4 18 (TX4 3).1 (TX4 3).2.1 (TX4 3).2.2.1) (gj_X4_hasShapeOf_0 _ (gp_1 (gp_1 (gp_1 gp_h))))
  have lk21 := hts (.fieldLink RX4 21 (TX4 4).1 (TX4 4).2.1 (TX4 4).2.2.1) (gj_X4_hasShapeOf_0 _ (gp_4 gp_h))
  have lk47 := hts (.fieldLink RX4 47 (TX4 0).1 (TX4 0).2.1 (TX4 0).2.2.1) (gj_X4_hasShapeOf_0 _ (gp_h))
  have hc7 : cnt 7 = 6 := hFx.at 7 6 (by decide)
  have hc8 : cnt 8 = 6 := hFx.at 8 6 (by decide)
  have hc9 : cnt 9 = 6 := hFx.at 9 6 (by decide)
  have hc10 : cnt 10 = 6 := hFx.at 10 6 (by decide)
  have hc11 : cnt 11 = 6 := hFx.at 11 6 (by decide)
  have hl : lv_has ls 5 [(0, .ref (ad 7 g)), (1, .ref (ad 7 o)), (2, .int (jI r))] := hl
  refine lv_iload_n hx hb dX4_hasShapeOf_0 rfl (lv_at hl 2 rfl) ?_
  refine lv_aload_n hx hb dX4_hasShapeOf_1 rfl (lv_at hl 0 rfl) ?_
  refine x_geti (jz := 0) hx hb hf4 hw (by omega) (by omega) sl_7_0 rfl lk47 dX4_hasShapeOf_2 ?_
  have f1 : 0 ≤ X 7 g 0 ∧ X 7 g 0 ≤ 30 := hR 7 g 0
  refine x_icmp_ge (tgt := 46) hx hb (by omega) (by omega) dX4_hasShapeOf_5 (by decide) (fun c2 => ?_) (fun c2 => ?_)
  · refine lv_iconst (v := jI 0) hx hb dX4_hasShapeOf_46 rfl ?_
    rw [hQ9]
    refine ret_z (mc := 0) (ms := 0) hx hb hr hlocks hw hS (by first | exact Nat.le_of_ble_eq_true rfl | omega) (by first | exact Nat.le_of_ble_eq_true rfl | omega) dX4_hasShapeOf_47 (by omega) ?_
    exact ⟨rfl, Or.inr ⟨rfl, fun q => (by obtain ⟨q1, q2, q3, q4, -⟩ := q; omega)⟩⟩
  · refine lv_iload_n hx hb dX4_hasShapeOf_8 rfl (lv_at hl 2 rfl) ?_
    refine lv_aload_n hx hb dX4_hasShapeOf_9 rfl (lv_at hl 1 rfl) ?_
    refine x_geti (jz := 0) hx hb hf4 hw (by omega) (by omega) sl_7_0 rfl lk47 dX4_hasShapeOf_10 ?_
    have f3 : 0 ≤ X 7 o 0 ∧ X 7 o 0 ≤ 30 := hR 7 o 0
    refine x_icmp_ge (tgt := 46) hx hb (by omega) (by omega) dX4_hasShapeOf_13 (by decide) (fun c4 => ?_) (fun c4 => ?_)
    · refine lv_iconst (v := jI 0) hx hb dX4_hasShapeOf_46 rfl ?_
      rw [hQ9]
      refine ret_z (mc := 0) (ms := 0) hx hb hr hlocks hw hS (by first | exact Nat.le_of_ble_eq_true rfl | omega) (by first | exact Nat.le_of_ble_eq_true rfl | omega) dX4_hasShapeOf_47 (by omega) ?_
      exact ⟨rfl, Or.inr ⟨rfl, fun q => (by obtain ⟨q1, q2, q3, q4, -⟩ := q; omega)⟩⟩
    · refine lv_aload_n hx hb dX4_hasShapeOf_16 rfl (lv_at hl 0 rfl) ?_
      refine x_geto hx hb hf4 hw (by omega) (by omega) sl_7_1 lk9 dX4_hasShapeOf_17 ?_
      refine lv_iload_n hx hb dX4_hasShapeOf_20 rfl (lv_at hl 2 rfl) ?_
      refine x_iald hx hb hK.1 hw (by omega) (by omega) ar_8 (len_E ar_8 (by first | exact Nat.ne_of_beq_eq_false rfl | decide)) (by omega) (by omega) (by omega) dX4_hasShapeOf_21 ?_
      have f5 : 0 ≤ X 8 g r ∧ X 8 g r ≤ 7 := hR 8 g r
      refine lv_aload_n hx hb dX4_hasShapeOf_22 rfl (lv_at hl 1 rfl) ?_
      refine x_geto hx hb hf4 hw (by omega) (by omega) sl_7_1 lk9 dX4_hasShapeOf_23 ?_
      refine lv_iload_n hx hb dX4_hasShapeOf_26 rfl (lv_at hl 2 rfl) ?_
      refine x_iald hx hb hK.1 hw (by omega) (by omega) ar_8 (len_E ar_8 (by first | exact Nat.ne_of_beq_eq_false rfl | decide)) (by omega) (by omega) (by omega) dX4_hasShapeOf_27 ?_
      have f6 : 0 ≤ X 8 o r ∧ X 8 o r ≤ 7 := hR 8 o r
      refine x_icmp_ne (tgt := 46) hx hb (by omega) (by omega) dX4_hasShapeOf_28 (by decide) (fun c7 => ?_) (fun c7 => ?_)
      · refine lv_iconst (v := jI 0) hx hb dX4_hasShapeOf_46 rfl ?_
        rw [hQ9]
        refine ret_z (mc := 0) (ms := 0) hx hb hr hlocks hw hS (by first | exact Nat.le_of_ble_eq_true rfl | omega) (by first | exact Nat.le_of_ble_eq_true rfl | omega) dX4_hasShapeOf_47 (by omega) ?_
        exact ⟨rfl, Or.inr ⟨rfl, fun q => (by obtain ⟨q1, q2, q3, q4, -⟩ := q; omega)⟩⟩
      · refine lv_aload_n hx hb dX4_hasShapeOf_31 rfl (lv_at hl 0 rfl) ?_
        refine x_geto hx hb hf4 hw (by omega) (by omega) sl_7_2 lk15 dX4_hasShapeOf_32 ?_
        refine lv_iload_n hx hb dX4_hasShapeOf_35 rfl (lv_at hl 2 rfl) ?_
        refine x_iald hx hb hK.1 hw (by omega) (by omega) ar_9 (len_E ar_9 (by first | exact Nat.ne_of_beq_eq_false rfl | decide)) (by omega) (by omega) (by omega) dX4_hasShapeOf_36 ?_
        have f8 : 0 ≤ X 9 g r ∧ X 9 g r ≤ 5 := hR 9 g r
        refine lv_aload_n hx hb dX4_hasShapeOf_37 rfl (lv_at hl 1 rfl) ?_
        refine x_geto hx hb hf4 hw (by omega) (by omega) sl_7_2 lk15 dX4_hasShapeOf_38 ?_
        refine lv_iload_n hx hb dX4_hasShapeOf_41 rfl (lv_at hl 2 rfl) ?_
        refine x_iald hx hb hK.1 hw (by omega) (by omega) ar_9 (len_E ar_9 (by first | exact Nat.ne_of_beq_eq_false rfl | decide)) (by omega) (by omega) (by omega) dX4_hasShapeOf_42 ?_
        have f9 : 0 ≤ X 9 o r ∧ X 9 o r ≤ 5 := hR 9 o r
        refine x_icmp_eq (tgt := 48) hx hb (by omega) (by omega) dX4_hasShapeOf_43 (by decide) (fun c10 => ?_) (fun c10 => ?_)
        · refine lv_iconst (v := jI 0) hx hb dX4_hasShapeOf_48 rfl ?_
          refine lv_istore_n (lv' := [(3, .int (jI 0)), (0, .ref (ad 7 g)), (1, .ref (ad 7 o)), (2, .int (jI r))]) hx hb dX4_hasShapeOf_49 rfl hl (by decide) rfl (fun ls hl => ?_)
          have lp50 : ∀ (nn : Nat) (k : Int) (H : Heap) (locs : List Loc) (ls : Array Slot), (5 - k) < (nn : Int) → (0 ≤ k ∧ k ≤ 5) → (∀ j, 0 ≤ j → j < k → X 10 g (5 * r + j) = X 10 o (5 * r + j) ∧ X 11 g (5 * r + j) = X 11 o (5 * r + j)) → wd D tc base (ad, cnt, X, Y, ln) H → va_S (frA base) s.heap H locs → lv_has ls 5 [(0, .ref (ad 7 g)), (1, .ref (ad 7 o)), (2, .int (jI r)), (3, .int (jI k))] → W p l e ({ frames := 0, cells := 0, slots := 0, locals := 0 } : Room) s m av9 below meth c H locs 0 0 Q9 (F0 m 50 ls []) := by
            intro nn
            induction nn with
            | zero => intro k H locs ls hm hk hsk hw hS hl; exfalso; omega
            | succ nn ih50 =>
              intro k H locs ls hm hk hsk hw hS hl
              refine lv_iload_n hx hb dX4_hasShapeOf_50 rfl (lv_at hl 3 rfl) ?_
              refine lv_aload_n hx hb dX4_hasShapeOf_51 rfl (lv_at hl 0 rfl) ?_
              refine x_geto hx hb hf4 hw (by omega) (by omega) sl_7_2 lk15 dX4_hasShapeOf_52 ?_
              refine lv_iload_n hx hb dX4_hasShapeOf_55 rfl (lv_at hl 2 rfl) ?_
              refine x_iald hx hb hK.1 hw (by omega) (by omega) ar_9 (len_E ar_9 (by first | exact Nat.ne_of_beq_eq_false rfl | decide)) (by omega) (by omega) (by omega) dX4_hasShapeOf_56 ?_
              have f11 : 0 ≤ X 9 g r ∧ X 9 g r ≤ 5 := hR 9 g r
              refine x_icmp_ge (tgt := 109) hx hb (by omega) (by omega) dX4_hasShapeOf_57 (by decide) (fun c12 => ?_) (fun c12 => ?_)
              · refine lv_iconst (v := jI 1) hx hb dX4_hasShapeOf_109 rfl ?_
                rw [hQ9]
                refine ret_z (mc := 0) (ms := 0) hx hb hr hlocks hw hS (by first | exact Nat.le_of_ble_eq_true rfl | omega) (by first | exact Nat.le_of_ble_eq_true rfl | omega) dX4_hasShapeOf_110 (by omega) ?_
                exact ⟨rfl, Or.inl ⟨rfl, by omega, by omega, by omega, by omega, by omega, fun k9 a b => hsk k9 a (by omega)⟩⟩
              · refine lv_iload_n hx hb dX4_hasShapeOf_60 rfl (lv_at hl 2 rfl) ?_
                refine lv_iconst (v := jI 5) hx hb dX4_hasShapeOf_61 rfl ?_
                refine x_imul hx hb dX4_hasShapeOf_62 ?_
                refine lv_iload_n hx hb dX4_hasShapeOf_63 rfl (lv_at hl 3 rfl) ?_
                refine x_iadd hx hb dX4_hasShapeOf_64 ?_
                refine lv_istore (lv' := [(4, .int (jI ((r * 5) + k))), (0, .ref (ad 7 g)), (1, .ref (ad 7 o)), (2, .int (jI r)), (3, .int (jI k))]) hx hb dX4_hasShapeOf_65 hl (by decide) rfl (fun ls hl => ?_)
                refine lv_aload_n hx hb dX4_hasShapeOf_67 rfl (lv_at hl 1 rfl) ?_
                refine x_geto hx hb hf4 hw (by omega) (by omega) sl_7_3 lk18 dX4_hasShapeOf_68 ?_
                refine lv_iload hx hb dX4_hasShapeOf_71 (lv_at hl 0 rfl) ?_
                refine x_iald hx hb hK.1 hw (by omega) (by omega) ar_10 (len_E ar_10 (by first | exact Nat.ne_of_beq_eq_false rfl | decide)) (by omega) (by omega) (by omega) dX4_hasShapeOf_73 ?_
                have f13 : 0 ≤ X 10 g ((r * 5) + k) ∧ X 10 g ((r * 5) + k) ≤ 19 := hR 10 g ((r * 5) + k)
                refine lv_aload_n hx hb dX4_hasShapeOf_74 rfl (lv_at hl 2 rfl) ?_
                refine x_geto hx hb hf4 hw (by omega) (by omega) sl_7_3 lk18 dX4_hasShapeOf_75 ?_
                refine lv_iload hx hb dX4_hasShapeOf_78 (lv_at hl 0 rfl) ?_
                refine x_iald hx hb hK.1 hw (by omega) (by omega) ar_10 (len_E ar_10 (by first | exact Nat.ne_of_beq_eq_false rfl | decide)) (by omega) (by omega) (by omega) dX4_hasShapeOf_80 ?_
                have f14 : 0 ≤ X 10 o ((r * 5) + k) ∧ X 10 o ((r * 5) + k) ≤ 19 := hR 10 o ((r * 5) + k)
                refine x_icmp_ne (tgt := 101) hx hb (by omega) (by omega) dX4_hasShapeOf_81 (by decide) (fun c15 => ?_) (fun c15 => ?_)
                · refine lv_iconst (v := jI 0) hx hb dX4_hasShapeOf_101 rfl ?_
                  rw [hQ9]
                  refine ret_z (mc := 0) (ms := 0) hx hb hr hlocks hw hS (by first | exact Nat.le_of_ble_eq_true rfl | omega) (by first | exact Nat.le_of_ble_eq_true rfl | omega) dX4_hasShapeOf_102 (by omega) ?_
                  exact ⟨rfl, Or.inr ⟨rfl, fun q => (by have h9 := q.2.2.2.2 k (by omega) (by omega); rw [show 5 * r + k = r * 5 + k by omega] at h9; omega)⟩⟩
                · refine lv_aload_n hx hb dX4_hasShapeOf_84 rfl (lv_at hl 1 rfl) ?_
                  refine x_geto hx hb hf4 hw (by omega) (by omega) sl_7_4 lk21 dX4_hasShapeOf_85 ?_
                  refine lv_iload hx hb dX4_hasShapeOf_88 (lv_at hl 0 rfl) ?_
                  refine x_iald hx hb hK.1 hw (by omega) (by omega) ar_11 (len_E ar_11 (by first | exact Nat.ne_of_beq_eq_false rfl | decide)) (by omega) (by omega) (by omega) dX4_hasShapeOf_90 ?_
                  have f16 : 0 ≤ X 11 g ((r * 5) + k) ∧ X 11 g ((r * 5) + k) ≤ 5 := hR 11 g ((r * 5) + k)
                  refine lv_aload_n hx hb dX4_hasShapeOf_91 rfl (lv_at hl 2 rfl) ?_
                  refine x_geto hx hb hf4 hw (by omega) (by omega) sl_7_4 lk21 dX4_hasShapeOf_92 ?_
                  refine lv_iload hx hb dX4_hasShapeOf_95 (lv_at hl 0 rfl) ?_
                  refine x_iald hx hb hK.1 hw (by omega) (by omega) ar_11 (len_E ar_11 (by first | exact Nat.ne_of_beq_eq_false rfl | decide)) (by omega) (by omega) (by omega) dX4_hasShapeOf_97 ?_
                  have f17 : 0 ≤ X 11 o ((r * 5) + k) ∧ X 11 o ((r * 5) + k) ≤ 5 := hR 11 o ((r * 5) + k)
                  refine x_icmp_eq (tgt := 103) hx hb (by omega) (by omega) dX4_hasShapeOf_98 (by decide) (fun c18 => ?_) (fun c18 => ?_)
                  · refine lv_iinc (v := jI (k + 1)) (lv' := [(3, .int (jI (k + 1))), (4, .int (jI ((r * 5) + k))), (0, .ref (ad 7 g)), (1, .ref (ad 7 o)), (2, .int (jI r))]) hx hb dX4_hasShapeOf_103 hl (k := 4) rfl (jI_add _ _) (by decide) rfl (fun ls hl => ?_)
                    refine lv_goto (tgt := 50) hx hb dX4_hasShapeOf_106 (by decide) ?_
                    exact ih50 (k + 1) _ _ _ (by omega) (by omega) (fun j a b => if hj : j = k then (by rw [hj, show 5 * r + k = r * 5 + k by omega]; exact ⟨by omega, by omega⟩) else hsk j a (by omega)) hw hS (lv_sub hl [2, 3, 4, 0] rfl)
                  · refine lv_iconst (v := jI 0) hx hb dX4_hasShapeOf_101 rfl ?_
                    rw [hQ9]
                    refine ret_z (mc := 0) (ms := 0) hx hb hr hlocks hw hS (by first | exact Nat.le_of_ble_eq_true rfl | omega) (by first | exact Nat.le_of_ble_eq_true rfl | omega) dX4_hasShapeOf_102 (by omega) ?_
                    exact ⟨rfl, Or.inr ⟨rfl, fun q => (by have h9 := q.2.2.2.2 k (by omega) (by omega); rw [show 5 * r + k = r * 5 + k by omega] at h9; omega)⟩⟩
          exact lp50 (5 - 0 : Int).toNat.succ 0 _ _ _ (by omega) (by omega) (fun j a b => by omega) hw hS (lv_sub hl [1, 2, 3, 0] rfl)
        · refine lv_iconst (v := jI 0) hx hb dX4_hasShapeOf_46 rfl ?_
          rw [hQ9]
          refine ret_z (mc := 0) (ms := 0) hx hb hr hlocks hw hS (by first | exact Nat.le_of_ble_eq_true rfl | omega) (by first | exact Nat.le_of_ble_eq_true rfl | omega) dX4_hasShapeOf_47 (by omega) ?_
          exact ⟨rfl, Or.inr ⟨rfl, fun q => (by obtain ⟨q1, q2, q3, q4, -⟩ := q; omega)⟩⟩

set_option maxHeartbeats 4000000 in
set_option maxRecDepth 100000 in
theorem c_X8_firstDifference (l : Launch) (D : va_G) (tc : Nat → ClassId) (base : Nat) (ad : Nat → Int → Nat) (cnt : Nat → Int) (X : Nat → Int → Int → Int) (Y : Nat → Int → Int → Option Int) (ln : Int → Int) (hR : Rng X) (hFx : Fx cnt) (hLn : LnOK ln) (hCI : CInv cnt X Y ln) (g o : Int) (hg : 0 ≤ g ∧ g < 6) (ho : 0 ≤ o ∧ o < 6) (hRv : cRv X) : KI l D tc base yX8_firstDifference wsX8_firstDifference ({ frames := 2, cells := 0, slots := 0, locals := 47 } : Room) [.ref (ad 7 g), .ref (ad 7 o)] (ad, cnt, X, Y, ln) 0 0 (fun z u => u = (ad, cnt, X, Y, ln) ∧ (-1 ≤ z ∧ z ≤ 3100) ∧ dfP (mxC X g o) (shC X g o) (fun r => X 9 g r) (fun r f => vqC X g o (5 * r + f)) (fun r f => X 10 g (5 * r + f)) z) := by
  refine K_of (cc := cX8_firstDifference) (maxL := 6) (ret := (some .int)) (by decide) rfl (Nat.le_of_ble_eq_true rfl) ?_
  intro p e s m below meth c ls hx hb hr hml hown hts hlocks hl hK hw hS
  have hown : s.vm.findClass RX8 = some m.cls := hown
  obtain ⟨av9, hav9⟩ : ∃ a9 : Array Value, a9 = ([.ref (ad 7 g), .ref (ad 7 o)] : List Value).toArray := ⟨_, rfl⟩
  rw [← hav9] at hts ⊢
  obtain ⟨Q9, hQ9⟩ : ∃ q9Q : State → Prop, q9Q = MQ below (QI D tc base (fun z u => u = (ad, cnt, X, Y, ln) ∧ (-1 ≤ z ∧ z ≤ 3100) ∧ dfP (mxC X g o) (shC X g o) (fun r => X 9 g r) (fun r f => vqC X g o (5 * r + f)) (fun r f => X 10 g (5 * r + f)) z)) av9 s 0 0 (frA base) := ⟨_, rfl⟩
  rw [← hQ9]
  have hi4 : ∀ w ∈ wsX40, w ∈ wsX8_firstDifference := fun w h => List.mem_cons_of_mem _ (List.mem_append_right _ h)
  have hf4 : fctx s m _ RX8 wsX8_firstDifference D tc RX4 TX4 9 4 := ⟨hts, hi4, hown, hK.1, rfl⟩
  have lk224 := hts (.fieldLink RX8 224 (TX4 3).1 (TX4 3).2.1 (TX4 3).2.2.1) (gj_X8_firstDifference_0 _ (gp_4 (gp_1 (gp_1 gp_h))))
  have lk231 := hts (.fieldLink RX8 231 (TX4 0).1 (TX4 0).2.1 (TX4 0).2.2.1) (gj_X8_firstDifference_0 _ (gp_h))
  have lk338 := hts (.fieldLink RX8 338 (TX4 2).1 (TX4 2).2.1 (TX4 2).2.2.1) (gj_X8_firstDifference_0 _ (gp_4 (gp_1 gp_h)))
  have hc7 : cnt 7 = 6 := hFx.at 7 6 (by decide)
  have hc9 : cnt 9 = 6 := hFx.at 9 6 (by decide)
  have hc10 : cnt 10 = 6 := hFx.at 10 6 (by decide)
  have hl : lv_has ls 6 [(0, .ref (ad 7 g)), (1, .ref (ad 7 o))] := hl
  have ftc : 0 ≤ X 0 0 3 ∧ X 0 0 3 ≤ 30 := hR 0 0 3
  have fty : 0 ≤ X 0 0 1 ∧ X 0 0 1 ≤ 8 := hR 0 0 1
  have hct : cnt 19 = X 0 0 1 := hCI.2.2.2.1.1
  have hfj : 0 ≤ X 29 0 3 ∧ X 29 0 3 ≤ 4 := hR 29 0 3
  have hfn : 0 ≤ X 29 0 1 ∧ X 29 0 1 ≤ 80 := hR 29 0 1
  refine lv_aload_n hx hb dX8_firstDifference_0 rfl (lv_at hl 0 rfl) ?_
  refine x_geti (jz := 0) hx hb hf4 hw (by omega) (by omega) sl_7_0 rfl lk231 dX8_firstDifference_1 ?_
  have f1 : 0 ≤ X 7 g 0 ∧ X 7 g 0 ≤ 30 := hR 7 g 0
  refine lv_aload_n hx hb dX8_firstDifference_4 rfl (lv_at hl 1 rfl) ?_
  refine x_geti (jz := 0) hx hb hf4 hw (by omega) (by omega) sl_7_0 rfl lk231 dX8_firstDifference_5 ?_
  have f2 : 0 ≤ X 7 o 0 ∧ X 7 o 0 ≤ 30 := hR 7 o 0
  refine va_mmax hx hb (hml.trans hl.1.symm) hown (hts (.methodLink RX8 351 Lib.Math.max.name) (by first | exact gj_X8_firstDifference_0 _ (gp_1 gp_h) | decide +kernel)) (hts (.static Lib.Math.max.name) (by first | exact gj_X8_firstDifference_0 _ (gp_1 (gp_1 gp_h)) | decide +kernel)) (hts (.initialized "java/lang/Math") (by first | exact gj_X8_firstDifference_0 _ (gp_1 (gp_1 (gp_1 gp_h))) | decide +kernel)) (hts (.code Lib.Math.max.name Lib.Math.max.code 2 (some .int)) (by first | exact gj_X8_firstDifference_0 _ (gp_4 gp_h) | decide +kernel)) (Nat.le_of_ble_eq_true rfl) (Nat.le_of_ble_eq_true rfl) (Nat.le_of_ble_eq_true rfl) (Nat.le_of_ble_eq_true rfl) dX8_firstDifference_8 ?_
  rw [mmaxZ (by omega) (by omega)]
  obtain ⟨z3, ez3⟩ : ∃ y : Int, y = if (X 7 g 0) < (X 7 o 0) then (X 7 o 0) else (X 7 g 0) := ⟨_, rfl⟩
  rw [← ez3]
  have gz3 : (X 7 g 0) ≤ z3 ∧ (X 7 o 0) ≤ z3 ∧ (z3 = (X 7 g 0) ∨ z3 = (X 7 o 0)) := by rw [ez3]; split <;> omega
  clear ez3
  refine lv_istore_n (lv' := [(2, .int (jI z3)), (0, .ref (ad 7 g)), (1, .ref (ad 7 o))]) hx hb dX8_firstDifference_11 rfl hl (by decide) rfl (fun ls hl => ?_)
  refine lv_iconst (v := jI 0) hx hb dX8_firstDifference_12 rfl ?_
  refine lv_istore_n (lv' := [(3, .int (jI 0)), (2, .int (jI z3)), (0, .ref (ad 7 g)), (1, .ref (ad 7 o))]) hx hb dX8_firstDifference_13 rfl hl (by decide) rfl (fun ls hl => ?_)
  have lp14 : ∀ (nn : Nat) (r : Int) (H : Heap) (locs : List Loc) (ls : Array Slot), (30 - r) < (nn : Int) → (0 ≤ r ∧ r ≤ 30) → (∀ r', 0 ≤ r' → r' < r → shC X g o r' ∧ ∀ f, 0 ≤ f → f < X 9 g r' → vqC X g o (5 * r' + f)) → wd D tc base (ad, cnt, X, Y, ln) H → va_S (frA base) s.heap H locs → lv_has ls 6 [(0, .ref (ad 7 g)), (1, .ref (ad 7 o)), (2, .int (jI z3)), (3, .int (jI r))] → W p l e ({ frames := 2, cells := 0, slots := 0, locals := 47 } : Room) s m av9 below meth c H locs 0 0 Q9 (F0 m 14 ls []) := by
    intro nn
    induction nn with
    | zero => intro r H locs ls hm hr0 hall hw hS hl; exfalso; omega
    | succ nn ih14 =>
      intro r H locs ls hm hr0 hall hw hS hl
      refine lv_iload_n hx hb dX8_firstDifference_14 rfl (lv_at hl 3 rfl) ?_
      refine lv_iload_n hx hb dX8_firstDifference_15 rfl (lv_at hl 2 rfl) ?_
      refine x_icmp_ge (tgt := 93) hx hb (by omega) (by omega) dX8_firstDifference_16 (by decide) (fun c4 => ?_) (fun c4 => ?_)
      · refine lv_iconst (v := jI (-1)) hx hb dX8_firstDifference_93 rfl ?_
        rw [hQ9]
        refine ret_i (mc := 0) (ms := 0) hx hb hr hlocks hw hS (by first | exact Nat.le_of_ble_eq_true rfl | omega) (by first | exact Nat.le_of_ble_eq_true rfl | omega) dX8_firstDifference_94 ?_
        have hmx5 : mxC X g o = z3 := by unfold mxC; split <;> omega
        exact ⟨rfl, by omega, Or.inl ⟨rfl, fun r9 a b => hall r9 a (by omega)⟩⟩
      · refine lv_aload_n hx hb dX8_firstDifference_19 rfl (lv_at hl 0 rfl) ?_
        refine lv_aload_n hx hb dX8_firstDifference_20 rfl (lv_at hl 1 rfl) ?_
        refine lv_iload_n hx hb dX8_firstDifference_21 rfl (lv_at hl 3 rfl) ?_
        refine gos_i (run_V (As := [.ref (ad 7 o), .int (jI r)]) (rest := []) hx hb hml hown hts (c_X4_hasShapeOf l D tc base ad cnt X Y ln hR hFx hLn g o r (by omega) (by omega) (by omega)) (cwV 2 hts gX8_firstDifference_X4_hasShapeOf rfl rfl rfl (by first | exact hd_X4_hasShapeOf | decide +kernel) ⟨Nat.le_of_ble_eq_true rfl, Nat.le_of_ble_eq_true rfl⟩) hK hw (by first | exact Int.le_refl 0 | omega) (by first | exact zlt hc7 | omega) sl_7_0 rfl rfl hl.1 rfl (Nat.le_of_ble_eq_true rfl) dX8_firstDifference_22 ⟨Nat.le_of_ble_eq_true rfl, Nat.le_of_ble_eq_true rfl⟩) hS (fun z6 u7 H locs p8 hw hS => ?_)
        obtain ⟨eu7, p8⟩ := p8
        subst eu7
        rcases p8 with ⟨ez6, p8⟩ | ⟨ez6, p8⟩
        · subst ez6
          refine x_if_neT (tgt := 36) hx hb (by omega) (by decide) dX8_firstDifference_25 (by decide) ?_
          refine lv_iconst (v := jI 0) hx hb dX8_firstDifference_36 rfl ?_
          refine lv_istore (lv' := [(4, .int (jI 0)), (0, .ref (ad 7 g)), (1, .ref (ad 7 o)), (2, .int (jI z3)), (3, .int (jI r))]) hx hb dX8_firstDifference_37 hl (by decide) rfl (fun ls hl => ?_)
          have lp39 : ∀ (nn : Nat) (k : Int) (H : Heap) (locs : List Loc) (ls : Array Slot), (5 - k) < (nn : Int) → (0 ≤ k ∧ k ≤ 5) → (shC X g o r) → (∀ f, 0 ≤ f → f < k → vqC X g o (5 * r + f)) → wd D tc base (ad, cnt, X, Y, ln) H → va_S (frA base) s.heap H locs → lv_has ls 6 [(0, .ref (ad 7 g)), (1, .ref (ad 7 o)), (2, .int (jI z3)), (3, .int (jI r)), (4, .int (jI k))] → W p l e ({ frames := 2, cells := 0, slots := 0, locals := 47 } : Room) s m av9 below meth c H locs 0 0 Q9 (F0 m 39 ls []) := by
            intro nn
            induction nn with
            | zero => intro k H locs ls hm hk hsh hvk hw hS hl; exfalso; omega
            | succ nn ih39 =>
              intro k H locs ls hm hk hsh hvk hw hS hl
              refine lv_iload hx hb dX8_firstDifference_39 (lv_at hl 4 rfl) ?_
              refine lv_aload_n hx hb dX8_firstDifference_41 rfl (lv_at hl 0 rfl) ?_
              refine x_geto hx hb hf4 hw (by omega) (by omega) sl_7_2 lk338 dX8_firstDifference_42 ?_
              refine lv_iload_n hx hb dX8_firstDifference_45 rfl (lv_at hl 3 rfl) ?_
              refine x_iald hx hb hK.1 hw (by omega) (by omega) ar_9 (len_E ar_9 (by first | exact Nat.ne_of_beq_eq_false rfl | decide)) (by omega) (by omega) (by omega) dX8_firstDifference_46 ?_
              have f9 : 0 ≤ X 9 g r ∧ X 9 g r ≤ 5 := hR 9 g r
              refine x_icmp_ge (tgt := 87) hx hb (by omega) (by omega) dX8_firstDifference_47 (by decide) (fun c10 => ?_) (fun c10 => ?_)
              · refine lv_iinc (v := jI (r + 1)) (lv' := [(3, .int (jI (r + 1))), (0, .ref (ad 7 g)), (1, .ref (ad 7 o)), (2, .int (jI z3)), (4, .int (jI k))]) hx hb dX8_firstDifference_87 hl (k := 3) rfl (jI_add _ _) (by decide) rfl (fun ls hl => ?_)
                refine lv_goto (tgt := 14) hx hb dX8_firstDifference_90 (by decide) ?_
                exact ih14 (r + 1) _ _ _ (by omega) (by omega) (fun r' a b => if hr9 : r' = r then (by rw [hr9]; exact ⟨hsh, fun f f0 f1 => hvk f f0 (by omega)⟩) else hall r' a (by omega)) hw hS (lv_sub hl [1, 2, 3, 0] rfl)
              · refine lv_iload_n hx hb dX8_firstDifference_50 rfl (lv_at hl 3 rfl) ?_
                refine lv_iconst (v := jI 5) hx hb dX8_firstDifference_51 rfl ?_
                refine x_imul hx hb dX8_firstDifference_52 ?_
                refine lv_iload hx hb dX8_firstDifference_53 (lv_at hl 4 rfl) ?_
                refine x_iadd hx hb dX8_firstDifference_55 ?_
                refine lv_istore (lv' := [(5, .int (jI ((r * 5) + k))), (0, .ref (ad 7 g)), (1, .ref (ad 7 o)), (2, .int (jI z3)), (3, .int (jI r)), (4, .int (jI k))]) hx hb dX8_firstDifference_56 hl (by decide) rfl (fun ls hl => ?_)
                refine lv_aload_n hx hb dX8_firstDifference_58 rfl (lv_at hl 1 rfl) ?_
                refine lv_aload_n hx hb dX8_firstDifference_59 rfl (lv_at hl 2 rfl) ?_
                refine lv_iload hx hb dX8_firstDifference_60 (lv_at hl 0 rfl) ?_
                have hv9 := hRv g ((r * 5) + k) (by omega) (by omega) (by omega) (by omega)
                refine gos_i (run_V (As := [.ref (ad 7 o), .int (jI ((r * 5) + k))]) (rest := []) hx hb hml hown hts (c_X4_hasValueOf l D tc base ad cnt X Y ln hR hFx hLn g o ((r * 5) + k) (by omega) (by omega) (by omega) (fun h9 => hv9 (by omega))) (cwV 2 hts gX8_firstDifference_X4_hasValueOf rfl rfl rfl (by first | exact hd_X4_hasValueOf | decide +kernel) ⟨Nat.le_of_ble_eq_true rfl, Nat.le_of_ble_eq_true rfl⟩) hK hw (by first | exact Int.le_refl 0 | omega) (by first | exact zlt hc7 | omega) sl_7_0 rfl rfl hl.1 rfl (Nat.le_of_ble_eq_true rfl) dX8_firstDifference_62 ⟨Nat.le_of_ble_eq_true rfl, Nat.le_of_ble_eq_true rfl⟩) hS (fun z11 u12 H locs p13 hw hS => ?_)
                obtain ⟨eu12, p13, hvq9⟩ := p13
                subst eu12
                refine x_if_ne (tgt := 81) hx hb (by omega) dX8_firstDifference_65 (by decide) (fun c14 => ?_) (fun c14 => ?_)
                · refine lv_iinc (v := jI (k + 1)) (lv' := [(4, .int (jI (k + 1))), (5, .int (jI ((r * 5) + k))), (0, .ref (ad 7 g)), (1, .ref (ad 7 o)), (2, .int (jI z3)), (3, .int (jI r))]) hx hb dX8_firstDifference_81 hl (k := 5) rfl (jI_add _ _) (by decide) rfl (fun ls hl => ?_)
                  refine lv_goto (tgt := 39) hx hb dX8_firstDifference_84 (by decide) ?_
                  exact ih39 (k + 1) _ _ _ (by omega) (by omega) (hsh) (fun f a b => if hf9 : f = k then (by rw [hf9, show 5 * r + k = r * 5 + k by omega]; rcases hvq9 with ⟨e9, h9⟩ | ⟨e9, h9⟩; exact h9; exfalso; omega) else hvk f a (by omega)) hw hS (lv_sub hl [2, 3, 4, 5, 0] rfl)
                · refine lv_iload_n hx hb dX8_firstDifference_68 rfl (lv_at hl 4 rfl) ?_
                  refine lv_bipush (v := jI 100) hx hb dX8_firstDifference_69 (by decide) ?_
                  refine x_imul hx hb dX8_firstDifference_71 ?_
                  refine lv_aload_n hx hb dX8_firstDifference_72 rfl (lv_at hl 1 rfl) ?_
                  refine x_geto hx hb hf4 hw (by omega) (by omega) sl_7_3 lk224 dX8_firstDifference_73 ?_
                  refine lv_iload hx hb dX8_firstDifference_76 (lv_at hl 0 rfl) ?_
                  refine x_iald hx hb hK.1 hw (by omega) (by omega) ar_10 (len_E ar_10 (by first | exact Nat.ne_of_beq_eq_false rfl | decide)) (by omega) (by omega) (by omega) dX8_firstDifference_78 ?_
                  have f15 : 0 ≤ X 10 g ((r * 5) + k) ∧ X 10 g ((r * 5) + k) ≤ 19 := hR 10 g ((r * 5) + k)
                  refine x_iadd hx hb dX8_firstDifference_79 ?_
                  rw [hQ9]
                  refine ret_i (mc := 0) (ms := 0) hx hb hr hlocks hw hS (by first | exact Nat.le_of_ble_eq_true rfl | omega) (by first | exact Nat.le_of_ble_eq_true rfl | omega) dX8_firstDifference_80 ?_
                  have hmx16 : mxC X g o = z3 := by unfold mxC; split <;> omega
                  exact ⟨rfl, by omega, Or.inr ⟨r, by omega, by omega, hall, Or.inr ⟨hsh, k, by omega, (show k < X 9 g r by omega), hvk, (by rcases hvq9 with ⟨e9, h9⟩ | ⟨e9, h9⟩; exfalso; omega; show ¬ vqC X g o (5 * r + k); rw [show 5 * r + k = r * 5 + k by omega]; exact h9), (by show _ = 100 * r + X 10 g (5 * r + k); rw [show 5 * r + k = r * 5 + k by omega]; omega)⟩⟩⟩
          exact lp39 (5 - 0 : Int).toNat.succ 0 _ _ _ (by omega) (by omega) (p8.2) (fun f a b => by omega) hw hS (lv_sub hl [1, 2, 3, 4, 0] rfl)
        · subst ez6
          refine x_if_neF (tgt := 36) hx hb (by omega) (by decide) dX8_firstDifference_25 (by decide) ?_
          refine lv_iload_n hx hb dX8_firstDifference_28 rfl (lv_at hl 3 rfl) ?_
          refine lv_bipush (v := jI 100) hx hb dX8_firstDifference_29 (by decide) ?_
          refine x_imul hx hb dX8_firstDifference_31 ?_
          refine lv_bipush (v := jI 99) hx hb dX8_firstDifference_32 (by decide) ?_
          refine x_iadd hx hb dX8_firstDifference_34 ?_
          rw [hQ9]
          refine ret_i (mc := 0) (ms := 0) hx hb hr hlocks hw hS (by first | exact Nat.le_of_ble_eq_true rfl | omega) (by first | exact Nat.le_of_ble_eq_true rfl | omega) dX8_firstDifference_35 ?_
          have hmx17 : mxC X g o = z3 := by unfold mxC; split <;> omega
          exact ⟨rfl, by omega, Or.inr ⟨r, by omega, by omega, hall, Or.inl ⟨p8, by omega⟩⟩⟩
  exact lp14 (30 - 0 : Int).toNat.succ 0 _ _ _ (by omega) (by omega) (fun r' a b => by omega) hw hS (lv_sub hl [2, 3, 1, 0] rfl)

set_option maxHeartbeats 4000000 in
set_option maxRecDepth 100000 in
theorem c_X8_save (l : Launch) (D : va_G) (tc : Nat → ClassId) (base : Nat) (ad : Nat → Int → Nat) (cnt : Nat → Int) (X : Nat → Int → Int → Int) (Y : Nat → Int → Int → Option Int) (ln : Int → Int) (hR : Rng X) (hFx : Fx cnt) (hLn : LnOK ln) (hCI : CInv cnt X Y ln) (hRv : cRv X) (sv x : Int) (hsv : -2147483648 ≤ sv ∧ sv ≤ 2147483647) (hx : -2147483648 ≤ x ∧ x ≤ 2147483647) : KI l D tc base yX8_save wsX8_save ({ frames := 4, cells := 0, slots := 0, locals := 95 } : Room) [.ref (ad 0 0), .int (jI sv), .int (jI x)] (ad, cnt, X, Y, ln) 0 0 (fun z u => ∃ (X1 : Nat → Int → Int → Int) (Y1 : Nat → Int → Int → Option Int), u = (ad, cnt, X1, Y1, ln) ∧ Rng X1 ∧ Frm [701, 707, 800, 900, 1000, 1100, 1200, 1300, 1400, 1504, 2602, 3201, 3202, 3203, 3204] X X1 ∧ Frm [500, 400, 7] Y Y1 ∧ CInv cnt X1 Y1 ln ∧ (-2147483648 ≤ z ∧ z ≤ 2147483647) ∧ cRv X1 ∧ ((¬ ((0 ≤ sv ∧ sv < 4) ∧ (0 ≤ x ∧ x < X 0 0 3)) ∧ z = -1 ∧ X1 = X ∧ Y1 = Y) ∨ (((0 ≤ sv ∧ sv < 4) ∧ (0 ≤ x ∧ x < X 0 0 3)) ∧ ∃ (q : Int) (W : Nat → Int → Int → Int) (V : Nat → Int → Int → Option Int) (zs : Int), Y 0 0 6 = some q ∧ (0 ≤ q ∧ q < 6) ∧ rcT W V q (recR (cFc X Y) (cLa X Y) (cVl X Y) (cRid Y) x 30) ∧ rcR W V ln q (recR (cFc X Y) (cLa X Y) (cVl X Y) (cRid Y) x 30) ∧ rcV W V q (recR (cFc X Y) (cLa X Y) (cVl X Y) (cRid Y) x 30) (recR (cFc X Y) (cLa X Y) (cVl X Y) (cRid Y) x 30 0 0) 0 ∧ gK q X W ∧ Frm [701, 707, 800, 900, 1000, 1100, 1200, 1300, 1400, 1504, 2602] X W ∧ Frm [500] Y V ∧ ((zs = -1 ∧ ∀ r x k, 0 ≤ r → r < W 7 q 0 → V 5 0 r = some x → 0 ≤ k → k < cFc W V x → W 23 (tyo (V 15 x 0)) k = 0) ∨ (0 ≤ zs ∧ ∃ r x k, 0 ≤ r ∧ r < W 7 q 0 ∧ V 5 0 r = some x ∧ 0 ≤ k ∧ k < cFc W V x ∧ W 23 (tyo (V 15 x 0)) k ≠ 0)) ∧ ((0 ≤ zs ∧ z = -20 ∧ Frm [3201, 3202, 3203, 3204] W X1 ∧ Y1 = V) ∨ (zs = -1 ∧ z = W 7 q 0 ∧ X1 = W ∧ ∃ q2, Y 4 0 sv = some q2 ∧ Y1 = u3 (u3 V 4 0 sv (some q)) 0 0 6 (some q2)))))) := by
  refine K_of (cc := cX8_save) (maxL := 6) (ret := (some .int)) (by decide) rfl (Nat.le_of_ble_eq_true rfl) ?_
  intro p e s m below meth c ls hx hb hr hml hown hts hlocks hl hK hw hS
  have hown : s.vm.findClass RX8 = some m.cls := hown
  obtain ⟨av9, hav9⟩ : ∃ a9 : Array Value, a9 = ([.ref (ad 0 0), .int (jI sv), .int (jI x)] : List Value).toArray := ⟨_, rfl⟩
  rw [← hav9] at hts ⊢
  obtain ⟨Q9, hQ9⟩ : ∃ q9Q : State → Prop, q9Q = MQ below (QI D tc base (fun z u => ∃ (X1 : Nat → Int → Int → Int) (Y1 : Nat → Int → Int → Option Int), u = (ad, cnt, X1, Y1, ln) ∧ Rng X1 ∧ Frm [701, 707, 800, 900, 1000, 1100, 1200, 1300, 1400, 1504, 2602, 3201, 3202, 3203, 3204] X X1 ∧ Frm [500, 400, 7] Y Y1 ∧ CInv cnt X1 Y1 ln ∧ (-2147483648 ≤ z ∧ z ≤ 2147483647) ∧ cRv X1 ∧ ((¬ ((0 ≤ sv ∧ sv < 4) ∧ (0 ≤ x ∧ x < X 0 0 3)) ∧ z = -1 ∧ X1 = X ∧ Y1 = Y) ∨ (((0 ≤ sv ∧ sv < 4) ∧ (0 ≤ x ∧ x < X 0 0 3)) ∧ ∃ (q : Int) (W : Nat → Int → Int → Int) (V : Nat → Int → Int → Option Int) (zs : Int), Y 0 0 6 = some q ∧ (0 ≤ q ∧ q < 6) ∧ rcT W V q (recR (cFc X Y) (cLa X Y) (cVl X Y) (cRid Y) x 30) ∧ rcR W V ln q (recR (cFc X Y) (cLa X Y) (cVl X Y) (cRid Y) x 30) ∧ rcV W V q (recR (cFc X Y) (cLa X Y) (cVl X Y) (cRid Y) x 30) (recR (cFc X Y) (cLa X Y) (cVl X Y) (cRid Y) x 30 0 0) 0 ∧ gK q X W ∧ Frm [701, 707, 800, 900, 1000, 1100, 1200, 1300, 1400, 1504, 2602] X W ∧ Frm [500] Y V ∧ ((zs = -1 ∧ ∀ r x k, 0 ≤ r → r < W 7 q 0 → V 5 0 r = some x → 0 ≤ k → k < cFc W V x → W 23 (tyo (V 15 x 0)) k = 0) ∨ (0 ≤ zs ∧ ∃ r x k, 0 ≤ r ∧ r < W 7 q 0 ∧ V 5 0 r = some x ∧ 0 ≤ k ∧ k < cFc W V x ∧ W 23 (tyo (V 15 x 0)) k ≠ 0)) ∧ ((0 ≤ zs ∧ z = -20 ∧ Frm [3201, 3202, 3203, 3204] W X1 ∧ Y1 = V) ∨ (zs = -1 ∧ z = W 7 q 0 ∧ X1 = W ∧ ∃ q2, Y 4 0 sv = some q2 ∧ Y1 = u3 (u3 V 4 0 sv (some q)) 0 0 6 (some q2))))))) av9 s 0 0 (frA base) := ⟨_, rfl⟩
  rw [← hQ9]
  have hi4 : ∀ w ∈ wsX40, w ∈ wsX8_save := fun w h => List.mem_cons_of_mem _ (List.mem_append_left _ (List.mem_append_left _ (List.mem_append_left _ (List.mem_append_left _ (List.mem_append_right _ h)))))
  have hf4 : fctx s m _ RX8 wsX8_save D tc RX4 TX4 9 4 := ⟨hts, hi4, hown, hK.1, rfl⟩
  have hi8 : ∀ w ∈ wsX80, w ∈ wsX8_save := fun w h => List.mem_cons_of_mem _ (List.mem_append_left _ (List.mem_append_left _ (List.mem_append_left _ (List.mem_append_left _ (List.mem_append_left _ (List.mem_append_right _ h))))))
  have hf8 : fctx s m _ RX8 wsX8_save D tc RX8 TX8 12 8 := ⟨hts, hi8, hown, hK.1, rfl⟩
  have lk27 := hts (.fieldLink RX8 27 (TX8 5).1 (TX8 5).2.1 (TX8 5).2.2.1) (gj_X8_save_0 _ (gp_1 (gp_1 (gp_1 gp_h))))
  have lk32 := hts (.fieldLink RX8 32 (TX8 6).1 (TX8 6).2.1 (TX8 6).2.2.1) (gj_X8_save_0 _ (gp_h))
  have lk58 := hts (.fieldLink RX8 58 (TX8 11).1 (TX8 11).2.1 (TX8 11).2.2.1) (gj_X8_save_0 _ (gp_1 gp_h))
  have lk224 := hts (.fieldLink RX8 224 (TX4 3).1 (TX4 3).2.1 (TX4 3).2.2.1) (gj_X8_save_0 _ (gp_1 (gp_1 gp_h)))
  have lk231 := hts (.fieldLink RX8 231 (TX4 0).1 (TX4 0).2.1 (TX4 0).2.2.1) (gj_X8_save_0 _ (gp_4 gp_h))
  have hc0 : cnt 0 = 1 := hFx.at 0 1 (by decide)
  have hc4 : cnt 4 = 1 := hFx.at 4 1 (by decide)
  have hc7 : cnt 7 = 6 := hFx.at 7 6 (by decide)
  have hc10 : cnt 10 = 6 := hFx.at 10 6 (by decide)
  have hc32 : cnt 32 = 1 := hFx.at 32 1 (by decide)
  have hl : lv_has ls 6 [(0, .ref (ad 0 0)), (1, .int (jI sv)), (2, .int (jI x))] := hl
  have ftc : 0 ≤ X 0 0 3 ∧ X 0 0 3 ≤ 30 := hR 0 0 3
  have fty : 0 ≤ X 0 0 1 ∧ X 0 0 1 ≤ 8 := hR 0 0 1
  have hct : cnt 19 = X 0 0 1 := hCI.2.2.2.1.1
  have hfj : 0 ≤ X 29 0 3 ∧ X 29 0 3 ≤ 4 := hR 29 0 3
  have hfn : 0 ≤ X 29 0 1 ∧ X 29 0 1 ≤ 80 := hR 29 0 1
  refine lv_aload_n hx hb dX8_save_0 rfl (lv_at hl 0 rfl) ?_
  refine lv_iload_n hx hb dX8_save_1 rfl (lv_at hl 2 rfl) ?_
  refine x_i2l hx hb (by omega) dX8_save_2 ?_
  refine gos_r (run_V (As := [.long (jL x)]) (rest := []) hx hb hml hown hts (c_X8_thingNumbered l D tc base ad cnt X Y ln hR hFx hLn hCI x (by omega)) (cwV 1 hts gX8_save_X8_thingNumbered rfl rfl rfl (by first | exact hd_X8_thingNumbered | decide +kernel) ⟨Nat.le_of_ble_eq_true rfl, Nat.le_of_ble_eq_true rfl⟩) hK hw (by first | exact Int.le_refl 0 | omega) (by first | exact zlt hc0 | omega) sl_0_0 rfl rfl hl.1 rfl (Nat.le_of_ble_eq_true rfl) dX8_save_3 ⟨Nat.le_of_ble_eq_true rfl, Nat.le_of_ble_eq_true rfl⟩) hS (fun u2 H locs p3 hw hS => ?_) (fun z1 u2 H locs p3 hw hS => ?_)
  · obtain ⟨eu2, hsp3, hnp3⟩ := p3
    subst eu2
    refine lv_astore_nN (lv' := [(3, .null), (0, .ref (ad 0 0)), (1, .int (jI sv)), (2, .int (jI x))]) hx hb dX8_save_6 rfl hl (by decide) rfl (fun ls hl => ?_)
    refine lv_iload_n hx hb dX8_save_7 rfl (lv_at hl 2 rfl) ?_
    refine lv_iconst (v := jI 4) hx hb dX8_save_8 rfl ?_
    refine gos_i (run_S (As := [.int (jI sv), .int (jI 4)]) (rest := []) hx hb hml hown hts (c_X8_isBelow l D tc base ad cnt X Y ln sv 4 (by omega) (by omega)) (cwS 2 hts gX8_save_X8_isBelow rfl rfl rfl (by first | exact hd_X8_isBelow | decide +kernel) ⟨Nat.le_of_ble_eq_true rfl, Nat.le_of_ble_eq_true rfl⟩) hK hw rfl hl.1 rfl (Nat.le_of_ble_eq_true rfl) dX8_save_9 ⟨Nat.le_of_ble_eq_true rfl, Nat.le_of_ble_eq_true rfl⟩) hS (fun z4 u5 H locs p6 hw hS => ?_)
    obtain ⟨eu5, p6⟩ := p6
    subst eu5
    rcases p6 with ⟨ez4, p6⟩ | ⟨ez4, p6⟩
    · subst ez4
      refine x_if_eqF (tgt := 19) hx hb (by omega) (by decide) dX8_save_12 (by decide) ?_
      refine lv_aload_nN hx hb dX8_save_15 rfl (lv_at hl 0 rfl) ?_
      refine lv_ifnonnullN hx hb dX8_save_16 ?_
      refine lv_iconst (v := jI (-1)) hx hb dX8_save_19 rfl ?_
      rw [hQ9]
      refine ret_i (mc := 0) (ms := 0) hx hb hr hlocks hw hS (by first | exact Nat.le_of_ble_eq_true rfl | omega) (by first | exact Nat.le_of_ble_eq_true rfl | omega) dX8_save_20 ?_
      exact ⟨X, Y, rfl, hR, Frm.rf, Frm.rf, hCI, by omega, hRv, Or.inl ⟨(by have h9n : ¬ (0 ≤ x ∧ x < X 0 0 3) := hnp3 rfl; exact (fun q9 => by (try delta Hid at *); omega)), by omega, rfl, rfl⟩⟩
    · subst ez4
      refine x_if_eqT (tgt := 19) hx hb (by omega) (by decide) dX8_save_12 (by decide) ?_
      refine lv_iconst (v := jI (-1)) hx hb dX8_save_19 rfl ?_
      rw [hQ9]
      refine ret_i (mc := 0) (ms := 0) hx hb hr hlocks hw hS (by first | exact Nat.le_of_ble_eq_true rfl | omega) (by first | exact Nat.le_of_ble_eq_true rfl | omega) dX8_save_20 ?_
      exact ⟨X, Y, rfl, hR, Frm.rf, Frm.rf, hCI, by omega, hRv, Or.inl ⟨(by have h9n : ¬ (0 ≤ x ∧ x < X 0 0 3) := hnp3 rfl; exact (fun q9 => by (try delta Hid at *); omega)), by omega, rfl, rfl⟩⟩
  · obtain ⟨eu2, hsp3, hnp3⟩ := p3
    subst eu2
    obtain ⟨ezz1, p3⟩ := hsp3 z1 rfl
    refine lv_astore_n (lv' := [(3, .ref (ad 15 z1)), (0, .ref (ad 0 0)), (1, .int (jI sv)), (2, .int (jI x))]) hx hb dX8_save_6 rfl hl (by decide) rfl (fun ls hl => ?_)
    refine lv_iload_n hx hb dX8_save_7 rfl (lv_at hl 2 rfl) ?_
    refine lv_iconst (v := jI 4) hx hb dX8_save_8 rfl ?_
    refine gos_i (run_S (As := [.int (jI sv), .int (jI 4)]) (rest := []) hx hb hml hown hts (c_X8_isBelow l D tc base ad cnt X Y ln sv 4 (by omega) (by omega)) (cwS 2 hts gX8_save_X8_isBelow rfl rfl rfl (by first | exact hd_X8_isBelow | decide +kernel) ⟨Nat.le_of_ble_eq_true rfl, Nat.le_of_ble_eq_true rfl⟩) hK hw rfl hl.1 rfl (Nat.le_of_ble_eq_true rfl) dX8_save_9 ⟨Nat.le_of_ble_eq_true rfl, Nat.le_of_ble_eq_true rfl⟩) hS (fun z7 u8 H locs p9 hw hS => ?_)
    obtain ⟨eu8, p9⟩ := p9
    subst eu8
    rcases p9 with ⟨ez7, p9⟩ | ⟨ez7, p9⟩
    · subst ez7
      refine x_if_eqF (tgt := 19) hx hb (by omega) (by decide) dX8_save_12 (by decide) ?_
      refine lv_aload_n hx hb dX8_save_15 rfl (lv_at hl 0 rfl) ?_
      refine lv_ifnonnull (tgt := 21) hx hb dX8_save_16 (by decide) ?_
      refine lv_aload_n hx hb dX8_save_21 rfl (lv_at hl 1 rfl) ?_
      refine lv_aload_n hx hb dX8_save_22 rfl (lv_at hl 0 rfl) ?_
      refine lv_aload_n hx hb dX8_save_23 rfl (lv_at hl 1 rfl) ?_
      refine x_getr (jz := 6) hx hb hf8 hw (by first | exact Int.le_refl 0 | omega) (by first | exact zlt hc0 | omega) sl_0_6 rfl lk32 dX8_save_24 (fun y10 => ?_) (fun r11 y10 gr11 lr11 => ?_)
      · exfalso
        exact absurd y10 hCI.2.2.1.2.1
      · refine gos_v (run_V (As := [.ref (ad 15 z1), .ref (ad 7 r11)]) (rest := []) hx hb hml hown hts (c_X8_recordFrom l D tc base ad cnt X Y ln hR hFx hLn hCI z1 r11 (by omega) (by omega) (by omega) hRv) (cwV 2 hts gX8_save_X8_recordFrom rfl rfl rfl (by first | exact hd_X8_recordFrom | decide +kernel) ⟨Nat.le_of_ble_eq_true rfl, Nat.le_of_ble_eq_true rfl⟩) hK hw (by first | exact Int.le_refl 0 | omega) (by first | exact zlt hc0 | omega) sl_0_0 rfl rfl hl.1 rfl (Nat.le_of_ble_eq_true rfl) dX8_save_27 ⟨Nat.le_of_ble_eq_true rfl, Nat.le_of_ble_eq_true rfl⟩) hS (fun u13 H locs p14 hw hS => ?_)
        obtain ⟨X15, Y16, eu13, hRX15, hG17, hJ18, hCIX15, p14, hOX15, hRvX15, hTfX15, hRfX15, hVfX15, hgkX15⟩ := p14
        subst eu13
        have hFX15 : Frm [701, 707, 800, 900, 1000, 1100, 1200, 1300, 1400, 1504, 2602, 3201, 3202, 3203, 3204] X X15 := Frm.tr Frm.rf (Frm.mono hG17 (by first | exact nls_of rfl | decide))
        have hHY16 : Frm [500, 400, 7] Y Y16 := Frm.tr Frm.rf (Frm.mono hJ18 (by first | exact nls_of rfl | decide))
        refine lv_aload_n hx hb dX8_save_30 rfl (lv_at hl 1 rfl) ?_
        refine lv_aload_n hx hb dX8_save_31 rfl (lv_at hl 1 rfl) ?_
        refine x_getr (jz := 6) hx hb hf8 hw (by first | exact Int.le_refl 0 | omega) (by first | exact zlt hc0 | omega) sl_0_6 rfl lk32 dX8_save_32 (fun y19 => ?_) (fun r20 y19 gr20 lr20 => ?_)
        · exfalso
          have e21 : Y16 0 0 6 = Y 0 0 6 := by rw [hJ18 0 0 6 (show 7 ∉ [500] by first | exact nlm_ni rfl | decide)]
          rw [e21] at y19
          rw [y10] at y19; cases y19
        · have e22 : Y16 0 0 6 = Y 0 0 6 := by rw [hJ18 0 0 6 (show 7 ∉ [500] by first | exact nlm_ni rfl | decide)]
          rw [e22] at y19
          have er20 : r20 = r11 := by rw [y10] at y19; cases y19; rfl
          rw [er20]
          refine gos_i (run_V (As := [.ref (ad 7 r11)]) (rest := []) hx hb hml hown hts (c_X8_firstShutSlot l D tc base ad cnt X15 Y16 ln hRX15 hFx hLn hCIX15 r11 (by omega) hOX15) (cwV 1 hts gX8_save_X8_firstShutSlot rfl rfl rfl (by first | exact hd_X8_firstShutSlot | decide +kernel) ⟨Nat.le_of_ble_eq_true rfl, Nat.le_of_ble_eq_true rfl⟩) hK hw (by first | exact Int.le_refl 0 | omega) (by first | exact zlt hc0 | omega) sl_0_0 rfl rfl hl.1 rfl (Nat.le_of_ble_eq_true rfl) dX8_save_35 ⟨Nat.le_of_ble_eq_true rfl, Nat.le_of_ble_eq_true rfl⟩) hS (fun z23 u24 H locs p25 hw hS => ?_)
          obtain ⟨eu24, p25, hshz23⟩ := p25
          subst eu24
          refine lv_istore (lv' := [(4, .int (jI z23)), (3, .ref (ad 15 z1)), (0, .ref (ad 0 0)), (1, .int (jI sv)), (2, .int (jI x))]) hx hb dX8_save_38 hl (by decide) rfl (fun ls hl => ?_)
          refine lv_iload hx hb dX8_save_40 (lv_at hl 0 rfl) ?_
          refine lv_iconst (v := jI (-1)) hx hb dX8_save_42 rfl ?_
          refine x_icmp_eq (tgt := 74) hx hb (by omega) (by omega) dX8_save_43 (by decide) (fun c26 => ?_) (fun c26 => ?_)
          · refine lv_aload_n hx hb dX8_save_74 rfl (lv_at hl 2 rfl) ?_
            refine x_geto hx hb hf8 hw (by first | exact Int.le_refl 0 | omega) (by first | exact zlt hc0 | omega) sl_0_5 lk27 dX8_save_75 ?_
            refine lv_iload_n hx hb dX8_save_78 rfl (lv_at hl 3 rfl) ?_
            refine x_aald hx hb hK.1 hw (by first | exact Int.le_refl 0 | omega) (by first | exact zlt hc4 | omega) ar_4 rfl (len_E ar_4 (by first | exact Nat.ne_of_beq_eq_false rfl | decide)) (by omega) (by omega) (by omega) dX8_save_79 (fun y27 => ?_) (fun r28 y27 gr28 lr28 => ?_)
            · exfalso
              have e29 : ∀ p9 q9 : Int, Y16 4 p9 q9 = Y 4 p9 q9 := fun p9 q9 => by rw [hJ18 4 p9 q9 (show 400 ∉ [500] by first | exact nlm_ni rfl | decide)]
              rw [e29] at y27
              exact absurd y27 (hCI.2.2.1.1 sv (by omega) (by omega))
            · have e30 : ∀ p9 q9 : Int, Y16 4 p9 q9 = Y 4 p9 q9 := fun p9 q9 => by rw [hJ18 4 p9 q9 (show 400 ∉ [500] by first | exact nlm_ni rfl | decide)]
              rw [e30] at y27
              refine lv_astore (lv' := [(5, .ref (ad 7 r28)), (4, .int (jI z23)), (3, .ref (ad 15 z1)), (0, .ref (ad 0 0)), (1, .int (jI sv)), (2, .int (jI x))]) hx hb dX8_save_80 hl (by decide) rfl (fun ls hl => ?_)
              refine lv_aload_n hx hb dX8_save_82 rfl (lv_at hl 3 rfl) ?_
              refine x_geto hx hb hf8 hw (by first | exact Int.le_refl 0 | omega) (by first | exact zlt hc0 | omega) sl_0_5 lk27 dX8_save_83 ?_
              refine lv_iload_n hx hb dX8_save_86 rfl (lv_at hl 4 rfl) ?_
              refine lv_aload_n hx hb dX8_save_87 rfl (lv_at hl 3 rfl) ?_
              refine x_getr (jz := 6) hx hb hf8 hw (by first | exact Int.le_refl 0 | omega) (by first | exact zlt hc0 | omega) sl_0_6 rfl lk32 dX8_save_88 (fun y31 => ?_) (fun r32 y31 gr32 lr32 => ?_)
              · exfalso
                have e33 : Y16 0 0 6 = Y 0 0 6 := by rw [hJ18 0 0 6 (show 7 ∉ [500] by first | exact nlm_ni rfl | decide)]
                rw [e33] at y31
                rw [y10] at y31; cases y31
              · have e34 : Y16 0 0 6 = Y 0 0 6 := by rw [hJ18 0 0 6 (show 7 ∉ [500] by first | exact nlm_ni rfl | decide)]
                rw [e34] at y31
                have er32 : r32 = r11 := by rw [y10] at y31; cases y31; rfl
                rw [er32]
                refine x_aast hx hb hK.1 hw hS (by first | exact Int.le_refl 0 | omega) (by first | exact zlt hc4 | omega) ar_4 rfl rfl sl_7_0 (len_E ar_4 (by first | exact Nat.ne_of_beq_eq_false rfl | decide)) (by omega) (by omega) (by omega) (by omega) (by omega) dX8_save_91 (fun H locs hw hS => ?_)
                obtain ⟨Y35, hY35⟩ : ∃ Yq, Yq = u3 Y16 4 0 sv (some r11) := ⟨_, rfl⟩
                rw [← hY35] at hw
                have hVY35 : Y35 4 0 sv = (some r11) := by rw [hY35]; exact u3_s _ _ _ _ _
                have hHY35 : Frm [500, 400, 7] Y Y35 := by rw [hY35]; exact Frm.set hHY16 (show 400 ∈ [500, 400, 7] by first | exact nlm_in rfl | decide)
                refine lv_aload_n hx hb dX8_save_92 rfl (lv_at hl 3 rfl) ?_
                refine lv_aload hx hb dX8_save_93 (lv_at hl 0 rfl) ?_
                refine x_putr (jz := 6) hx hb hf8 ⟨tyX8_ok, nmX8⟩ hw hS (by first | exact Int.le_refl 0 | omega) (by first | exact zlt hc0 | omega) sl_0_6 rfl lk32 rfl (by omega) (by omega) (tyX8_ok 6 (by decide)) dX8_save_95 (fun H locs hw hS => ?_)
                obtain ⟨Y36, hY36⟩ : ∃ Yq, Yq = u3 Y35 0 0 6 (some r28) := ⟨_, rfl⟩
                rw [← hY36] at hw
                have hVY36 : Y36 0 0 6 = (some r28) := by rw [hY36]; exact u3_s _ _ _ _ _
                have hHY36 : Frm [500, 400, 7] Y Y36 := by rw [hY36]; exact Frm.set hHY35 (show 7 ∈ [500, 400, 7] by first | exact nlm_in rfl | decide)
                refine lv_aload_n hx hb dX8_save_98 rfl (lv_at hl 3 rfl) ?_
                refine x_geto hx hb hf8 hw (by first | exact Int.le_refl 0 | omega) (by first | exact zlt hc0 | omega) sl_0_5 lk27 dX8_save_99 ?_
                refine lv_iload_n hx hb dX8_save_102 rfl (lv_at hl 4 rfl) ?_
                refine x_aald hx hb hK.1 hw (by first | exact Int.le_refl 0 | omega) (by first | exact zlt hc4 | omega) ar_4 rfl (len_E ar_4 (by first | exact Nat.ne_of_beq_eq_false rfl | decide)) (by omega) (by omega) (by omega) dX8_save_103 (fun y37 => ?_) (fun r38 y37 gr38 lr38 => ?_)
                · exfalso
                  have e39 : ∀ p9 q9 : Int, Y36 4 p9 q9 = Y35 4 p9 q9 := fun p9 q9 => by rw [hY36, u3_k _ _ _ _ (by first | exact Nat.ne_of_beq_eq_false rfl | decide)]
                  rw [e39] at y37
                  rw [hVY35] at y37; cases y37
                · have e40 : ∀ p9 q9 : Int, Y36 4 p9 q9 = Y35 4 p9 q9 := fun p9 q9 => by rw [hY36, u3_k _ _ _ _ (by first | exact Nat.ne_of_beq_eq_false rfl | decide)]
                  rw [e40] at y37
                  have er38 : r38 = r11 := by rw [hVY35] at y37; cases y37; rfl
                  rw [er38]
                  refine x_geti (jz := 0) hx hb hf4 hw (by omega) (by omega) sl_7_0 rfl lk231 dX8_save_104 ?_
                  have f41 : 0 ≤ X15 7 r11 0 ∧ X15 7 r11 0 ≤ 30 := hRX15 7 r11 0
                  rw [hQ9]
                  refine ret_i (mc := 0) (ms := 0) hx hb hr hlocks hw hS (by first | exact Nat.le_of_ble_eq_true rfl | omega) (by first | exact Nat.le_of_ble_eq_true rfl | omega) dX8_save_107 ?_
                  exact ⟨X15, Y36, rfl, hRX15, hFX15, hHY36, (by rw [hY36, hY35]; exact cinv_swap hCIX15), by omega, hRvX15, Or.inr ⟨(by (try delta Hid at *); omega), r11, X15, Y16, z23, y10, ⟨by omega, by omega⟩, (by rw [← ezz1]; exact hTfX15), (by rw [← ezz1]; exact hRfX15), (by rw [← ezz1]; exact hVfX15), hgkX15, hG17, hJ18, hshz23, Or.inr ⟨by omega, by omega, rfl, r28, y27, (by rw [hY36, hY35])⟩⟩⟩
          · refine lv_aload_n hx hb dX8_save_46 rfl (lv_at hl 2 rfl) ?_
            refine x_geto hx hb hf8 hw (by first | exact Int.le_refl 0 | omega) (by first | exact zlt hc0 | omega) sl_0_11 lk58 dX8_save_47 ?_
            refine lv_iload hx hb dX8_save_50 (lv_at hl 0 rfl) ?_
            refine lv_iconst (v := jI 5) hx hb dX8_save_52 rfl ?_
            refine lv_idiv hx hb dX8_save_53 (by decide) ?_
            refine x_anyi (fun z42 hz42 => ?_)
            refine lv_aload_n hx hb dX8_save_54 rfl (lv_at hl 2 rfl) ?_
            refine x_getr (jz := 6) hx hb hf8 hw (by first | exact Int.le_refl 0 | omega) (by first | exact zlt hc0 | omega) sl_0_6 rfl lk32 dX8_save_55 (fun y43 => ?_) (fun r44 y43 gr44 lr44 => ?_)
            · exfalso
              have e45 : Y16 0 0 6 = Y 0 0 6 := by rw [hJ18 0 0 6 (show 7 ∉ [500] by first | exact nlm_ni rfl | decide)]
              rw [e45] at y43
              rw [y10] at y43; cases y43
            · have e46 : Y16 0 0 6 = Y 0 0 6 := by rw [hJ18 0 0 6 (show 7 ∉ [500] by first | exact nlm_ni rfl | decide)]
              rw [e46] at y43
              have er44 : r44 = r11 := by rw [y10] at y43; cases y43; rfl
              rw [er44]
              refine x_geto hx hb hf4 hw (by omega) (by omega) sl_7_3 lk224 dX8_save_58 ?_
              refine lv_iload hx hb dX8_save_61 (lv_at hl 0 rfl) ?_
              refine x_iald hx hb hK.1 hw (by omega) (by omega) ar_10 (len_E ar_10 (by first | exact Nat.ne_of_beq_eq_false rfl | decide)) (by omega) (by omega) (by omega) dX8_save_63 ?_
              have f47 : 0 ≤ X15 10 r11 z23 ∧ X15 10 r11 z23 ≤ 19 := hRX15 10 r11 z23
              refine lv_iconst (v := jI (-1)) hx hb dX8_save_64 rfl ?_
              refine gos_v (run_V (As := [.int (jI z42), .int (jI (X15 10 r11 z23)), .int (jI (-1))]) (rest := []) hx hb hml hown hts (c_X1_tell l D tc base ad cnt X15 Y16 ln hRX15 hFx hLn hCIX15 z42 (X15 10 r11 z23) (-1) (by omega) (by omega) (by omega)) (cwV 3 hts gX8_save_X1_tell rfl rfl rfl (by first | exact hd_X1_tell | decide +kernel) ⟨Nat.le_of_ble_eq_true rfl, Nat.le_of_ble_eq_true rfl⟩) hK hw (by first | exact Int.le_refl 0 | omega) (by first | exact zlt hc32 | omega) sl_32_0 rfl rfl hl.1 rfl (Nat.le_of_ble_eq_true rfl) dX8_save_65 ⟨Nat.le_of_ble_eq_true rfl, Nat.le_of_ble_eq_true rfl⟩) hS (fun u49 H locs p50 hw hS => ?_)
              obtain ⟨X51, eu49, hRX51, hG52, hCIX51, p50⟩ := p50
              subst eu49
              have hFX51 : Frm [701, 707, 800, 900, 1000, 1100, 1200, 1300, 1400, 1504, 2602, 3201, 3202, 3203, 3204] X X51 := Frm.tr hFX15 (Frm.mono hG52 (by first | exact nls_of rfl | decide))
              refine lv_bipush (v := jI 10) hx hb dX8_save_68 (by decide) ?_
              refine gos_i (run_S (As := [.int (jI 10)]) (rest := []) hx hb hml hown hts (c_X8_failed l D tc base ad cnt X51 Y16 ln 10 (by omega)) (cwS 1 hts gX8_save_X8_failed rfl rfl rfl (by first | exact hd_X8_failed | decide +kernel) ⟨Nat.le_of_ble_eq_true rfl, Nat.le_of_ble_eq_true rfl⟩) hK hw rfl hl.1 rfl (Nat.le_of_ble_eq_true rfl) dX8_save_70 ⟨Nat.le_of_ble_eq_true rfl, Nat.le_of_ble_eq_true rfl⟩) hS (fun z53 u54 H locs p55 hw hS => ?_)
              obtain ⟨eu54, p55⟩ := p55
              subst eu54
              rw [hQ9]
              refine ret_i (mc := 0) (ms := 0) hx hb hr hlocks hw hS (by first | exact Nat.le_of_ble_eq_true rfl | omega) (by first | exact Nat.le_of_ble_eq_true rfl | omega) dX8_save_73 ?_
              have q57 : Frm [3201, 3202, 3203, 3204] X15 X51 := Frm.tr Frm.rf (Frm.mono hG52 (by first | exact nls_of rfl | decide))
              have hRq56 : cRv X51 := hRvX15.frm q57 (by decide)
              exact ⟨X51, Y16, rfl, hRX51, hFX51, hHY16, hCIX51, by omega, hRq56, Or.inr ⟨(by (try delta Hid at *); omega), r11, X15, Y16, z23, y10, ⟨by omega, by omega⟩, (by rw [← ezz1]; exact hTfX15), (by rw [← ezz1]; exact hRfX15), (by rw [← ezz1]; exact hVfX15), hgkX15, hG17, hJ18, hshz23, Or.inl ⟨by omega, by omega, q57, rfl⟩⟩⟩
    · subst ez7
      refine x_if_eqT (tgt := 19) hx hb (by omega) (by decide) dX8_save_12 (by decide) ?_
      refine lv_iconst (v := jI (-1)) hx hb dX8_save_19 rfl ?_
      rw [hQ9]
      refine ret_i (mc := 0) (ms := 0) hx hb hr hlocks hw hS (by first | exact Nat.le_of_ble_eq_true rfl | omega) (by first | exact Nat.le_of_ble_eq_true rfl | omega) dX8_save_20 ?_
      exact ⟨X, Y, rfl, hR, Frm.rf, Frm.rf, hCI, by omega, hRv, Or.inl ⟨(by exact (fun q9 => by (try delta Hid at *); omega)), by omega, rfl, rfl⟩⟩

set_option maxHeartbeats 4000000 in
set_option maxRecDepth 100000 in
theorem c_X8_like (l : Launch) (D : va_G) (tc : Nat → ClassId) (base : Nat) (ad : Nat → Int → Nat) (cnt : Nat → Int) (X : Nat → Int → Int → Int) (Y : Nat → Int → Int → Option Int) (ln : Int → Int) (hR : Rng X) (hFx : Fx cnt) (hLn : LnOK ln) (hCI : CInv cnt X Y ln) (hRv : cRv X) (x y : Int) (hx : -2147483648 ≤ x ∧ x ≤ 2147483647) (hy : -2147483648 ≤ y ∧ y ≤ 2147483647) : KI l D tc base yX8_like wsX8_like ({ frames := 4, cells := 0, slots := 0, locals := 95 } : Room) [.ref (ad 0 0), .int (jI x), .int (jI y)] (ad, cnt, X, Y, ln) 0 0 (fun z u => ∃ (X1 : Nat → Int → Int → Int) (Y1 : Nat → Int → Int → Option Int), u = (ad, cnt, X1, Y1, ln) ∧ Rng X1 ∧ Frm [701, 707, 800, 900, 1000, 1100, 1200, 1300, 1400, 1504, 2602] X X1 ∧ Frm [500] Y Y1 ∧ CInv cnt X1 Y1 ln ∧ (-2147483648 ≤ z ∧ z ≤ 2147483647) ∧ cRv X1 ∧ ((X1 = X ∧ Y1 = Y) ∨ ∃ (q q2 : Int) (W : Nat → Int → Int → Int), Y 0 0 6 = some q ∧ Y 0 0 7 = some q2 ∧ gK q X W ∧ gK q2 W X1)) := by
  refine K_of (cc := cX8_like) (maxL := 5) (ret := (some .int)) (by decide) rfl (Nat.le_of_ble_eq_true rfl) ?_
  intro p e s m below meth c ls hx hb hr hml hown hts hlocks hl hK hw hS
  have hown : s.vm.findClass RX8 = some m.cls := hown
  obtain ⟨av9, hav9⟩ : ∃ a9 : Array Value, a9 = ([.ref (ad 0 0), .int (jI x), .int (jI y)] : List Value).toArray := ⟨_, rfl⟩
  rw [← hav9] at hts ⊢
  obtain ⟨Q9, hQ9⟩ : ∃ q9Q : State → Prop, q9Q = MQ below (QI D tc base (fun z u => ∃ (X1 : Nat → Int → Int → Int) (Y1 : Nat → Int → Int → Option Int), u = (ad, cnt, X1, Y1, ln) ∧ Rng X1 ∧ Frm [701, 707, 800, 900, 1000, 1100, 1200, 1300, 1400, 1504, 2602] X X1 ∧ Frm [500] Y Y1 ∧ CInv cnt X1 Y1 ln ∧ (-2147483648 ≤ z ∧ z ≤ 2147483647) ∧ cRv X1 ∧ ((X1 = X ∧ Y1 = Y) ∨ ∃ (q q2 : Int) (W : Nat → Int → Int → Int), Y 0 0 6 = some q ∧ Y 0 0 7 = some q2 ∧ gK q X W ∧ gK q2 W X1))) av9 s 0 0 (frA base) := ⟨_, rfl⟩
  rw [← hQ9]
  have hi8 : ∀ w ∈ wsX80, w ∈ wsX8_like := fun w h => List.mem_cons_of_mem _ (List.mem_append_left _ (List.mem_append_left _ (List.mem_append_left _ (List.mem_append_left _ (List.mem_append_right _ h)))))
  have hf8 : fctx s m _ RX8 wsX8_like D tc RX8 TX8 12 8 := ⟨hts, hi8, hown, hK.1, rfl⟩
  have lk32 := hts (.fieldLink RX8 32 (TX8 6).1 (TX8 6).2.1 (TX8 6).2.2.1) (gj_X8_like_0 _ (gp_h))
  have lk36 := hts (.fieldLink RX8 36 (TX8 7).1 (TX8 7).2.1 (TX8 7).2.2.1) (gj_X8_like_0 _ (gp_1 gp_h))
  have hc0 : cnt 0 = 1 := hFx.at 0 1 (by decide)
  have hc7 : cnt 7 = 6 := hFx.at 7 6 (by decide)
  have hl : lv_has ls 5 [(0, .ref (ad 0 0)), (1, .int (jI x)), (2, .int (jI y))] := hl
  have ftc : 0 ≤ X 0 0 3 ∧ X 0 0 3 ≤ 30 := hR 0 0 3
  have fty : 0 ≤ X 0 0 1 ∧ X 0 0 1 ≤ 8 := hR 0 0 1
  have hct : cnt 19 = X 0 0 1 := hCI.2.2.2.1.1
  have hfj : 0 ≤ X 29 0 3 ∧ X 29 0 3 ≤ 4 := hR 29 0 3
  have hfn : 0 ≤ X 29 0 1 ∧ X 29 0 1 ≤ 80 := hR 29 0 1
  refine lv_aload_n hx hb dX8_like_0 rfl (lv_at hl 0 rfl) ?_
  refine lv_iload_n hx hb dX8_like_1 rfl (lv_at hl 1 rfl) ?_
  refine x_i2l hx hb (by omega) dX8_like_2 ?_
  refine gos_r (run_V (As := [.long (jL x)]) (rest := []) hx hb hml hown hts (c_X8_thingNumbered l D tc base ad cnt X Y ln hR hFx hLn hCI x (by omega)) (cwV 1 hts gX8_like_X8_thingNumbered rfl rfl rfl (by first | exact hd_X8_thingNumbered | decide +kernel) ⟨Nat.le_of_ble_eq_true rfl, Nat.le_of_ble_eq_true rfl⟩) hK hw (by first | exact Int.le_refl 0 | omega) (by first | exact zlt hc0 | omega) sl_0_0 rfl rfl hl.1 rfl (Nat.le_of_ble_eq_true rfl) dX8_like_3 ⟨Nat.le_of_ble_eq_true rfl, Nat.le_of_ble_eq_true rfl⟩) hS (fun u2 H locs p3 hw hS => ?_) (fun z1 u2 H locs p3 hw hS => ?_)
  · obtain ⟨eu2, hsp3, hnp3⟩ := p3
    subst eu2
    refine lv_astore_nN (lv' := [(3, .null), (0, .ref (ad 0 0)), (1, .int (jI x)), (2, .int (jI y))]) hx hb dX8_like_6 rfl hl (by decide) rfl (fun ls hl => ?_)
    refine lv_aload_n hx hb dX8_like_7 rfl (lv_at hl 1 rfl) ?_
    refine lv_iload_n hx hb dX8_like_8 rfl (lv_at hl 3 rfl) ?_
    refine x_i2l hx hb (by omega) dX8_like_9 ?_
    refine gos_r (run_V (As := [.long (jL y)]) (rest := []) hx hb hml hown hts (c_X8_thingNumbered l D tc base ad cnt X Y ln hR hFx hLn hCI y (by omega)) (cwV 1 hts gX8_like_X8_thingNumbered rfl rfl rfl (by first | exact hd_X8_thingNumbered | decide +kernel) ⟨Nat.le_of_ble_eq_true rfl, Nat.le_of_ble_eq_true rfl⟩) hK hw (by first | exact Int.le_refl 0 | omega) (by first | exact zlt hc0 | omega) sl_0_0 rfl rfl hl.1 rfl (Nat.le_of_ble_eq_true rfl) dX8_like_10 ⟨Nat.le_of_ble_eq_true rfl, Nat.le_of_ble_eq_true rfl⟩) hS (fun u5 H locs p6 hw hS => ?_) (fun z4 u5 H locs p6 hw hS => ?_)
    · obtain ⟨eu5, hsp6, hnp6⟩ := p6
      subst eu5
      refine lv_astoreN (lv' := [(4, .null), (3, .null), (0, .ref (ad 0 0)), (1, .int (jI x)), (2, .int (jI y))]) hx hb dX8_like_13 hl (by decide) rfl (fun ls hl => ?_)
      refine lv_aload_nN hx hb dX8_like_15 rfl (lv_at hl 1 rfl) ?_
      refine lv_ifnullN (tgt := 24) hx hb dX8_like_16 (by decide) ?_
      refine lv_iconst (v := jI (-1)) hx hb dX8_like_24 rfl ?_
      rw [hQ9]
      refine ret_i (mc := 0) (ms := 0) hx hb hr hlocks hw hS (by first | exact Nat.le_of_ble_eq_true rfl | omega) (by first | exact Nat.le_of_ble_eq_true rfl | omega) dX8_like_25 ?_
      exact ⟨X, Y, rfl, hR, Frm.rf, Frm.rf, hCI, by omega, hRv, Or.inl ⟨rfl, rfl⟩⟩
    · obtain ⟨eu5, hsp6, hnp6⟩ := p6
      subst eu5
      obtain ⟨ezz4, p6⟩ := hsp6 z4 rfl
      refine lv_astore (lv' := [(4, .ref (ad 15 z4)), (3, .null), (0, .ref (ad 0 0)), (1, .int (jI x)), (2, .int (jI y))]) hx hb dX8_like_13 hl (by decide) rfl (fun ls hl => ?_)
      refine lv_aload_nN hx hb dX8_like_15 rfl (lv_at hl 1 rfl) ?_
      refine lv_ifnullN (tgt := 24) hx hb dX8_like_16 (by decide) ?_
      refine lv_iconst (v := jI (-1)) hx hb dX8_like_24 rfl ?_
      rw [hQ9]
      refine ret_i (mc := 0) (ms := 0) hx hb hr hlocks hw hS (by first | exact Nat.le_of_ble_eq_true rfl | omega) (by first | exact Nat.le_of_ble_eq_true rfl | omega) dX8_like_25 ?_
      exact ⟨X, Y, rfl, hR, Frm.rf, Frm.rf, hCI, by omega, hRv, Or.inl ⟨rfl, rfl⟩⟩
  · obtain ⟨eu2, hsp3, hnp3⟩ := p3
    subst eu2
    obtain ⟨ezz1, p3⟩ := hsp3 z1 rfl
    refine lv_astore_n (lv' := [(3, .ref (ad 15 z1)), (0, .ref (ad 0 0)), (1, .int (jI x)), (2, .int (jI y))]) hx hb dX8_like_6 rfl hl (by decide) rfl (fun ls hl => ?_)
    refine lv_aload_n hx hb dX8_like_7 rfl (lv_at hl 1 rfl) ?_
    refine lv_iload_n hx hb dX8_like_8 rfl (lv_at hl 3 rfl) ?_
    refine x_i2l hx hb (by omega) dX8_like_9 ?_
    refine gos_r (run_V (As := [.long (jL y)]) (rest := []) hx hb hml hown hts (c_X8_thingNumbered l D tc base ad cnt X Y ln hR hFx hLn hCI y (by omega)) (cwV 1 hts gX8_like_X8_thingNumbered rfl rfl rfl (by first | exact hd_X8_thingNumbered | decide +kernel) ⟨Nat.le_of_ble_eq_true rfl, Nat.le_of_ble_eq_true rfl⟩) hK hw (by first | exact Int.le_refl 0 | omega) (by first | exact zlt hc0 | omega) sl_0_0 rfl rfl hl.1 rfl (Nat.le_of_ble_eq_true rfl) dX8_like_10 ⟨Nat.le_of_ble_eq_true rfl, Nat.le_of_ble_eq_true rfl⟩) hS (fun u8 H locs p9 hw hS => ?_) (fun z7 u8 H locs p9 hw hS => ?_)
    · obtain ⟨eu8, hsp9, hnp9⟩ := p9
      subst eu8
      refine lv_astoreN (lv' := [(4, .null), (3, .ref (ad 15 z1)), (0, .ref (ad 0 0)), (1, .int (jI x)), (2, .int (jI y))]) hx hb dX8_like_13 hl (by decide) rfl (fun ls hl => ?_)
      refine lv_aload_n hx hb dX8_like_15 rfl (lv_at hl 1 rfl) ?_
      refine lv_ifnull hx hb dX8_like_16 ?_
      refine lv_aloadN hx hb dX8_like_19 (lv_at hl 0 rfl) ?_
      refine lv_ifnonnullN hx hb dX8_like_21 ?_
      refine lv_iconst (v := jI (-1)) hx hb dX8_like_24 rfl ?_
      rw [hQ9]
      refine ret_i (mc := 0) (ms := 0) hx hb hr hlocks hw hS (by first | exact Nat.le_of_ble_eq_true rfl | omega) (by first | exact Nat.le_of_ble_eq_true rfl | omega) dX8_like_25 ?_
      exact ⟨X, Y, rfl, hR, Frm.rf, Frm.rf, hCI, by omega, hRv, Or.inl ⟨rfl, rfl⟩⟩
    · obtain ⟨eu8, hsp9, hnp9⟩ := p9
      subst eu8
      obtain ⟨ezz7, p9⟩ := hsp9 z7 rfl
      refine lv_astore (lv' := [(4, .ref (ad 15 z7)), (3, .ref (ad 15 z1)), (0, .ref (ad 0 0)), (1, .int (jI x)), (2, .int (jI y))]) hx hb dX8_like_13 hl (by decide) rfl (fun ls hl => ?_)
      refine lv_aload_n hx hb dX8_like_15 rfl (lv_at hl 1 rfl) ?_
      refine lv_ifnull hx hb dX8_like_16 ?_
      refine lv_aload hx hb dX8_like_19 (lv_at hl 0 rfl) ?_
      refine lv_ifnonnull (tgt := 26) hx hb dX8_like_21 (by decide) ?_
      refine lv_aload_n hx hb dX8_like_26 rfl (lv_at hl 2 rfl) ?_
      refine lv_aload_n hx hb dX8_like_27 rfl (lv_at hl 1 rfl) ?_
      refine lv_aload_n hx hb dX8_like_28 rfl (lv_at hl 2 rfl) ?_
      refine x_getr (jz := 6) hx hb hf8 hw (by first | exact Int.le_refl 0 | omega) (by first | exact zlt hc0 | omega) sl_0_6 rfl lk32 dX8_like_29 (fun y10 => ?_) (fun r11 y10 gr11 lr11 => ?_)
      · exfalso
        exact absurd y10 hCI.2.2.1.2.1
      · refine gos_v (run_V (As := [.ref (ad 15 z1), .ref (ad 7 r11)]) (rest := []) hx hb hml hown hts (c_X8_recordFrom l D tc base ad cnt X Y ln hR hFx hLn hCI z1 r11 (by omega) (by omega) (by omega) hRv) (cwV 2 hts gX8_like_X8_recordFrom rfl rfl rfl (by first | exact hd_X8_recordFrom | decide +kernel) ⟨Nat.le_of_ble_eq_true rfl, Nat.le_of_ble_eq_true rfl⟩) hK hw (by first | exact Int.le_refl 0 | omega) (by first | exact zlt hc0 | omega) sl_0_0 rfl rfl hl.1 rfl (Nat.le_of_ble_eq_true rfl) dX8_like_32 ⟨Nat.le_of_ble_eq_true rfl, Nat.le_of_ble_eq_true rfl⟩) hS (fun u13 H locs p14 hw hS => ?_)
        obtain ⟨X15, Y16, eu13, hRX15, hG17, hJ18, hCIX15, p14, hOX15, hRvX15, hTfX15, hRfX15, hVfX15, hgkX15⟩ := p14
        subst eu13
        have hFX15 : Frm [701, 707, 800, 900, 1000, 1100, 1200, 1300, 1400, 1504, 2602] X X15 := Frm.tr Frm.rf (Frm.mono hG17 (by first | exact nls_of rfl | decide))
        have hHY16 : Frm [500] Y Y16 := Frm.tr Frm.rf (Frm.mono hJ18 (by first | exact nls_of rfl | decide))
        refine lv_aload_n hx hb dX8_like_35 rfl (lv_at hl 2 rfl) ?_
        refine lv_aload hx hb dX8_like_36 (lv_at hl 0 rfl) ?_
        refine lv_aload_n hx hb dX8_like_38 rfl (lv_at hl 2 rfl) ?_
        refine x_getr (jz := 7) hx hb hf8 hw (by first | exact Int.le_refl 0 | omega) (by first | exact zlt hc0 | omega) sl_0_7 rfl lk36 dX8_like_39 (fun y19 => ?_) (fun r20 y19 gr20 lr20 => ?_)
        · exfalso
          have e21 : Y16 0 0 7 = Y 0 0 7 := by rw [hJ18 0 0 7 (show 8 ∉ [500] by first | exact nlm_ni rfl | decide)]
          rw [e21] at y19
          exact absurd y19 hCI.2.2.1.2.2
        · have e22 : Y16 0 0 7 = Y 0 0 7 := by rw [hJ18 0 0 7 (show 8 ∉ [500] by first | exact nlm_ni rfl | decide)]
          rw [e22] at y19
          have e23 : X15 0 0 3 = X 0 0 3 := by rw [hG17 0 0 3 (show 4 ∉ [701, 707, 800, 900, 1000, 1100, 1200, 1300, 1400, 1504, 2602] by first | exact nlm_ni rfl | decide)]
          refine gos_v (run_V (As := [.ref (ad 15 z7), .ref (ad 7 r20)]) (rest := []) hx hb hml hown hts (c_X8_recordFrom l D tc base ad cnt X15 Y16 ln hRX15 hFx hLn hCIX15 z7 r20 (by omega) (by simp only [e23]; omega) (by omega) hRvX15) (cwV 2 hts gX8_like_X8_recordFrom rfl rfl rfl (by first | exact hd_X8_recordFrom | decide +kernel) ⟨Nat.le_of_ble_eq_true rfl, Nat.le_of_ble_eq_true rfl⟩) hK hw (by first | exact Int.le_refl 0 | omega) (by first | exact zlt hc0 | omega) sl_0_0 rfl rfl hl.1 rfl (Nat.le_of_ble_eq_true rfl) dX8_like_42 ⟨Nat.le_of_ble_eq_true rfl, Nat.le_of_ble_eq_true rfl⟩) hS (fun u25 H locs p26 hw hS => ?_)
          obtain ⟨X27, Y28, eu25, hRX27, hG29, hJ30, hCIX27, p26, hOX27, hRvX27, hTfX27, hRfX27, hVfX27, hgkX27⟩ := p26
          subst eu25
          have hFX27 : Frm [701, 707, 800, 900, 1000, 1100, 1200, 1300, 1400, 1504, 2602] X X27 := Frm.tr hFX15 (Frm.mono hG29 (by first | exact nls_of rfl | decide))
          have hHY28 : Frm [500] Y Y28 := Frm.tr hHY16 (Frm.mono hJ30 (by first | exact nls_of rfl | decide))
          refine lv_aload_n hx hb dX8_like_45 rfl (lv_at hl 2 rfl) ?_
          refine x_getr (jz := 6) hx hb hf8 hw (by first | exact Int.le_refl 0 | omega) (by first | exact zlt hc0 | omega) sl_0_6 rfl lk32 dX8_like_46 (fun y31 => ?_) (fun r32 y31 gr32 lr32 => ?_)
          · exfalso
            have e33 : Y28 0 0 6 = Y 0 0 6 := by rw [hJ30 0 0 6 (show 7 ∉ [500] by first | exact nlm_ni rfl | decide), hJ18 0 0 6 (show 7 ∉ [500] by first | exact nlm_ni rfl | decide)]
            rw [e33] at y31
            rw [y10] at y31; cases y31
          · have e34 : Y28 0 0 6 = Y 0 0 6 := by rw [hJ30 0 0 6 (show 7 ∉ [500] by first | exact nlm_ni rfl | decide), hJ18 0 0 6 (show 7 ∉ [500] by first | exact nlm_ni rfl | decide)]
            rw [e34] at y31
            have er32 : r32 = r11 := by rw [y10] at y31; cases y31; rfl
            rw [er32]
            refine lv_aload_n hx hb dX8_like_49 rfl (lv_at hl 2 rfl) ?_
            refine x_getr (jz := 7) hx hb hf8 hw (by first | exact Int.le_refl 0 | omega) (by first | exact zlt hc0 | omega) sl_0_7 rfl lk36 dX8_like_50 (fun y35 => ?_) (fun r36 y35 gr36 lr36 => ?_)
            · exfalso
              have e37 : Y28 0 0 7 = Y 0 0 7 := by rw [hJ30 0 0 7 (show 8 ∉ [500] by first | exact nlm_ni rfl | decide), hJ18 0 0 7 (show 8 ∉ [500] by first | exact nlm_ni rfl | decide)]
              rw [e37] at y35
              rw [y19] at y35; cases y35
            · have e38 : Y28 0 0 7 = Y 0 0 7 := by rw [hJ30 0 0 7 (show 8 ∉ [500] by first | exact nlm_ni rfl | decide), hJ18 0 0 7 (show 8 ∉ [500] by first | exact nlm_ni rfl | decide)]
              rw [e38] at y35
              have er36 : r36 = r20 := by rw [y19] at y35; cases y35; rfl
              rw [er36]
              refine gos_i (run_S (As := [.ref (ad 7 r11), .ref (ad 7 r20)]) (rest := []) hx hb hml hown hts (c_X8_firstDifference l D tc base ad cnt X27 Y28 ln hRX27 hFx hLn hCIX27 r11 r20 (by omega) (by omega) hRvX27) (cwS 2 hts gX8_like_X8_firstDifference rfl rfl rfl (by first | exact hd_X8_firstDifference | decide +kernel) ⟨Nat.le_of_ble_eq_true rfl, Nat.le_of_ble_eq_true rfl⟩) hK hw rfl hl.1 rfl (Nat.le_of_ble_eq_true rfl) dX8_like_53 ⟨Nat.le_of_ble_eq_true rfl, Nat.le_of_ble_eq_true rfl⟩) hS (fun z39 u40 H locs p41 hw hS => ?_)
              obtain ⟨eu40, p41, hdfz39⟩ := p41
              subst eu40
              refine lv_iconst (v := jI (-1)) hx hb dX8_like_56 rfl ?_
              refine x_icmp_ne (tgt := 64) hx hb (by omega) (by omega) dX8_like_57 (by decide) (fun c42 => ?_) (fun c42 => ?_)
              · refine lv_iconst (v := jI 0) hx hb dX8_like_64 rfl ?_
                rw [hQ9]
                refine ret_i (mc := 0) (ms := 0) hx hb hr hlocks hw hS (by first | exact Nat.le_of_ble_eq_true rfl | omega) (by first | exact Nat.le_of_ble_eq_true rfl | omega) dX8_like_65 ?_
                exact ⟨X27, Y28, rfl, hRX27, hFX27, hHY28, hCIX27, by omega, hRvX27, Or.inr ⟨r11, r20, X15, y10, y19, hgkX15, hgkX27⟩⟩
              · refine lv_iconst (v := jI 1) hx hb dX8_like_60 rfl ?_
                refine lv_goto (tgt := 65) hx hb dX8_like_61 (by decide) ?_
                rw [hQ9]
                refine ret_i (mc := 0) (ms := 0) hx hb hr hlocks hw hS (by first | exact Nat.le_of_ble_eq_true rfl | omega) (by first | exact Nat.le_of_ble_eq_true rfl | omega) dX8_like_65 ?_
                exact ⟨X27, Y28, rfl, hRX27, hFX27, hHY28, hCIX27, by omega, hRvX27, Or.inr ⟨r11, r20, X15, y10, y19, hgkX15, hgkX27⟩⟩

set_option maxHeartbeats 4000000 in
set_option maxRecDepth 100000 in
theorem c_X8_differs (l : Launch) (D : va_G) (tc : Nat → ClassId) (base : Nat) (ad : Nat → Int → Nat) (cnt : Nat → Int) (X : Nat → Int → Int → Int) (Y : Nat → Int → Int → Option Int) (ln : Int → Int) (hR : Rng X) (hFx : Fx cnt) (hLn : LnOK ln) (hCI : CInv cnt X Y ln) (hRv : cRv X) (sv x : Int) (hsv : -2147483648 ≤ sv ∧ sv ≤ 2147483647) (hx : -2147483648 ≤ x ∧ x ≤ 2147483647) : KI l D tc base yX8_differs wsX8_differs ({ frames := 4, cells := 0, slots := 0, locals := 95 } : Room) [.ref (ad 0 0), .int (jI sv), .int (jI x)] (ad, cnt, X, Y, ln) 0 0 (fun z u => ∃ (X1 : Nat → Int → Int → Int) (Y1 : Nat → Int → Int → Option Int), u = (ad, cnt, X1, Y1, ln) ∧ Rng X1 ∧ Frm [701, 707, 800, 900, 1000, 1100, 1200, 1300, 1400, 1504, 2602] X X1 ∧ Frm [500] Y Y1 ∧ CInv cnt X1 Y1 ln ∧ (-2147483648 ≤ z ∧ z ≤ 2147483647) ∧ cRv X1 ∧ ((¬ ((0 ≤ sv ∧ sv < 4) ∧ X 7 (tyo (Y 4 0 sv)) 0 ≠ 0 ∧ (0 ≤ x ∧ x < X 0 0 3)) ∧ z = -2 ∧ X1 = X ∧ Y1 = Y) ∨ (((0 ≤ sv ∧ sv < 4) ∧ X 7 (tyo (Y 4 0 sv)) 0 ≠ 0 ∧ (0 ≤ x ∧ x < X 0 0 3)) ∧ ∃ (q q2 : Int), Y 0 0 6 = some q ∧ Y 4 0 sv = some q2 ∧ (rcT X1 Y1 q (recR (cFc X Y) (cLa X Y) (cVl X Y) (cRid Y) x 30) ∧ rcR X1 Y1 ln q (recR (cFc X Y) (cLa X Y) (cVl X Y) (cRid Y) x 30) ∧ rcV X1 Y1 q (recR (cFc X Y) (cLa X Y) (cVl X Y) (cRid Y) x 30) (recR (cFc X Y) (cLa X Y) (cVl X Y) (cRid Y) x 30 0 0) 0) ∧ gK q X X1 ∧ dfP (mxC X1 q2 q) (shC X1 q2 q) (fun r => X1 9 q2 r) (fun r f => vqC X1 q2 q (5 * r + f)) (fun r f => X1 10 q2 (5 * r + f)) z))) := by
  refine K_of (cc := cX8_differs) (maxL := 4) (ret := (some .int)) (by decide) rfl (Nat.le_of_ble_eq_true rfl) ?_
  intro p e s m below meth c ls hx hb hr hml hown hts hlocks hl hK hw hS
  have hown : s.vm.findClass RX8 = some m.cls := hown
  obtain ⟨av9, hav9⟩ : ∃ a9 : Array Value, a9 = ([.ref (ad 0 0), .int (jI sv), .int (jI x)] : List Value).toArray := ⟨_, rfl⟩
  rw [← hav9] at hts ⊢
  obtain ⟨Q9, hQ9⟩ : ∃ q9Q : State → Prop, q9Q = MQ below (QI D tc base (fun z u => ∃ (X1 : Nat → Int → Int → Int) (Y1 : Nat → Int → Int → Option Int), u = (ad, cnt, X1, Y1, ln) ∧ Rng X1 ∧ Frm [701, 707, 800, 900, 1000, 1100, 1200, 1300, 1400, 1504, 2602] X X1 ∧ Frm [500] Y Y1 ∧ CInv cnt X1 Y1 ln ∧ (-2147483648 ≤ z ∧ z ≤ 2147483647) ∧ cRv X1 ∧ ((¬ ((0 ≤ sv ∧ sv < 4) ∧ X 7 (tyo (Y 4 0 sv)) 0 ≠ 0 ∧ (0 ≤ x ∧ x < X 0 0 3)) ∧ z = -2 ∧ X1 = X ∧ Y1 = Y) ∨ (((0 ≤ sv ∧ sv < 4) ∧ X 7 (tyo (Y 4 0 sv)) 0 ≠ 0 ∧ (0 ≤ x ∧ x < X 0 0 3)) ∧ ∃ (q q2 : Int), Y 0 0 6 = some q ∧ Y 4 0 sv = some q2 ∧ (rcT X1 Y1 q (recR (cFc X Y) (cLa X Y) (cVl X Y) (cRid Y) x 30) ∧ rcR X1 Y1 ln q (recR (cFc X Y) (cLa X Y) (cVl X Y) (cRid Y) x 30) ∧ rcV X1 Y1 q (recR (cFc X Y) (cLa X Y) (cVl X Y) (cRid Y) x 30) (recR (cFc X Y) (cLa X Y) (cVl X Y) (cRid Y) x 30 0 0) 0) ∧ gK q X X1 ∧ dfP (mxC X1 q2 q) (shC X1 q2 q) (fun r => X1 9 q2 r) (fun r f => vqC X1 q2 q (5 * r + f)) (fun r f => X1 10 q2 (5 * r + f)) z)))) av9 s 0 0 (frA base) := ⟨_, rfl⟩
  rw [← hQ9]
  have hi4 : ∀ w ∈ wsX40, w ∈ wsX8_differs := fun w h => List.mem_cons_of_mem _ (List.mem_append_left _ (List.mem_append_left _ (List.mem_append_left _ (List.mem_append_right _ h))))
  have hf4 : fctx s m _ RX8 wsX8_differs D tc RX4 TX4 9 4 := ⟨hts, hi4, hown, hK.1, rfl⟩
  have hi8 : ∀ w ∈ wsX80, w ∈ wsX8_differs := fun w h => List.mem_cons_of_mem _ (List.mem_append_left _ (List.mem_append_left _ (List.mem_append_left _ (List.mem_append_left _ (List.mem_append_right _ h)))))
  have hf8 : fctx s m _ RX8 wsX8_differs D tc RX8 TX8 12 8 := ⟨hts, hi8, hown, hK.1, rfl⟩
  have lk27 := hts (.fieldLink RX8 27 (TX8 5).1 (TX8 5).2.1 (TX8 5).2.2.1) (gj_X8_differs_0 _ (gp_h))
  have lk32 := hts (.fieldLink RX8 32 (TX8 6).1 (TX8 6).2.1 (TX8 6).2.2.1) (gj_X8_differs_0 _ (gp_1 (gp_1 gp_h)))
  have lk231 := hts (.fieldLink RX8 231 (TX4 0).1 (TX4 0).2.1 (TX4 0).2.2.1) (gj_X8_differs_0 _ (gp_1 gp_h))
  have hc0 : cnt 0 = 1 := hFx.at 0 1 (by decide)
  have hc4 : cnt 4 = 1 := hFx.at 4 1 (by decide)
  have hc7 : cnt 7 = 6 := hFx.at 7 6 (by decide)
  have hl : lv_has ls 4 [(0, .ref (ad 0 0)), (1, .int (jI sv)), (2, .int (jI x))] := hl
  have ftc : 0 ≤ X 0 0 3 ∧ X 0 0 3 ≤ 30 := hR 0 0 3
  have fty : 0 ≤ X 0 0 1 ∧ X 0 0 1 ≤ 8 := hR 0 0 1
  have hct : cnt 19 = X 0 0 1 := hCI.2.2.2.1.1
  have hfj : 0 ≤ X 29 0 3 ∧ X 29 0 3 ≤ 4 := hR 29 0 3
  have hfn : 0 ≤ X 29 0 1 ∧ X 29 0 1 ≤ 80 := hR 29 0 1
  refine lv_aload_n hx hb dX8_differs_0 rfl (lv_at hl 0 rfl) ?_
  refine lv_iload_n hx hb dX8_differs_1 rfl (lv_at hl 2 rfl) ?_
  refine x_i2l hx hb (by omega) dX8_differs_2 ?_
  refine gos_r (run_V (As := [.long (jL x)]) (rest := []) hx hb hml hown hts (c_X8_thingNumbered l D tc base ad cnt X Y ln hR hFx hLn hCI x (by omega)) (cwV 1 hts gX8_differs_X8_thingNumbered rfl rfl rfl (by first | exact hd_X8_thingNumbered | decide +kernel) ⟨Nat.le_of_ble_eq_true rfl, Nat.le_of_ble_eq_true rfl⟩) hK hw (by first | exact Int.le_refl 0 | omega) (by first | exact zlt hc0 | omega) sl_0_0 rfl rfl hl.1 rfl (Nat.le_of_ble_eq_true rfl) dX8_differs_3 ⟨Nat.le_of_ble_eq_true rfl, Nat.le_of_ble_eq_true rfl⟩) hS (fun u2 H locs p3 hw hS => ?_) (fun z1 u2 H locs p3 hw hS => ?_)
  · obtain ⟨eu2, hsp3, hnp3⟩ := p3
    subst eu2
    refine lv_astore_nN (lv' := [(3, .null), (0, .ref (ad 0 0)), (1, .int (jI sv)), (2, .int (jI x))]) hx hb dX8_differs_6 rfl hl (by decide) rfl (fun ls hl => ?_)
    refine lv_iload_n hx hb dX8_differs_7 rfl (lv_at hl 2 rfl) ?_
    refine lv_iconst (v := jI 4) hx hb dX8_differs_8 rfl ?_
    refine gos_i (run_S (As := [.int (jI sv), .int (jI 4)]) (rest := []) hx hb hml hown hts (c_X8_isBelow l D tc base ad cnt X Y ln sv 4 (by omega) (by omega)) (cwS 2 hts gX8_differs_X8_isBelow rfl rfl rfl (by first | exact hd_X8_isBelow | decide +kernel) ⟨Nat.le_of_ble_eq_true rfl, Nat.le_of_ble_eq_true rfl⟩) hK hw rfl hl.1 rfl (Nat.le_of_ble_eq_true rfl) dX8_differs_9 ⟨Nat.le_of_ble_eq_true rfl, Nat.le_of_ble_eq_true rfl⟩) hS (fun z4 u5 H locs p6 hw hS => ?_)
    obtain ⟨eu5, p6⟩ := p6
    subst eu5
    rcases p6 with ⟨ez4, p6⟩ | ⟨ez4, p6⟩
    · subst ez4
      refine x_if_eqF (tgt := 31) hx hb (by omega) (by decide) dX8_differs_12 (by decide) ?_
      refine lv_aload_n hx hb dX8_differs_15 rfl (lv_at hl 1 rfl) ?_
      refine x_geto hx hb hf8 hw (by first | exact Int.le_refl 0 | omega) (by first | exact zlt hc0 | omega) sl_0_5 lk27 dX8_differs_16 ?_
      refine lv_iload_n hx hb dX8_differs_19 rfl (lv_at hl 2 rfl) ?_
      refine x_aald hx hb hK.1 hw (by first | exact Int.le_refl 0 | omega) (by first | exact zlt hc4 | omega) ar_4 rfl (len_E ar_4 (by first | exact Nat.ne_of_beq_eq_false rfl | decide)) (by omega) (by omega) (by omega) dX8_differs_20 (fun y7 => ?_) (fun r8 y7 gr8 lr8 => ?_)
      · exfalso
        exact absurd y7 (hCI.2.2.1.1 sv (by omega) (by omega))
      · refine x_geti (jz := 0) hx hb hf4 hw (by omega) (by omega) sl_7_0 rfl lk231 dX8_differs_21 ?_
        have f9 : 0 ≤ X 7 r8 0 ∧ X 7 r8 0 ≤ 30 := hR 7 r8 0
        refine x_if_eq (tgt := 31) hx hb (by omega) dX8_differs_24 (by decide) (fun c10 => ?_) (fun c10 => ?_)
        · refine lv_bipush (v := jI (-2)) hx hb dX8_differs_31 (by decide) ?_
          rw [hQ9]
          refine ret_i (mc := 0) (ms := 0) hx hb hr hlocks hw hS (by first | exact Nat.le_of_ble_eq_true rfl | omega) (by first | exact Nat.le_of_ble_eq_true rfl | omega) dX8_differs_33 ?_
          exact ⟨X, Y, rfl, hR, Frm.rf, Frm.rf, hCI, by omega, hRv, Or.inl ⟨(by have h9n : ¬ (0 ≤ x ∧ x < X 0 0 3) := hnp3 rfl; exact (fun q9 => by rw [tyo_some y7] at q9; (try delta Hid at *); omega)), by omega, rfl, rfl⟩⟩
        · refine lv_aload_nN hx hb dX8_differs_27 rfl (lv_at hl 0 rfl) ?_
          refine lv_ifnonnullN hx hb dX8_differs_28 ?_
          refine lv_bipush (v := jI (-2)) hx hb dX8_differs_31 (by decide) ?_
          rw [hQ9]
          refine ret_i (mc := 0) (ms := 0) hx hb hr hlocks hw hS (by first | exact Nat.le_of_ble_eq_true rfl | omega) (by first | exact Nat.le_of_ble_eq_true rfl | omega) dX8_differs_33 ?_
          exact ⟨X, Y, rfl, hR, Frm.rf, Frm.rf, hCI, by omega, hRv, Or.inl ⟨(by have h9n : ¬ (0 ≤ x ∧ x < X 0 0 3) := hnp3 rfl; exact (fun q9 => by rw [tyo_some y7] at q9; (try delta Hid at *); omega)), by omega, rfl, rfl⟩⟩
    · subst ez4
      refine x_if_eqT (tgt := 31) hx hb (by omega) (by decide) dX8_differs_12 (by decide) ?_
      refine lv_bipush (v := jI (-2)) hx hb dX8_differs_31 (by decide) ?_
      rw [hQ9]
      refine ret_i (mc := 0) (ms := 0) hx hb hr hlocks hw hS (by first | exact Nat.le_of_ble_eq_true rfl | omega) (by first | exact Nat.le_of_ble_eq_true rfl | omega) dX8_differs_33 ?_
      exact ⟨X, Y, rfl, hR, Frm.rf, Frm.rf, hCI, by omega, hRv, Or.inl ⟨(by have h9n : ¬ (0 ≤ x ∧ x < X 0 0 3) := hnp3 rfl; exact (fun q9 => by (try delta Hid at *); omega)), by omega, rfl, rfl⟩⟩
  · obtain ⟨eu2, hsp3, hnp3⟩ := p3
    subst eu2
    obtain ⟨ezz1, p3⟩ := hsp3 z1 rfl
    refine lv_astore_n (lv' := [(3, .ref (ad 15 z1)), (0, .ref (ad 0 0)), (1, .int (jI sv)), (2, .int (jI x))]) hx hb dX8_differs_6 rfl hl (by decide) rfl (fun ls hl => ?_)
    refine lv_iload_n hx hb dX8_differs_7 rfl (lv_at hl 2 rfl) ?_
    refine lv_iconst (v := jI 4) hx hb dX8_differs_8 rfl ?_
    refine gos_i (run_S (As := [.int (jI sv), .int (jI 4)]) (rest := []) hx hb hml hown hts (c_X8_isBelow l D tc base ad cnt X Y ln sv 4 (by omega) (by omega)) (cwS 2 hts gX8_differs_X8_isBelow rfl rfl rfl (by first | exact hd_X8_isBelow | decide +kernel) ⟨Nat.le_of_ble_eq_true rfl, Nat.le_of_ble_eq_true rfl⟩) hK hw rfl hl.1 rfl (Nat.le_of_ble_eq_true rfl) dX8_differs_9 ⟨Nat.le_of_ble_eq_true rfl, Nat.le_of_ble_eq_true rfl⟩) hS (fun z11 u12 H locs p13 hw hS => ?_)
    obtain ⟨eu12, p13⟩ := p13
    subst eu12
    rcases p13 with ⟨ez11, p13⟩ | ⟨ez11, p13⟩
    · subst ez11
      refine x_if_eqF (tgt := 31) hx hb (by omega) (by decide) dX8_differs_12 (by decide) ?_
      refine lv_aload_n hx hb dX8_differs_15 rfl (lv_at hl 1 rfl) ?_
      refine x_geto hx hb hf8 hw (by first | exact Int.le_refl 0 | omega) (by first | exact zlt hc0 | omega) sl_0_5 lk27 dX8_differs_16 ?_
      refine lv_iload_n hx hb dX8_differs_19 rfl (lv_at hl 2 rfl) ?_
      refine x_aald hx hb hK.1 hw (by first | exact Int.le_refl 0 | omega) (by first | exact zlt hc4 | omega) ar_4 rfl (len_E ar_4 (by first | exact Nat.ne_of_beq_eq_false rfl | decide)) (by omega) (by omega) (by omega) dX8_differs_20 (fun y14 => ?_) (fun r15 y14 gr15 lr15 => ?_)
      · exfalso
        exact absurd y14 (hCI.2.2.1.1 sv (by omega) (by omega))
      · refine x_geti (jz := 0) hx hb hf4 hw (by omega) (by omega) sl_7_0 rfl lk231 dX8_differs_21 ?_
        have f16 : 0 ≤ X 7 r15 0 ∧ X 7 r15 0 ≤ 30 := hR 7 r15 0
        refine x_if_eq (tgt := 31) hx hb (by omega) dX8_differs_24 (by decide) (fun c17 => ?_) (fun c17 => ?_)
        · refine lv_bipush (v := jI (-2)) hx hb dX8_differs_31 (by decide) ?_
          rw [hQ9]
          refine ret_i (mc := 0) (ms := 0) hx hb hr hlocks hw hS (by first | exact Nat.le_of_ble_eq_true rfl | omega) (by first | exact Nat.le_of_ble_eq_true rfl | omega) dX8_differs_33 ?_
          exact ⟨X, Y, rfl, hR, Frm.rf, Frm.rf, hCI, by omega, hRv, Or.inl ⟨(by exact (fun q9 => by rw [tyo_some y14] at q9; (try delta Hid at *); omega)), by omega, rfl, rfl⟩⟩
        · refine lv_aload_n hx hb dX8_differs_27 rfl (lv_at hl 0 rfl) ?_
          refine lv_ifnonnull (tgt := 34) hx hb dX8_differs_28 (by decide) ?_
          refine lv_aload_n hx hb dX8_differs_34 rfl (lv_at hl 1 rfl) ?_
          refine lv_aload_n hx hb dX8_differs_35 rfl (lv_at hl 0 rfl) ?_
          refine lv_aload_n hx hb dX8_differs_36 rfl (lv_at hl 1 rfl) ?_
          refine x_getr (jz := 6) hx hb hf8 hw (by first | exact Int.le_refl 0 | omega) (by first | exact zlt hc0 | omega) sl_0_6 rfl lk32 dX8_differs_37 (fun y18 => ?_) (fun r19 y18 gr19 lr19 => ?_)
          · exfalso
            exact absurd y18 hCI.2.2.1.2.1
          · refine gos_v (run_V (As := [.ref (ad 15 z1), .ref (ad 7 r19)]) (rest := []) hx hb hml hown hts (c_X8_recordFrom l D tc base ad cnt X Y ln hR hFx hLn hCI z1 r19 (by omega) (by omega) (by omega) hRv) (cwV 2 hts gX8_differs_X8_recordFrom rfl rfl rfl (by first | exact hd_X8_recordFrom | decide +kernel) ⟨Nat.le_of_ble_eq_true rfl, Nat.le_of_ble_eq_true rfl⟩) hK hw (by first | exact Int.le_refl 0 | omega) (by first | exact zlt hc0 | omega) sl_0_0 rfl rfl hl.1 rfl (Nat.le_of_ble_eq_true rfl) dX8_differs_40 ⟨Nat.le_of_ble_eq_true rfl, Nat.le_of_ble_eq_true rfl⟩) hS (fun u21 H locs p22 hw hS => ?_)
            obtain ⟨X23, Y24, eu21, hRX23, hG25, hJ26, hCIX23, p22, hOX23, hRvX23, hTfX23, hRfX23, hVfX23, hgkX23⟩ := p22
            subst eu21
            have hFX23 : Frm [701, 707, 800, 900, 1000, 1100, 1200, 1300, 1400, 1504, 2602] X X23 := Frm.tr Frm.rf (Frm.mono hG25 (by first | exact nls_of rfl | decide))
            have hHY24 : Frm [500] Y Y24 := Frm.tr Frm.rf (Frm.mono hJ26 (by first | exact nls_of rfl | decide))
            refine lv_aload_n hx hb dX8_differs_43 rfl (lv_at hl 1 rfl) ?_
            refine x_geto hx hb hf8 hw (by first | exact Int.le_refl 0 | omega) (by first | exact zlt hc0 | omega) sl_0_5 lk27 dX8_differs_44 ?_
            refine lv_iload_n hx hb dX8_differs_47 rfl (lv_at hl 2 rfl) ?_
            refine x_aald hx hb hK.1 hw (by first | exact Int.le_refl 0 | omega) (by first | exact zlt hc4 | omega) ar_4 rfl (len_E ar_4 (by first | exact Nat.ne_of_beq_eq_false rfl | decide)) (by omega) (by omega) (by omega) dX8_differs_48 (fun y27 => ?_) (fun r28 y27 gr28 lr28 => ?_)
            · exfalso
              have e29 : ∀ p9 q9 : Int, Y24 4 p9 q9 = Y 4 p9 q9 := fun p9 q9 => by rw [hJ26 4 p9 q9 (show 400 ∉ [500] by first | exact nlm_ni rfl | decide)]
              rw [e29] at y27
              rw [y14] at y27; cases y27
            · have e30 : ∀ p9 q9 : Int, Y24 4 p9 q9 = Y 4 p9 q9 := fun p9 q9 => by rw [hJ26 4 p9 q9 (show 400 ∉ [500] by first | exact nlm_ni rfl | decide)]
              rw [e30] at y27
              have er28 : r28 = r15 := by rw [y14] at y27; cases y27; rfl
              rw [er28]
              refine lv_aload_n hx hb dX8_differs_49 rfl (lv_at hl 1 rfl) ?_
              refine x_getr (jz := 6) hx hb hf8 hw (by first | exact Int.le_refl 0 | omega) (by first | exact zlt hc0 | omega) sl_0_6 rfl lk32 dX8_differs_50 (fun y31 => ?_) (fun r32 y31 gr32 lr32 => ?_)
              · exfalso
                have e33 : Y24 0 0 6 = Y 0 0 6 := by rw [hJ26 0 0 6 (show 7 ∉ [500] by first | exact nlm_ni rfl | decide)]
                rw [e33] at y31
                rw [y18] at y31; cases y31
              · have e34 : Y24 0 0 6 = Y 0 0 6 := by rw [hJ26 0 0 6 (show 7 ∉ [500] by first | exact nlm_ni rfl | decide)]
                rw [e34] at y31
                have er32 : r32 = r19 := by rw [y18] at y31; cases y31; rfl
                rw [er32]
                refine gos_i (run_S (As := [.ref (ad 7 r15), .ref (ad 7 r19)]) (rest := []) hx hb hml hown hts (c_X8_firstDifference l D tc base ad cnt X23 Y24 ln hRX23 hFx hLn hCIX23 r15 r19 (by omega) (by omega) hRvX23) (cwS 2 hts gX8_differs_X8_firstDifference rfl rfl rfl (by first | exact hd_X8_firstDifference | decide +kernel) ⟨Nat.le_of_ble_eq_true rfl, Nat.le_of_ble_eq_true rfl⟩) hK hw rfl hl.1 rfl (Nat.le_of_ble_eq_true rfl) dX8_differs_53 ⟨Nat.le_of_ble_eq_true rfl, Nat.le_of_ble_eq_true rfl⟩) hS (fun z35 u36 H locs p37 hw hS => ?_)
                obtain ⟨eu36, p37, hdfz35⟩ := p37
                subst eu36
                rw [hQ9]
                refine ret_i (mc := 0) (ms := 0) hx hb hr hlocks hw hS (by first | exact Nat.le_of_ble_eq_true rfl | omega) (by first | exact Nat.le_of_ble_eq_true rfl | omega) dX8_differs_56 ?_
                exact ⟨X23, Y24, rfl, hRX23, hFX23, hHY24, hCIX23, by omega, hRvX23, Or.inr ⟨(by rw [tyo_some y14]; (try delta Hid at *); omega), r19, r15, y18, y14, ⟨(by rw [← ezz1]; exact hTfX23), (by rw [← ezz1]; exact hRfX23), (by rw [← ezz1]; exact hVfX23)⟩, hgkX23, hdfz35⟩⟩
    · subst ez11
      refine x_if_eqT (tgt := 31) hx hb (by omega) (by decide) dX8_differs_12 (by decide) ?_
      refine lv_bipush (v := jI (-2)) hx hb dX8_differs_31 (by decide) ?_
      rw [hQ9]
      refine ret_i (mc := 0) (ms := 0) hx hb hr hlocks hw hS (by first | exact Nat.le_of_ble_eq_true rfl | omega) (by first | exact Nat.le_of_ble_eq_true rfl | omega) dX8_differs_33 ?_
      exact ⟨X, Y, rfl, hR, Frm.rf, Frm.rf, hCI, by omega, hRv, Or.inl ⟨(by exact (fun q9 => by (try delta Hid at *); omega)), by omega, rfl, rfl⟩⟩

set_option maxHeartbeats 4000000 in
set_option maxRecDepth 100000 in
theorem c_X8_judgeThings (l : Launch) (D : va_G) (tc : Nat → ClassId) (base : Nat) (ad : Nat → Int → Nat) (cnt : Nat → Int) (X : Nat → Int → Int → Int) (Y : Nat → Int → Int → Option Int) (ln : Int → Int) (hR : Rng X) (hFx : Fx cnt) (hLn : LnOK ln) (hCI : CInv cnt X Y ln) (f : Int) (hf : 0 ≤ f ∧ f ≤ 30) : KI l D tc base yX8_judgeThings wsX8_judgeThings ({ frames := 6, cells := 0, slots := 0, locals := 132 } : Room) [.ref (ad 0 0), .int (jI f)] (ad, cnt, X, Y, ln) 0 0 (fun z u => ∃ (X1 : Nat → Int → Int → Int), u = (ad, cnt, X1, Y, ln) ∧ Rng X1 ∧ Frm [3201, 3202, 3203, 3204] X X1 ∧ CInv cnt X1 Y ln ∧ (0 ≤ z ∧ z ≤ 10) ∧ ((z = 0 ∧ ∀ y, f ≤ y → y < X 0 0 3 → jdC X Y ln y 0) ∨ (z ≠ 0 ∧ ∃ y, f ≤ y ∧ y < X 0 0 3 ∧ (∀ y', f ≤ y' → y' < y → jdC X Y ln y' 0) ∧ jdC X Y ln y z))) := by
  refine K_of (cc := cX8_judgeThings) (maxL := 4) (ret := (some .int)) (by decide) rfl (Nat.le_of_ble_eq_true rfl) ?_
  intro p e s m below meth c ls hx hb hr hml hown hts hlocks hl hK hw hS
  have hown : s.vm.findClass RX8 = some m.cls := hown
  obtain ⟨av9, hav9⟩ : ∃ a9 : Array Value, a9 = ([.ref (ad 0 0), .int (jI f)] : List Value).toArray := ⟨_, rfl⟩
  rw [← hav9] at hts ⊢
  obtain ⟨Q9, hQ9⟩ : ∃ q9Q : State → Prop, q9Q = MQ below (QI D tc base (fun z u => ∃ (X1 : Nat → Int → Int → Int), u = (ad, cnt, X1, Y, ln) ∧ Rng X1 ∧ Frm [3201, 3202, 3203, 3204] X X1 ∧ CInv cnt X1 Y ln ∧ (0 ≤ z ∧ z ≤ 10) ∧ ((z = 0 ∧ ∀ y, f ≤ y → y < X 0 0 3 → jdC X Y ln y 0) ∨ (z ≠ 0 ∧ ∃ y, f ≤ y ∧ y < X 0 0 3 ∧ (∀ y', f ≤ y' → y' < y → jdC X Y ln y' 0) ∧ jdC X Y ln y z)))) av9 s 0 0 (frA base) := ⟨_, rfl⟩
  rw [← hQ9]
  have hi6 : ∀ w ∈ wsX60, w ∈ wsX8_judgeThings := fun w h => List.mem_cons_of_mem _ (List.mem_append_left _ (List.mem_append_left _ (List.mem_append_left _ (List.mem_append_left _ (List.mem_append_right _ h)))))
  have hf6 : fctx s m _ RX8 wsX8_judgeThings D tc RX6 TX6 4 6 := ⟨hts, hi6, hown, hK.1, rfl⟩
  have hi7 : ∀ w ∈ wsX70, w ∈ wsX8_judgeThings := fun w h => List.mem_cons_of_mem _ (List.mem_append_left _ (List.mem_append_left _ (List.mem_append_left _ (List.mem_append_right _ h))))
  have hf7 : fctx s m _ RX8 wsX8_judgeThings D tc RX7 TX7 8 7 := ⟨hts, hi7, hown, hK.1, rfl⟩
  have hi8 : ∀ w ∈ wsX80, w ∈ wsX8_judgeThings := fun w h => List.mem_cons_of_mem _ (List.mem_append_left _ (List.mem_append_left _ (List.mem_append_left _ (List.mem_append_left _ (List.mem_append_left _ (List.mem_append_right _ h))))))
  have hf8 : fctx s m _ RX8 wsX8_judgeThings D tc RX8 TX8 12 8 := ⟨hts, hi8, hown, hK.1, rfl⟩
  have lk17 := hts (.fieldLink RX8 17 (TX8 2).1 (TX8 2).2.1 (TX8 2).2.2.1) (gj_X8_judgeThings_0 _ (gp_1 gp_h))
  have lk58 := hts (.fieldLink RX8 58 (TX8 11).1 (TX8 11).2.1 (TX8 11).2.2.1) (gj_X8_judgeThings_0 _ (gp_1 (gp_1 gp_h)))
  have lk94 := hts (.fieldLink RX8 94 (TX8 3).1 (TX8 3).2.1 (TX8 3).2.2.1) (gj_X8_judgeThings_0 _ (gp_h))
  have lk97 := hts (.fieldLink RX8 97 (TX6 0).1 (TX6 0).2.1 (TX6 0).2.2.1) (gj_X8_judgeThings_0 _ (gp_1 (gp_1 (gp_1 gp_h))))
  have lk118 := hts (.fieldLink RX8 118 (TX7 7).1 (TX7 7).2.1 (TX7 7).2.2.1) (gj_X8_judgeThings_0 _ (gp_4 gp_h))
  have hc0 : cnt 0 = 1 := hFx.at 0 1 (by decide)
  have hc2 : cnt 2 = 1 := hFx.at 2 1 (by decide)
  have hc15 : cnt 15 = 30 := hFx.at 15 30 (by decide)
  have hc24 : cnt 24 = cnt 19 := hFx.2.1 24 (by decide)
  have hc32 : cnt 32 = 1 := hFx.at 32 1 (by decide)
  have hl : lv_has ls 4 [(0, .ref (ad 0 0)), (1, .int (jI f))] := hl
  have ftc : 0 ≤ X 0 0 3 ∧ X 0 0 3 ≤ 30 := hR 0 0 3
  have fty : 0 ≤ X 0 0 1 ∧ X 0 0 1 ≤ 8 := hR 0 0 1
  have hct : cnt 19 = X 0 0 1 := hCI.2.2.2.1.1
  have hfj : 0 ≤ X 29 0 3 ∧ X 29 0 3 ≤ 4 := hR 29 0 3
  have hfn : 0 ≤ X 29 0 1 ∧ X 29 0 1 ≤ 80 := hR 29 0 1
  refine lv_iload_n hx hb dX8_judgeThings_0 rfl (lv_at hl 1 rfl) ?_
  refine lv_istore_n (lv' := [(2, .int (jI f)), (0, .ref (ad 0 0)), (1, .int (jI f))]) hx hb dX8_judgeThings_1 rfl hl (by decide) rfl (fun ls hl => ?_)
  have lp2 : ∀ (nn : Nat) (x : Int) (H : Heap) (locs : List Loc) (ls : Array Slot), (30 - x) < (nn : Int) → (0 ≤ x ∧ x ≤ 30 ∧ f ≤ x) → (∀ y, f ≤ y → y < x → jdC X Y ln y 0) → wd D tc base (ad, cnt, X, Y, ln) H → va_S (frA base) s.heap H locs → lv_has ls 4 [(0, .ref (ad 0 0)), (1, .int (jI f)), (2, .int (jI x))] → W p l e ({ frames := 6, cells := 0, slots := 0, locals := 132 } : Room) s m av9 below meth c H locs 0 0 Q9 (F0 m 2 ls []) := by
    intro nn
    induction nn with
    | zero => intro x H locs ls hm hx2 hjt hw hS hl; exfalso; omega
    | succ nn ih2 =>
      intro x H locs ls hm hx2 hjt hw hS hl
      refine lv_iload_n hx hb dX8_judgeThings_2 rfl (lv_at hl 2 rfl) ?_
      refine lv_aload_n hx hb dX8_judgeThings_3 rfl (lv_at hl 0 rfl) ?_
      refine x_geti (jz := 3) hx hb hf8 hw (by first | exact Int.le_refl 0 | omega) (by first | exact zlt hc0 | omega) sl_0_3 rfl lk94 dX8_judgeThings_4 ?_
      have f1 : 0 ≤ X 0 0 3 ∧ X 0 0 3 ≤ 30 := hR 0 0 3
      refine x_icmp_ge (tgt := 69) hx hb (by omega) (by omega) dX8_judgeThings_7 (by decide) (fun c2 => ?_) (fun c2 => ?_)
      · refine lv_iconst (v := jI 0) hx hb dX8_judgeThings_69 rfl ?_
        rw [hQ9]
        refine ret_i (mc := 0) (ms := 0) hx hb hr hlocks hw hS (by first | exact Nat.le_of_ble_eq_true rfl | omega) (by first | exact Nat.le_of_ble_eq_true rfl | omega) dX8_judgeThings_70 ?_
        exact ⟨X, rfl, hR, Frm.rf, hCI, by omega, Or.inl ⟨rfl, fun y a b => hjt y a (by omega)⟩⟩
      · refine lv_aload_n hx hb dX8_judgeThings_10 rfl (lv_at hl 0 rfl) ?_
        refine lv_aload_n hx hb dX8_judgeThings_11 rfl (lv_at hl 0 rfl) ?_
        refine x_geto hx hb hf8 hw (by first | exact Int.le_refl 0 | omega) (by first | exact zlt hc0 | omega) sl_0_2 lk17 dX8_judgeThings_12 ?_
        refine lv_iload_n hx hb dX8_judgeThings_15 rfl (lv_at hl 2 rfl) ?_
        refine x_aald hx hb hK.1 hw (by first | exact Int.le_refl 0 | omega) (by first | exact zlt hc2 | omega) ar_2 rfl (len_E ar_2 (by first | exact Nat.ne_of_beq_eq_false rfl | decide)) (by omega) (by omega) (by omega) dX8_judgeThings_16 (fun y3 => ?_) (fun r4 y3 gr4 lr4 => ?_)
        · exfalso
          have h9 := hCI.1 x (by omega) (by omega); rw [h9] at y3; cases y3
        · have er4 : r4 = x := by have h9 := hCI.1 x (by omega) (by omega); rw [h9] at y3; cases y3; rfl
          rw [er4]
          refine gos_i (run_V (As := [.ref (ad 15 x)]) (rest := []) hx hb hml hown hts (c_X8_firstFailingCheck l D tc base ad cnt X Y ln hR hFx hLn hCI x (by omega) (by omega)) (cwV 1 hts gX8_judgeThings_X8_firstFailingCheck rfl rfl rfl (by first | exact hd_X8_firstFailingCheck | decide +kernel) ⟨Nat.le_of_ble_eq_true rfl, Nat.le_of_ble_eq_true rfl⟩) hK hw (by first | exact Int.le_refl 0 | omega) (by first | exact zlt hc0 | omega) sl_0_0 rfl rfl hl.1 rfl (Nat.le_of_ble_eq_true rfl) dX8_judgeThings_17 ⟨Nat.le_of_ble_eq_true rfl, Nat.le_of_ble_eq_true rfl⟩) hS (fun z5 u6 H locs p7 hw hS => ?_)
          obtain ⟨eu6, p7, hAz5, hBz5⟩ := p7
          subst eu6
          refine lv_istore_n (lv' := [(3, .int (jI z5)), (0, .ref (ad 0 0)), (1, .int (jI f)), (2, .int (jI x))]) hx hb dX8_judgeThings_20 rfl hl (by decide) rfl (fun ls hl => ?_)
          refine lv_iload_n hx hb dX8_judgeThings_21 rfl (lv_at hl 0 rfl) ?_
          refine lv_iconst (v := jI (-1)) hx hb dX8_judgeThings_22 rfl ?_
          refine x_icmp_eq (tgt := 63) hx hb (by omega) (by omega) dX8_judgeThings_23 (by decide) (fun c8 => ?_) (fun c8 => ?_)
          · refine lv_iinc (v := jI (x + 1)) (lv' := [(2, .int (jI (x + 1))), (3, .int (jI z5)), (0, .ref (ad 0 0)), (1, .int (jI f))]) hx hb dX8_judgeThings_63 hl (k := 3) rfl (jI_add _ _) (by decide) rfl (fun ls hl => ?_)
            refine lv_goto (tgt := 2) hx hb dX8_judgeThings_66 (by decide) ?_
            exact ih2 (x + 1) _ _ _ (by omega) (by omega) (fun y a b => if hy9 : y = x then (by rw [hy9]; rcases hBz5 with ⟨q1, q2⟩ | ⟨q1, -⟩; exact Or.inl ⟨rfl, q2⟩; exfalso; omega) else hjt y a (by omega)) hw hS (lv_sub hl [2, 3, 0] rfl)
          · refine lv_aload_n hx hb dX8_judgeThings_26 rfl (lv_at hl 1 rfl) ?_
            refine x_geto hx hb hf8 hw (by first | exact Int.le_refl 0 | omega) (by first | exact zlt hc0 | omega) sl_0_11 lk58 dX8_judgeThings_27 ?_
            refine lv_iload_n hx hb dX8_judgeThings_30 rfl (lv_at hl 3 rfl) ?_
            refine lv_iload_n hx hb dX8_judgeThings_31 rfl (lv_at hl 2 rfl) ?_
            refine x_isub hx hb dX8_judgeThings_32 ?_
            refine lv_iconst (v := jI (-1)) hx hb dX8_judgeThings_33 rfl ?_
            refine lv_iload_n hx hb dX8_judgeThings_34 rfl (lv_at hl 0 rfl) ?_
            refine gos_v (run_V (As := [.int (jI (x - f)), .int (jI (-1)), .int (jI z5)]) (rest := []) hx hb hml hown hts (c_X1_tell l D tc base ad cnt X Y ln hR hFx hLn hCI (x - f) (-1) z5 (by omega) (by omega) (by omega)) (cwV 3 hts gX8_judgeThings_X1_tell rfl rfl rfl (by first | exact hd_X1_tell | decide +kernel) ⟨Nat.le_of_ble_eq_true rfl, Nat.le_of_ble_eq_true rfl⟩) hK hw (by first | exact Int.le_refl 0 | omega) (by first | exact zlt hc32 | omega) sl_32_0 rfl rfl hl.1 rfl (Nat.le_of_ble_eq_true rfl) dX8_judgeThings_35 ⟨Nat.le_of_ble_eq_true rfl, Nat.le_of_ble_eq_true rfl⟩) hS (fun u10 H locs p11 hw hS => ?_)
            obtain ⟨X12, eu10, hRX12, hG13, hCIX12, p11⟩ := p11
            subst eu10
            have hFX12 : Frm [3201, 3202, 3203, 3204] X X12 := Frm.tr Frm.rf (Frm.mono hG13 (by first | exact nls_of rfl | decide))
            refine lv_aload_n hx hb dX8_judgeThings_38 rfl (lv_at hl 1 rfl) ?_
            refine lv_aload_n hx hb dX8_judgeThings_39 rfl (lv_at hl 1 rfl) ?_
            refine x_geto hx hb hf8 hw (by first | exact Int.le_refl 0 | omega) (by first | exact zlt hc0 | omega) sl_0_2 lk17 dX8_judgeThings_40 ?_
            refine lv_iload_n hx hb dX8_judgeThings_43 rfl (lv_at hl 3 rfl) ?_
            refine x_aald hx hb hK.1 hw (by first | exact Int.le_refl 0 | omega) (by first | exact zlt hc2 | omega) ar_2 rfl (len_E ar_2 (by first | exact Nat.ne_of_beq_eq_false rfl | decide)) (by omega) (by omega) (by omega) dX8_judgeThings_44 (fun y14 => ?_) (fun r15 y14 gr15 lr15 => ?_)
            · exfalso
              have h9 := hCI.1 x (by omega) (by omega); rw [h9] at y14; cases y14
            · have er15 : r15 = x := by have h9 := hCI.1 x (by omega) (by omega); rw [h9] at y14; cases y14; rfl
              rw [er15]
              refine lv_aload_n hx hb dX8_judgeThings_45 rfl (lv_at hl 1 rfl) ?_
              refine x_geto hx hb hf8 hw (by first | exact Int.le_refl 0 | omega) (by first | exact zlt hc0 | omega) sl_0_2 lk17 dX8_judgeThings_46 ?_
              refine lv_iload_n hx hb dX8_judgeThings_49 rfl (lv_at hl 3 rfl) ?_
              refine x_aald hx hb hK.1 hw (by first | exact Int.le_refl 0 | omega) (by first | exact zlt hc2 | omega) ar_2 rfl (len_E ar_2 (by first | exact Nat.ne_of_beq_eq_false rfl | decide)) (by omega) (by omega) (by omega) dX8_judgeThings_50 (fun y16 => ?_) (fun r17 y16 gr17 lr17 => ?_)
              · exfalso
                have h9 := hCI.1 x (by omega) (by omega); rw [h9] at y16; cases y16
              · have er17 : r17 = x := by have h9 := hCI.1 x (by omega) (by omega); rw [h9] at y16; cases y16; rfl
                rw [er17]
                refine x_getr (jz := 0) hx hb hf6 hw (by omega) (by omega) sl_15_0 rfl lk97 dX8_judgeThings_51 (fun y18 => ?_) (fun r19 y18 gr19 lr19 => ?_)
                · exfalso
                  exact absurd y18 (hCI.2.2.2.2.1 x (by omega) (by omega))
                · refine x_geto hx hb hf7 hw (by omega) (by omega) sl_19_7 lk118 dX8_judgeThings_54 ?_
                  refine lv_iload_n hx hb dX8_judgeThings_57 rfl (lv_at hl 0 rfl) ?_
                  have hlt := hAz5 r19 y18
                  refine x_aald hx hb hK.1 hw (by omega) (by omega) ar_24 rfl (len_E ar_24 (by first | exact Nat.ne_of_beq_eq_false rfl | decide)) (by omega) (by omega) (by omega) dX8_judgeThings_58 (fun y20 => ?_) (fun r21 y20 gr21 lr21 => ?_)
                  · exfalso
                    exact absurd y20 (hCI.2.2.2.2.2.1 r19 z5 (by omega) (by omega) (by omega) (by omega))
                  · have e22 : X12 0 0 3 = X 0 0 3 := by rw [hG13 0 0 3 (show 4 ∉ [3201, 3202, 3203, 3204] by first | exact nlm_ni rfl | decide)]
                    refine gos_i (run_V (As := [.ref (ad 15 x), .ref (ad 25 r21)]) (rest := []) hx hb hml hown hts (c_X8_failureOf l D tc base ad cnt X12 Y ln hRX12 hFx hLn hCIX12 x r21 (by omega) (by simp only [e22]; omega) (by omega)) (cwV 2 hts gX8_judgeThings_X8_failureOf rfl rfl rfl (by first | exact hd_X8_failureOf | decide +kernel) ⟨Nat.le_of_ble_eq_true rfl, Nat.le_of_ble_eq_true rfl⟩) hK hw (by first | exact Int.le_refl 0 | omega) (by first | exact zlt hc0 | omega) sl_0_0 rfl rfl hl.1 rfl (Nat.le_of_ble_eq_true rfl) dX8_judgeThings_59 ⟨Nat.le_of_ble_eq_true rfl, Nat.le_of_ble_eq_true rfl⟩) hS (fun z23 u24 H locs p25 hw hS => ?_)
                    obtain ⟨eu24, p25⟩ := p25
                    subst eu24
                    rw [hQ9]
                    refine ret_i (mc := 0) (ms := 0) hx hb hr hlocks hw hS (by first | exact Nat.le_of_ble_eq_true rfl | omega) (by first | exact Nat.le_of_ble_eq_true rfl | omega) dX8_judgeThings_62 ?_
                    have q26 : Frm [3201, 3202, 3203, 3204] X X12 := Frm.tr Frm.rf (Frm.mono hG13 (by first | exact nls_of rfl | decide))
                    have hck27 : z23 = ckC X Y ln x r21 := by have h9 := p25.2; rw [ckC_frm (ln := ln) q26 Frm.rf (N := []) (by decide) (by decide)] at h9; exact h9
                    exact ⟨X12, rfl, hRX12, hFX12, hCIX12, by omega, (by rcases hBz5 with ⟨q1, -⟩ | ⟨q1, q2, q3, q4⟩; exfalso; omega; rw [tyo_some y18, tyo_some y20] at q4; exact Or.inr ⟨by omega, x, by omega, by omega, hjt, Or.inr ⟨by omega, z5, q1, q2, q3, (by rw [tyo_some y18, tyo_some y20]; omega)⟩⟩)⟩
  exact lp2 (30 - f : Int).toNat.succ f _ _ _ (by omega) (by omega) (fun y a b => by omega) hw hS (lv_sub hl [1, 2, 0] rfl)
end
section
/-! the world grows -/
def up2 {α : Type} (f : Nat → Int → α) (KS : List Nat) (n : Int) (g : Nat → α) : Nat → Int → α := fun k i => if k ∈ KS ∧ i = n then g k else f k i
def upc (cnt : Nat → Int) (KS : List Nat) : Nat → Int := fun k => if k ∈ KS then cnt k + 1 else cnt k
theorem up2_s {α : Type} {f : Nat → Int → α} {KS : List Nat} {n : Int} {g : Nat → α} {k : Nat} (h : k ∈ KS) : up2 f KS n g k n = g k := by simp [up2, h]
theorem up2_k {α : Type} {f : Nat → Int → α} {KS : List Nat} {n : Int} {g : Nat → α} {k : Nat} (h : k ∉ KS) : up2 f KS n g k = f k := by funext i; simp [up2, h]
theorem up2_n {α : Type} {f : Nat → Int → α} {KS : List Nat} {n i : Int} {g : Nat → α} {k : Nat} (h : i ≠ n) : up2 f KS n g k i = f k i := by simp [up2, h]
theorem upc_s {cnt : Nat → Int} {KS : List Nat} {k : Nat} (h : k ∈ KS) : upc cnt KS k = cnt k + 1 := by simp [upc, h]
theorem upc_k {cnt : Nat → Int} {KS : List Nat} {k : Nat} (h : k ∉ KS) : upc cnt KS k = cnt k := by simp [upc, h]
theorem upc_le {cnt : Nat → Int} {KS : List Nat} {k : Nat} : cnt k ≤ upc cnt KS k := by unfold upc; split <;> omega
section GR
variable {D : va_G} {tc : Nat → ClassId} {base : Nat} {E F : va_W} {H : Heap} {ad ad1 ad2 : Nat → Int → Nat} {cnt cnt1 cnt2 : Nat → Int} {X X1 : Nat → Int → Int → Int} {Y Y1 : Nat → Int → Int → Option Int} {ln ln1 ln2 : Int → Int} {KS : List Nat} {n : Int} {f : Nat → Nat} {V : Nat → Int → Int}
theorem grow (hw : wx D tc base (ad, cnt, X, Y, ln) (E ++ F) H) (h0 : 0 ≤ n) (hn : ∀ k ∈ KS, cnt k = n) (ho : Own cnt) (hln : ∀ i, 0 ≤ i → i < cnt 27 → ln1 i = ln i) (hY : ∀ k i, 0 ≤ i → i < cnt k → Y1 k i = Y k i) (hrf : RefOK (upc cnt KS) Y1)
    (hF : F = wlE tc (up2 ad KS n f) (up2 X KS n V) Y1 ln1 (KS.map fun k => (k, n))) : wx D tc base (up2 ad KS n f, upc cnt KS, up2 X KS n V, Y1, ln1) E H := by
  refine adopt hw hF (fun k i g0 g1 => ?_) ho (fun k i => ?_) hrf
  · have hne : ¬ (k ∈ KS ∧ i = n) := fun q => by have := hn k q.1; omega
    exact ⟨by simp only [up2, if_neg hne], by simp only [up2, if_neg hne], hY k i g0 g1, fun e => hln i g0 (e ▸ g1)⟩
  · simp only [upc]
    by_cases hk : k ∈ KS
    · have := hn k hk
      rw [if_pos hk]
      constructor
      · intro h
        by_cases hi : i = n
        · exact Or.inr (List.mem_map.mpr ⟨k, hk, by rw [hi]⟩)
        · exact Or.inl (by omega)
      · rintro (h | h)
        · omega
        · obtain ⟨k', -, e⟩ := List.mem_map.mp h
          cases e
          omega
    · rw [if_neg hk]
      constructor
      · exact fun h => Or.inl h
      · rintro (h | h)
        · exact h
        · obtain ⟨k', hk', e⟩ := List.mem_map.mp h
          cases e
          exact absurd hk' hk
theorem refOK_up (h : RefOK cnt Y) (hk : ∀ k ∈ KS, ∀ j t, ¬ rfK k j t) : RefOK (upc cnt KS) Y := by
  intro k i j t r g0 g1 hr e
  by_cases hm : k ∈ KS
  · exact absurd hr (hk k hm j t)
  · rw [upc_k hm] at g1
    have := h k i j t r g0 g1 hr e
    have h2 : cnt t ≤ upc cnt KS t := upc_le
    omega
def Ext (ad : Nat → Int → Nat) (cnt : Nat → Int) (ln : Int → Int) (ad1 : Nat → Int → Nat) (cnt1 : Nat → Int) (ln1 : Int → Int) : Prop := (∀ k i, 0 ≤ i → i < cnt k → ad1 k i = ad k i) ∧ (∀ k, cnt k ≤ cnt1 k) ∧ (∀ i, 0 ≤ i → i < cnt 26 → ln1 i = ln i)
theorem Ext.rf : Ext ad cnt ln ad cnt ln := ⟨fun _ _ _ _ => rfl, fun _ => Int.le_refl _, fun _ _ _ => rfl⟩
theorem Ext.tr (h : Ext ad cnt ln ad1 cnt1 ln1) (g : Ext ad1 cnt1 ln1 ad2 cnt2 ln2) : Ext ad cnt ln ad2 cnt2 ln2 :=
  ⟨fun k i g0 g1 => (g.1 k i g0 (by have := h.2.1 k; omega)).trans (h.1 k i g0 g1), fun k => Int.le_trans (h.2.1 k) (g.2.1 k), fun i g0 g1 => (g.2.2 i g0 (by have := h.2.1 26; omega)).trans (h.2.2 i g0 g1)⟩
theorem ext_up (hn : ∀ k ∈ KS, cnt k = n) (hln : ∀ i, 0 ≤ i → i < cnt 26 → ln1 i = ln i) : Ext ad cnt ln (up2 ad KS n f) (upc cnt KS) ln1 := by
  refine ⟨fun k i g0 g1 => ?_, fun k => upc_le, hln⟩
  have hne : ¬ (k ∈ KS ∧ i = n) := fun q => by have := hn k q.1; omega
  simp only [up2, if_neg hne]
theorem rng_up (h : Rng X) (hV : ∀ k ∈ KS, ∀ j, (rg k j).1 ≤ V k j ∧ V k j ≤ (rg k j).2) : Rng (up2 X KS n V) := by
  intro k i j
  by_cases hc : k ∈ KS ∧ i = n
  · obtain ⟨h1, rfl⟩ := hc
    rw [up2_s h1]
    exact hV k h1 j
  · simp only [up2, if_neg hc]
    exact h k i j
theorem frm_up {M : List Nat} (hV : ∀ k ∈ KS, ∀ j, fcode k j ∉ M → V k j = X k n j) : Frm M X (up2 X KS n V) := by
  intro k i j hm
  by_cases hc : k ∈ KS ∧ i = n
  · obtain ⟨h1, rfl⟩ := hc
    rw [up2_s h1]
    exact hV k h1 j hm
  · simp only [up2, if_neg hc]
theorem fx_up (h : Fx cnt) (h1 : ∀ q ∈ fxL, q.1 ∉ KS) (h2 : (19 ∈ KS ↔ 20 ∈ KS) ∧ (19 ∈ KS ↔ 21 ∈ KS) ∧ (19 ∈ KS ↔ 22 ∈ KS) ∧ (19 ∈ KS ↔ 23 ∈ KS) ∧ (19 ∈ KS ↔ 24 ∈ KS) ∧ (26 ∈ KS ↔ 27 ∈ KS)) : Fx (upc cnt KS) := by
  refine ⟨fun q hq => by rw [upc_k (h1 q hq)]; exact h.1 q hq, fun k hk => ?_, ?_⟩
  · have h3 := h.2.1 k hk
    have h4 : 19 ∈ KS ↔ k ∈ KS := by
      simp only [List.mem_cons, List.not_mem_nil, or_false] at hk
      rcases hk with rfl | rfl | rfl | rfl | rfl
      · exact h2.1
      · exact h2.2.1
      · exact h2.2.2.1
      · exact h2.2.2.2.1
      · exact h2.2.2.2.2.1
    unfold upc
    by_cases hm : k ∈ KS
    · rw [if_pos hm, if_pos (h4.mpr hm), h3]
    · rw [if_neg hm, if_neg (fun q => hm (h4.mp q)), h3]
  · have h3 := h.2.2
    unfold upc
    by_cases hm : 27 ∈ KS
    · rw [if_pos hm, if_pos (h2.2.2.2.2.2.mpr hm), h3]
    · rw [if_neg hm, if_neg (fun q => hm (h2.2.2.2.2.2.mp q)), h3]
theorem own_up (h : Own cnt) (hFx : Fx (upc cnt KS)) (h1 : ∀ k ∈ KS, ¬ ((lay k).1 = 0 ∧ (lay k).2.2.1.1 = 9)) : Own (upc cnt KS) :=
  ⟨hFx.own, fun k g1 g2 => by rw [upc_k (fun q => h1 k q ⟨g1, g2⟩)]; exact h.2 k g1 g2⟩
theorem cinv_ext (h : CInv cnt X Y ln) (hFx : Fx cnt) (hR : Rng X) (hrf : RefOK cnt Y) (h19 : cnt1 19 = cnt 19) (hln : ∀ i, 0 ≤ i → i < cnt 26 → ln1 i = ln i) : CInv cnt1 X Y ln1 := by
  obtain ⟨a1, a2, a3, a4, a5, a6, a7, a8⟩ := h
  refine ⟨a1, a2, a3, ⟨by rw [h19]; exact a4.1, a4.2⟩, a5, a6, a7, fun n n0 n1 => ?_⟩
  obtain ⟨b1, b2⟩ := a8 n n0 n1
  refine ⟨b1, fun hy w hw => ?_⟩
  have h80 : 0 ≤ X 29 0 1 ∧ X 29 0 1 ≤ 80 := hR 29 0 1
  have hc : cnt 28 = 80 := hFx.at 28 80 (by decide)
  obtain ⟨g0, g1⟩ := hrf 28 n 3 26 w n0 (by omega) (Or.inr ⟨by decide +kernel, by decide +kernel⟩) hw
  rw [hln w g0 g1]
  exact b2 hy w hw
end GR
theorem rf26 : ∀ k ∈ [26, 27], ∀ j t, ¬ rfK k j t := by
  intro k hk j t h
  simp only [List.mem_cons, List.not_mem_nil, or_false] at hk
  rcases hk with rfl | rfl
  · rcases h with ⟨h1, -⟩ | ⟨-, h2⟩
    · exact absurd h1 (by decide +kernel)
    · have h3 : ∀ c ∈ (lay 26).2.1, c.1 ≠ 4 := by decide +kernel
      unfold slo at h2
      by_cases hj : j < (lay 26).2.1.length
      · rw [List.getD_eq_getElem?_getD, List.getElem?_eq_getElem hj, Option.getD_some] at h2
        exact h3 _ (List.getElem_mem hj) (by rw [h2])
      · rw [List.getD_eq_getElem?_getD, List.getElem?_eq_none (by omega)] at h2
        cases h2
  · rcases h with ⟨-, h2, -⟩ | ⟨h1, -⟩
    · exact absurd h2 (by decide +kernel)
    · exact absurd (by decide +kernel) h1
theorem rf25 : ∀ k ∈ [25], ∀ j t, ¬ rfK k j t := by
  intro k hk j t h
  simp only [List.mem_cons, List.not_mem_nil, or_false] at hk
  subst hk
  rcases h with ⟨h1, -⟩ | ⟨-, h2⟩
  · exact absurd h1 (by decide +kernel)
  · have h3 : ∀ c ∈ (lay 25).2.1, c.1 ≠ 4 := by decide +kernel
    unfold slo at h2
    by_cases hj : j < (lay 25).2.1.length
    · rw [List.getD_eq_getElem?_getD, List.getElem?_eq_getElem hj, Option.getD_some] at h2
      exact h3 _ (List.getElem_mem hj) (by rw [h2])
    · rw [List.getD_eq_getElem?_getD, List.getElem?_eq_none (by omega)] at h2
      cases h2
theorem fcode26 (j : Int) : fcode 26 j = 2600 + 1 + j.toNat := by
  unfold fcode
  rw [if_neg (by decide +kernel)]
theorem fcode25 (j : Int) : fcode 25 j = 2500 + 1 + j.toNat := by
  unfold fcode
  rw [if_neg (by decide +kernel)]
theorem fcode28 (j : Int) : fcode 28 j = 2800 + 1 + j.toNat := by
  unfold fcode
  rw [if_neg (by decide +kernel)]
theorem fcode27 (j : Int) : fcode 27 j = 2700 := by
  unfold fcode
  rw [if_pos (by decide +kernel)]
theorem born_row {D : va_G} {tc : Nat → ClassId} {base : Nat} {H : Heap} {ad : Nat → Int → Nat} {cnt : Nat → Int} {X : Nat → Int → Int → Int} {Y : Nat → Int → Int → Option Int} {ln : Int → Int} {h0 q : Nat} {n : Int}
    (hw : wx D tc base (ad, cnt, X, Y, ln) [(h0, .inr (5, [.ref q, .int 0])), (q, .inl (tc 1, (n : Int).toNat, .inr (.inl (fun _ => 0))))] H) (hn : 0 ≤ n ∧ n ≤ 12) (hFx : Fx cnt) (hOw : Own cnt) (hc0 : 0 ≤ cnt 26) (hR : Rng X) (hLn : LnOK ln) (hCI : CInv cnt X Y ln) :
    ∃ (ad1 : Nat → Int → Nat) (cnt1 : Nat → Int) (X1 : Nat → Int → Int → Int) (ln1 : Int → Int), wd D tc base (ad1, cnt1, X1, Y, ln1) H ∧ Ext ad cnt ln ad1 cnt1 ln1 ∧ Fx cnt1 ∧ Own cnt1 ∧ LnOK ln1 ∧ Rng X1 ∧ Frm [2602, 2700] X X1 ∧ CInv cnt1 X1 Y ln1 ∧ cnt1 26 = cnt 26 + 1 ∧ ad1 26 (cnt 26) = h0 ∧ ln1 (cnt 26) = n ∧ (∀ j, X1 27 (cnt 26) j = 0) ∧ (∀ (k : Nat) (i : Int), i ≠ cnt 26 → X1 k i = X k i) := by
  have hrf := wd_ref (wx_wd hw)
  have h27 := hFx.2.2
  have hKn : ∀ k ∈ [26, 27], cnt k = cnt 26 := by
    intro k hk
    simp only [List.mem_cons, List.not_mem_nil, or_false] at hk
    rcases hk with rfl | rfl
    · rfl
    · exact h27
  have hl1 : ∀ i, 0 ≤ i → i < cnt 26 → (fun i => if i = cnt 26 then n else ln i) i = ln i := fun i g0 g1 => by simp only [if_neg (show ¬ i = cnt 26 by omega)]
  have hFx1 : Fx (upc cnt [26, 27]) := fx_up hFx (by decide) (by decide)
  have hF1 : Frm [2602, 2700] X (up2 X [26, 27] (cnt 26) (fun k j => if k = 26 ∧ j ≠ 1 then X 26 (cnt 26) j else 0)) := frm_up (fun k hk j hm => by
    simp only [List.mem_cons, List.not_mem_nil, or_false] at hk hm
    rcases hk with rfl | rfl
    · rw [fcode26] at hm
      by_cases hj : j = 1
      · subst hj
        exact absurd (Or.inl (by decide)) hm
      · simp only [if_pos (And.intro trivial hj), true_and, if_pos hj, ne_eq, hj, not_false_eq_true, ite_true]
    · rw [fcode27] at hm
      exact absurd (Or.inr rfl) hm)
  have hR1 : Rng (up2 X [26, 27] (cnt 26) (fun k j => if k = 26 ∧ j ≠ 1 then X 26 (cnt 26) j else 0)) := rng_up hR (fun k hk j => by
    simp only [List.mem_cons, List.not_mem_nil, or_false] at hk
    rcases hk with rfl | rfl
    · by_cases hj : j = 1
      · subst hj
        have h1 : (rg 26 1).1 ≤ 0 ∧ 0 ≤ (rg 26 1).2 := by decide +kernel
        simpa using h1
      · simp only [true_and, ne_eq, hj, not_false_eq_true, ite_true]
        exact hR 26 (cnt 26) j
    · have h1 : ∀ j, rg 27 j = rg 27 0 := fun j => by
        unfold rg
        rw [if_pos (by decide +kernel), if_pos (by decide +kernel)]
      have h2 : (rg 27 0).1 ≤ 0 ∧ 0 ≤ (rg 27 0).2 := by decide +kernel
      rw [h1 j]
      simpa using h2)
  refine ⟨up2 ad [26, 27] (cnt 26) (fun k => if k = 26 then h0 else q), upc cnt [26, 27], up2 X [26, 27] (cnt 26) (fun k j => if k = 26 ∧ j ≠ 1 then X 26 (cnt 26) j else 0), (fun i => if i = cnt 26 then n else ln i), wx_wd (grow (E := []) hw hc0 hKn hOw (fun i g0 g1 => hl1 i g0 (by omega)) (fun _ _ _ _ => rfl) (refOK_up hrf rf26) ?_), ext_up hKn hl1, hFx1, own_up hOw hFx1 (by decide +kernel), ?_, hR1, hF1, ?_, upc_s (by decide), by rw [up2_s (by decide)]; rfl, by simp, fun j => by rw [up2_s (by decide)]; simp, fun k i hi => up2_n hi⟩
  · have e1 : ceE tc (up2 ad [26, 27] (cnt 26) (fun k => if k = 26 then h0 else q)) (up2 X [26, 27] (cnt 26) (fun k j => if k = 26 ∧ j ≠ 1 then X 26 (cnt 26) j else 0)) Y (fun i => if i = cnt 26 then n else ln i) 26 (cnt 26) = .inr (5, [.ref q, .int 0]) := by
      rw [ob_E sl_26_0]
      have t0 : slo 26 0 = (3, 27) := sl_26_0.2.2.1
      have t1 : slo 26 1 = (0, 0) := sl_26_1.2.2.1
      simp only [List.range, List.range.loop, List.map, slV, t0, t1]
      rw [up2_s (by decide)]
      simp [up2]
      rfl
    have e2 : ceE tc (up2 ad [26, 27] (cnt 26) (fun k => if k = 26 then h0 else q)) (up2 X [26, 27] (cnt 26) (fun k j => if k = 26 ∧ j ≠ 1 then X 26 (cnt 26) j else 0)) Y (fun i => if i = cnt 26 then n else ln i) 27 (cnt 26) = .inl (tc 1, n.toNat, .inr (.inl (fun _ => 0))) := by
      rw [ar_lE ar_27]
      rw [up2_s (by decide)]
      simp [lenE]
      funext q
      rfl
    simp only [wlE, List.map, e1, e2]
    rw [up2_s (by decide), up2_s (by decide)]
    rfl
  · intro i
    dsimp only
    split
    · exact hn
    · exact hLn i
  · exact cinv_ext (cinv_frm (M := [2602, 2700]) (N := []) hCI hF1 Frm.rf (by decide) (by decide)) hFx hR1 hrf (upc_k (by decide)) hl1
end
section
/-! a check, a type -/
theorem no_rf (k : Nat) (h1 : (lay k).1 ≠ 0 ∨ (lay k).2.2.1.1 ≠ 4) (h2 : ∀ c ∈ (lay k).2.1, c.1 ≠ 4) : ∀ j t, ¬ rfK k j t := by
  intro j t h
  rcases h with ⟨g1, g2, -⟩ | ⟨-, g2⟩
  · rcases h1 with h1 | h1
    · exact h1 g1
    · exact h1 g2
  · unfold slo at g2
    by_cases hj : j < (lay k).2.1.length
    · rw [List.getD_eq_getElem?_getD, List.getElem?_eq_getElem hj, Option.getD_some] at g2
      exact h2 _ (List.getElem_mem hj) (by rw [g2])
    · rw [List.getD_eq_getElem?_getD, List.getElem?_eq_none (by omega)] at g2
      cases g2
theorem rg_arr (k : Nat) (h : (rgL.getD k []).length = 1) (j : Int) : rg k j = rg k 0 := by
  unfold rg
  rw [if_pos h, if_pos h]
theorem fc_arr (k : Nat) (h : (lay k).1 = 0) (j : Int) : fcode k j = k * 100 := by
  unfold fcode
  rw [if_pos h]
theorem fc_obj (k : Nat) (h : (lay k).1 ≠ 0) (j : Int) : fcode k j = k * 100 + 1 + j.toNat := by
  unfold fcode
  rw [if_neg h]
theorem born_check {D : va_G} {tc : Nat → ClassId} {base : Nat} {H : Heap} {ad : Nat → Int → Nat} {cnt : Nat → Int} {X : Nat → Int → Int → Int} {Y : Nat → Int → Int → Option Int} {ln : Int → Int} {h0 : Nat} {kd a b v : Int}
    (hw : wx D tc base (ad, cnt, X, Y, ln) [(h0, .inr (0, [.int (jI kd), .int (jI a), .int (jI b), .long (jL v)]))] H) (hk : 0 ≤ kd ∧ kd ≤ 5) (ha : 0 ≤ a ∧ a ≤ 4) (hb : 0 ≤ b ∧ b ≤ 4) (hv : -9223372036854775808 ≤ v ∧ v ≤ 9223372036854775807) (hFx : Fx cnt) (hOw : Own cnt) (hc0 : 0 ≤ cnt 25) (hR : Rng X) (hLn : LnOK ln) (hCI : CInv cnt X Y ln) :
    ∃ (ad1 : Nat → Int → Nat) (cnt1 : Nat → Int) (X1 : Nat → Int → Int → Int) (ln1 : Int → Int), wd D tc base (ad1, cnt1, X1, Y, ln1) H ∧ Ext ad cnt ln ad1 cnt1 ln1 ∧ Fx cnt1 ∧ Own cnt1 ∧ LnOK ln1 ∧ Rng X1 ∧ Frm [2501, 2502, 2503, 2504] X X1 ∧ CInv cnt1 X1 Y ln1 ∧ cnt1 25 = cnt 25 + 1 ∧ ad1 25 (cnt 25) = h0 ∧ (X1 25 (cnt 25) 0 = kd ∧ X1 25 (cnt 25) 1 = a ∧ X1 25 (cnt 25) 2 = b ∧ X1 25 (cnt 25) 3 = v) ∧ (∀ (k : Nat) (i : Int), i ≠ cnt 25 → X1 k i = X k i) := by
  have hrf := wd_ref (wx_wd hw)
  have hKn : ∀ k ∈ [25], cnt k = cnt 25 := by
    intro k hk
    simp only [List.mem_cons, List.not_mem_nil, or_false] at hk
    subst hk
    rfl
  have hFx1 : Fx (upc cnt [25]) := fx_up hFx (by decide) (by decide)
  have h4 : ∀ j : Int, j = 0 ∨ j = 1 ∨ j = 2 ∨ j = 3 ∨ (j ≠ 0 ∧ j ≠ 1 ∧ j ≠ 2 ∧ j ≠ 3) := fun j => by omega
  have hF1 : Frm [2501, 2502, 2503, 2504] X (up2 X [25] (cnt 25) (fun _ j => if j = 0 then kd else if j = 1 then a else if j = 2 then b else if j = 3 then v else X 25 (cnt 25) j)) := frm_up (fun k hk j hm => by
    simp only [List.mem_cons, List.not_mem_nil, or_false] at hk hm
    subst hk
    rw [fc_obj 25 (by decide +kernel)] at hm
    rcases h4 j with rfl | rfl | rfl | rfl | ⟨g0, g1, g2, g3⟩
    · exact absurd (by decide) hm
    · exact absurd (by decide) hm
    · exact absurd (by decide) hm
    · exact absurd (by decide) hm
    · simp only [g0, g1, g2, g3, if_false])
  have hR1 : Rng (up2 X [25] (cnt 25) (fun _ j => if j = 0 then kd else if j = 1 then a else if j = 2 then b else if j = 3 then v else X 25 (cnt 25) j)) := rng_up hR (fun k hk1 j => by
    simp only [List.mem_cons, List.not_mem_nil, or_false] at hk1
    subst hk1
    rcases h4 j with rfl | rfl | rfl | rfl | ⟨g0, g1, g2, g3⟩
    · exact (show (0 : Int) ≤ kd ∧ kd ≤ 5 from hk)
    · exact (show (0 : Int) ≤ a ∧ a ≤ 4 from ha)
    · exact (show (0 : Int) ≤ b ∧ b ≤ 4 from hb)
    · exact hv
    · simp only [g0, g1, g2, g3, if_false]
      exact hR 25 (cnt 25) j)
  refine ⟨up2 ad [25] (cnt 25) (fun _ => h0), upc cnt [25], up2 X [25] (cnt 25) (fun _ j => if j = 0 then kd else if j = 1 then a else if j = 2 then b else if j = 3 then v else X 25 (cnt 25) j), ln, wx_wd (grow (E := []) hw hc0 hKn hOw (fun _ _ _ => rfl) (fun _ _ _ _ => rfl) (refOK_up hrf rf25) ?_), ext_up hKn (fun _ _ _ => rfl), hFx1, own_up hOw hFx1 (by decide +kernel), hLn, hR1, hF1, ?_, upc_s (by decide), by rw [up2_s (by decide)], ⟨by rw [up2_s (by decide)]; rfl, by rw [up2_s (by decide)]; rfl, by rw [up2_s (by decide)]; rfl, by rw [up2_s (by decide)]; rfl⟩, fun k i hi => up2_n hi⟩
  · have e1 : ceE tc (up2 ad [25] (cnt 25) (fun _ => h0)) (up2 X [25] (cnt 25) (fun _ j => if j = 0 then kd else if j = 1 then a else if j = 2 then b else if j = 3 then v else X 25 (cnt 25) j)) Y ln 25 (cnt 25) = .inr (0, [.int (jI kd), .int (jI a), .int (jI b), .long (jL v)]) := by
      rw [ob_E sl_25_0]
      have t0 : slo 25 0 = (0, 0) := sl_25_0.2.2.1
      have t1 : slo 25 1 = (0, 0) := sl_25_1.2.2.1
      have t2 : slo 25 2 = (0, 0) := sl_25_2.2.2.1
      have t3 : slo 25 3 = (1, 0) := sl_25_3.2.2.1
      simp only [List.range, List.range.loop, List.map, slV, t0, t1, t2, t3]
      rw [up2_s (by decide)]
      rfl
    simp only [wlE, List.map, e1]
    rw [up2_s (by decide)]
  · exact cinv_ext (cinv_frm (M := [2501, 2502, 2503, 2504]) (N := []) hCI hF1 Frm.rf (by decide) (by decide)) hFx hR1 hrf (upc_k (by decide)) (fun _ _ _ => rfl)
theorem born_type {D : va_G} {tc : Nat → ClassId} {base : Nat} {H : Heap} {ad : Nat → Int → Nat} {cnt : Nat → Int} {X : Nat → Int → Int → Int} {Y : Nat → Int → Int → Option Int} {ln : Int → Int} {h0 q1 q2 q3 q4 q5 : Nat} {n : Int}
    (hw : wx D tc base (ad, cnt, X, Y, ln) [(h0, .inr (7, [.int (jI n), .int 0, .ref q1, .ref q2, .ref q3, .ref q4, .int 0, .ref q5])), (q1, .inl (tc 0, (5 : Int).toNat, .inl (fun _ => 0))), (q2, .inl (tc 0, (5 : Int).toNat, .inl (fun _ => 0))), (q3, .inl (tc 1, (5 : Int).toNat, .inr (.inl (fun _ => 0)))), (q4, .inl (tc 2, (5 : Int).toNat, .inl (fun _ => 0))), (q5, .inl (tc 3, (4 : Int).toNat, .inr (.inr (.inr (.inr (fun _ => none))))))] H) (hn : 0 ≤ n ∧ n ≤ 7) (hFx : Fx cnt) (hOw : Own cnt) (hc0 : 0 ≤ cnt 19) (hR : Rng X) (hLn : LnOK ln) :
    ∃ (ad1 : Nat → Int → Nat) (cnt1 : Nat → Int) (X1 : Nat → Int → Int → Int) (Y1 : Nat → Int → Int → Option Int) (ln1 : Int → Int), wd D tc base (ad1, cnt1, X1, Y1, ln1) H ∧ Ext ad cnt ln ad1 cnt1 ln1 ∧ Fx cnt1 ∧ Own cnt1 ∧ LnOK ln1 ∧ Rng X1 ∧ Frm [1901, 1902, 1907, 2000, 2100, 2200, 2300] X X1 ∧ Frm [2400] Y Y1 ∧ cnt1 19 = cnt 19 + 1 ∧ ad1 19 (cnt 19) = h0 ∧ X1 19 (cnt 19) 0 = n ∧ X1 19 (cnt 19) 6 = 0 ∧ (∀ i, i ≠ cnt 19 → X1 19 i = X 19 i) ∧ (∀ i, i ≠ cnt 19 → Y1 24 i = Y 24 i) ∧ (∀ w, ln1 w = ln w) ∧ X1 19 (cnt 19) 1 = 0 ∧ (∀ k i, i ≠ cnt 19 → X1 k i = X k i) := by
  have hrf := wd_ref (wx_wd hw)
  have hKn : ∀ k ∈ [19, 20, 21, 22, 23, 24], cnt k = cnt 19 := by
    intro k hk
    by_cases h19 : k = 19
    · rw [h19]
    · refine hFx.2.1 k ?_
      simp only [List.mem_cons, List.not_mem_nil, or_false] at hk ⊢
      omega
  have hFx1 : Fx (upc cnt [19, 20, 21, 22, 23, 24]) := fx_up hFx (by decide) (by decide)
  have hF1 : Frm [1901, 1902, 1907, 2000, 2100, 2200, 2300] X (up2 X [19, 20, 21, 22, 23, 24] (cnt 19) (fun k j => if k = 19 then (if j = 0 then n else if j = 1 ∨ j = 6 then 0 else X 19 (cnt 19) j) else if k = 24 then X 24 (cnt 19) j else 0)) := frm_up (fun k hk j hm => by
    simp only [List.mem_cons, List.not_mem_nil, or_false] at hk hm
    rcases hk with rfl | rfl | rfl | rfl | rfl | rfl
    · rw [fc_obj 19 (by decide +kernel)] at hm
      have h4 : j = 0 ∨ j = 1 ∨ j = 6 ∨ (j ≠ 0 ∧ j ≠ 1 ∧ j ≠ 6) := by omega
      rcases h4 with rfl | rfl | rfl | ⟨g0, g1, g2⟩
      · exact absurd (by decide) hm
      · exact absurd (by decide) hm
      · exact absurd (by decide) hm
      · simp [g0, g1, g2]
    · rw [fc_arr 20 (by decide +kernel)] at hm; exact absurd (by decide) hm
    · rw [fc_arr 21 (by decide +kernel)] at hm; exact absurd (by decide) hm
    · rw [fc_arr 22 (by decide +kernel)] at hm; exact absurd (by decide) hm
    · rw [fc_arr 23 (by decide +kernel)] at hm; exact absurd (by decide) hm
    · simp)
  have hR1 : Rng (up2 X [19, 20, 21, 22, 23, 24] (cnt 19) (fun k j => if k = 19 then (if j = 0 then n else if j = 1 ∨ j = 6 then 0 else X 19 (cnt 19) j) else if k = 24 then X 24 (cnt 19) j else 0)) := rng_up hR (fun k hk1 j => by
    simp only [List.mem_cons, List.not_mem_nil, or_false] at hk1
    rcases hk1 with rfl | rfl | rfl | rfl | rfl | rfl
    · have h4 : j = 0 ∨ j = 1 ∨ j = 6 ∨ (j ≠ 0 ∧ j ≠ 1 ∧ j ≠ 6) := by omega
      rcases h4 with rfl | rfl | rfl | ⟨g0, g1, g2⟩
      · exact (show (0 : Int) ≤ n ∧ n ≤ 7 from hn)
      · exact (show (rg 19 1).1 ≤ 0 ∧ 0 ≤ (rg 19 1).2 by decide +kernel)
      · exact (show (rg 19 6).1 ≤ 0 ∧ 0 ≤ (rg 19 6).2 by decide +kernel)
      · simpa [g0, g1, g2] using hR 19 (cnt 19) j
    · rw [rg_arr 20 (by decide +kernel)]; exact (show (rg 20 0).1 ≤ 0 ∧ 0 ≤ (rg 20 0).2 by decide +kernel)
    · rw [rg_arr 21 (by decide +kernel)]; exact (show (rg 21 0).1 ≤ 0 ∧ 0 ≤ (rg 21 0).2 by decide +kernel)
    · rw [rg_arr 22 (by decide +kernel)]; exact (show (rg 22 0).1 ≤ 0 ∧ 0 ≤ (rg 22 0).2 by decide +kernel)
    · rw [rg_arr 23 (by decide +kernel)]; exact (show (rg 23 0).1 ≤ 0 ∧ 0 ≤ (rg 23 0).2 by decide +kernel)
    · exact hR 24 (cnt 19) j)
  have hrf1 : RefOK (upc cnt [19, 20, 21, 22, 23, 24]) (up2 Y [24] (cnt 19) (fun _ _ => none)) := by
    intro k i j t r g0 g1 hr e
    by_cases hc : k ∈ [24] ∧ i = cnt 19
    · simp only [up2, if_pos hc] at e
      cases e
    · have e2 : Y k i j = some r := by simpa only [up2, if_neg hc] using e
      have hlt : i < cnt k := by
        by_cases hm : k ∈ [19, 20, 21, 22, 23, 24]
        · rw [upc_s hm] at g1
          have h5 := hKn k hm
          by_cases h24 : k = 24
          · have : i ≠ cnt 19 := fun q => hc ⟨by rw [h24]; decide, q⟩
            omega
          · exfalso
            have h6 : ∀ k ∈ [19, 20, 21, 22, 23], ∀ j t, ¬ rfK k j t := fun k hk => no_rf k (by
              have h7 : ∀ k ∈ [19, 20, 21, 22, 23], (lay k).1 ≠ 0 ∨ (lay k).2.2.1.1 ≠ 4 := by decide +kernel
              exact h7 k hk) (by
              have h7 : ∀ k ∈ [19, 20, 21, 22, 23], ∀ c ∈ (lay k).2.1, c.1 ≠ 4 := by decide +kernel
              exact h7 k hk)
            refine h6 k ?_ j t hr
            simp only [List.mem_cons, List.not_mem_nil, or_false] at hm ⊢
            omega
        · rw [upc_k hm] at g1
          exact g1
      have := hrf k i j t r g0 hlt hr e2
      have h2 : cnt t ≤ upc cnt [19, 20, 21, 22, 23, 24] t := upc_le
      omega
  refine ⟨up2 ad [19, 20, 21, 22, 23, 24] (cnt 19) (fun k => if k = 19 then h0 else if k = 20 then q1 else if k = 21 then q2 else if k = 22 then q3 else if k = 23 then q4 else q5), upc cnt [19, 20, 21, 22, 23, 24], up2 X [19, 20, 21, 22, 23, 24] (cnt 19) (fun k j => if k = 19 then (if j = 0 then n else if j = 1 ∨ j = 6 then 0 else X 19 (cnt 19) j) else if k = 24 then X 24 (cnt 19) j else 0), up2 Y [24] (cnt 19) (fun _ _ => none), ln, wx_wd (grow (E := []) hw hc0 hKn hOw (fun _ _ _ => rfl) (fun k i g0 g1 => ?_) hrf1 ?_), ext_up hKn (fun _ _ _ => rfl), hFx1, own_up hOw hFx1 (by decide +kernel), hLn, hR1, hF1, fun k i j hm => ?_, upc_s (by decide), by rw [up2_s (by decide)]; rfl, by rw [up2_s (by decide)]; rfl, by rw [up2_s (by decide)]; rfl, fun i hi => up2_n hi, fun i hi => up2_n hi, fun _ => rfl, by rw [up2_s (by decide)]; rfl, fun k i hi => up2_n hi⟩
  · have hne : ¬ (k ∈ [24] ∧ i = cnt 19) := fun q => by
      have h1 : k = 24 := by simpa using q.1
      have := hKn k (by rw [h1]; decide)
      omega
    simp only [up2, if_neg hne]
  · have e0 : ceE tc (up2 ad [19, 20, 21, 22, 23, 24] (cnt 19) (fun k => if k = 19 then h0 else if k = 20 then q1 else if k = 21 then q2 else if k = 22 then q3 else if k = 23 then q4 else q5)) (up2 X [19, 20, 21, 22, 23, 24] (cnt 19) (fun k j => if k = 19 then (if j = 0 then n else if j = 1 ∨ j = 6 then 0 else X 19 (cnt 19) j) else if k = 24 then X 24 (cnt 19) j else 0)) (up2 Y [24] (cnt 19) (fun _ _ => none)) ln 19 (cnt 19) = .inr (7, [.int (jI n), .int 0, .ref q1, .ref q2, .ref q3, .ref q4, .int 0, .ref q5]) := by
      rw [ob_E sl_19_0]
      have t0 : slo 19 0 = (0, 0) := sl_19_0.2.2.1
      have t1 : slo 19 1 = (0, 0) := sl_19_1.2.2.1
      have t2 : slo 19 2 = (3, 20) := sl_19_2.2.2.1
      have t3 : slo 19 3 = (3, 21) := sl_19_3.2.2.1
      have t4 : slo 19 4 = (3, 22) := sl_19_4.2.2.1
      have t5 : slo 19 5 = (3, 23) := sl_19_5.2.2.1
      have t6 : slo 19 6 = (0, 0) := sl_19_6.2.2.1
      have t7 : slo 19 7 = (3, 24) := sl_19_7.2.2.1
      simp only [List.range, List.range.loop, List.map, slV, t0, t1, t2, t3, t4, t5, t6, t7]
      simp [up2]
      decide
    have e20 : ceE tc (up2 ad [19, 20, 21, 22, 23, 24] (cnt 19) (fun k => if k = 19 then h0 else if k = 20 then q1 else if k = 21 then q2 else if k = 22 then q3 else if k = 23 then q4 else q5)) (up2 X [19, 20, 21, 22, 23, 24] (cnt 19) (fun k j => if k = 19 then (if j = 0 then n else if j = 1 ∨ j = 6 then 0 else X 19 (cnt 19) j) else if k = 24 then X 24 (cnt 19) j else 0)) (up2 Y [24] (cnt 19) (fun _ _ => none)) ln 20 (cnt 19) = .inl (tc 0, (5 : Int).toNat, .inl (fun _ => 0)) := by
      rw [ar_iE ar_20, up2_s (by decide)]
      rw [show lenE ln 20 (cnt 19) = 5 from len_E ar_20 (by first | exact Nat.ne_of_beq_eq_false rfl | decide)]
      rfl
    have e21 : ceE tc (up2 ad [19, 20, 21, 22, 23, 24] (cnt 19) (fun k => if k = 19 then h0 else if k = 20 then q1 else if k = 21 then q2 else if k = 22 then q3 else if k = 23 then q4 else q5)) (up2 X [19, 20, 21, 22, 23, 24] (cnt 19) (fun k j => if k = 19 then (if j = 0 then n else if j = 1 ∨ j = 6 then 0 else X 19 (cnt 19) j) else if k = 24 then X 24 (cnt 19) j else 0)) (up2 Y [24] (cnt 19) (fun _ _ => none)) ln 21 (cnt 19) = .inl (tc 0, (5 : Int).toNat, .inl (fun _ => 0)) := by
      rw [ar_iE ar_21, up2_s (by decide)]
      rw [show lenE ln 21 (cnt 19) = 5 from len_E ar_21 (by first | exact Nat.ne_of_beq_eq_false rfl | decide)]
      rfl
    have e22 : ceE tc (up2 ad [19, 20, 21, 22, 23, 24] (cnt 19) (fun k => if k = 19 then h0 else if k = 20 then q1 else if k = 21 then q2 else if k = 22 then q3 else if k = 23 then q4 else q5)) (up2 X [19, 20, 21, 22, 23, 24] (cnt 19) (fun k j => if k = 19 then (if j = 0 then n else if j = 1 ∨ j = 6 then 0 else X 19 (cnt 19) j) else if k = 24 then X 24 (cnt 19) j else 0)) (up2 Y [24] (cnt 19) (fun _ _ => none)) ln 22 (cnt 19) = .inl (tc 1, (5 : Int).toNat, .inr (.inl (fun _ => 0))) := by
      rw [ar_lE ar_22, up2_s (by decide)]
      rw [show lenE ln 22 (cnt 19) = 5 from len_E ar_22 (by first | exact Nat.ne_of_beq_eq_false rfl | decide)]
      rfl
    have e23 : ceE tc (up2 ad [19, 20, 21, 22, 23, 24] (cnt 19) (fun k => if k = 19 then h0 else if k = 20 then q1 else if k = 21 then q2 else if k = 22 then q3 else if k = 23 then q4 else q5)) (up2 X [19, 20, 21, 22, 23, 24] (cnt 19) (fun k j => if k = 19 then (if j = 0 then n else if j = 1 ∨ j = 6 then 0 else X 19 (cnt 19) j) else if k = 24 then X 24 (cnt 19) j else 0)) (up2 Y [24] (cnt 19) (fun _ _ => none)) ln 23 (cnt 19) = .inl (tc 2, (5 : Int).toNat, .inl (fun _ => 0)) := by
      rw [ar_iE ar_23, up2_s (by decide)]
      rw [show lenE ln 23 (cnt 19) = 5 from len_E ar_23 (by first | exact Nat.ne_of_beq_eq_false rfl | decide)]
      rfl
    have e24 : ceE tc (up2 ad [19, 20, 21, 22, 23, 24] (cnt 19) (fun k => if k = 19 then h0 else if k = 20 then q1 else if k = 21 then q2 else if k = 22 then q3 else if k = 23 then q4 else q5)) (up2 X [19, 20, 21, 22, 23, 24] (cnt 19) (fun k j => if k = 19 then (if j = 0 then n else if j = 1 ∨ j = 6 then 0 else X 19 (cnt 19) j) else if k = 24 then X 24 (cnt 19) j else 0)) (up2 Y [24] (cnt 19) (fun _ _ => none)) ln 24 (cnt 19) = .inl (tc 3, (4 : Int).toNat, .inr (.inr (.inr (.inr (fun _ => none))))) := by
      rw [ar_rE ar_24, up2_s (by decide)]
      rw [show lenE ln 24 (cnt 19) = 4 from len_E ar_24 (by first | exact Nat.ne_of_beq_eq_false rfl | decide)]
      rfl
    simp only [wlE, List.map, e0, e20, e21, e22, e23, e24]
    rw [up2_s (by decide), up2_s (by decide), up2_s (by decide), up2_s (by decide), up2_s (by decide), up2_s (by decide)]
    rfl
  · by_cases hc : k ∈ [24] ∧ i = cnt 19
    · exfalso
      have h1 : k = 24 := by simpa using hc.1
      rw [h1, fc_arr 24 (by decide +kernel)] at hm
      exact hm (by decide)
    · simp only [up2, if_neg hc]
end
