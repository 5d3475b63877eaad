section
set_option maxHeartbeats 4000000 in
set_option maxRecDepth 100000 in
theorem c_X8_recordNumberOf (l : Launch) (D : va_G) (tc : Nat → ClassId) (base : Nat) (ad : Nat → Int → Nat) (cnt : Nat → Int) (X : Nat → Int → Int → Int) (Y : Nat → Int → Int → Option Int) (ln : Int → Int) (hR : Rng X) (hFx : Fx cnt) (hLn : LnOK ln) (hCI : CInv cnt X Y ln) (x g : Int) (hx0 : 0 ≤ x ∧ x ≤ 29) (hxt : x < X 0 0 3) (hg : 0 ≤ g ∧ g < 6) (hO : rcOK X Y g) (sg : Nat → Int → Int) (hsg : rcT X Y g sg) : KI l D tc base yX8_recordNumberOf wsX8_recordNumberOf ({ frames := 0, cells := 0, slots := 0, locals := 0 } : Room) [.ref (ad 0 0), .ref (ad 15 x), .ref (ad 7 g)] (ad, cnt, X, Y, ln) 0 0 (fun z u => ∃ (X1 : Nat → Int → Int → Int) (Y1 : Nat → Int → Int → Option Int), u = (ad, cnt, X1, Y1, ln) ∧ Rng X1 ∧ Frm [1504, 701, 800, 900] X X1 ∧ Frm [500] Y Y1 ∧ CInv cnt X1 Y1 ln ∧ (0 ≤ z ∧ z ≤ 29) ∧ rcOK X1 Y1 g ∧ X 7 g 0 ≤ X1 7 g 0 ∧ z = (if nmAt (sg 1) x (sg 0 0).toNat = -1 then sg 0 0 else nmAt (sg 1) x (sg 0 0).toNat) ∧ rcT X1 Y1 g (if nmAt (sg 1) x (sg 0 0).toNat = -1 then u2 (u2 sg 1 (sg 0 0) x) 0 0 (sg 0 0 + 1) else sg) ∧ gK g X X1) := by
  refine K_of (cc := cX8_recordNumberOf) (maxL := 3) (ret := (some .int)) (by decide) rfl (Nat.le_of_ble_eq_true rfl) ?_
  intro p e s m below meth c ls hx hb hr hml hown hts hlocks hl hK hw hS
  have hown : s.vm.findClass RX8 = some m.cls := hown
  obtain ⟨av9, hav9⟩ : ∃ a9 : Array Value, a9 = ([.ref (ad 0 0), .ref (ad 15 x), .ref (ad 7 g)] : List Value).toArray := ⟨_, rfl⟩
  rw [← hav9] at hts ⊢
  obtain ⟨Q9, hQ9⟩ : ∃ q9Q : State → Prop, q9Q = MQ below (QI D tc base (fun z u => ∃ (X1 : Nat → Int → Int → Int) (Y1 : Nat → Int → Int → Option Int), u = (ad, cnt, X1, Y1, ln) ∧ Rng X1 ∧ Frm [1504, 701, 800, 900] X X1 ∧ Frm [500] Y Y1 ∧ CInv cnt X1 Y1 ln ∧ (0 ≤ z ∧ z ≤ 29) ∧ rcOK X1 Y1 g ∧ X 7 g 0 ≤ X1 7 g 0 ∧ z = (if nmAt (sg 1) x (sg 0 0).toNat = -1 then sg 0 0 else nmAt (sg 1) x (sg 0 0).toNat) ∧ rcT X1 Y1 g (if nmAt (sg 1) x (sg 0 0).toNat = -1 then u2 (u2 sg 1 (sg 0 0) x) 0 0 (sg 0 0 + 1) else sg) ∧ gK g X X1)) av9 s 0 0 (frA base) := ⟨_, rfl⟩
  rw [← hQ9]
  have hi4 : ∀ w ∈ wsX40, w ∈ wsX8_recordNumberOf := fun w h => List.mem_cons_of_mem _ (List.mem_append_left _ (List.mem_append_left _ (List.mem_append_right _ h)))
  have hf4 : fctx s m _ RX8 wsX8_recordNumberOf D tc RX4 TX4 9 4 := ⟨hts, hi4, hown, hK.1, rfl⟩
  have hi6 : ∀ w ∈ wsX60, w ∈ wsX8_recordNumberOf := fun w h => List.mem_cons_of_mem _ (List.mem_append_left _ (List.mem_append_left _ (List.mem_append_left _ (List.mem_append_right _ h))))
  have hf6 : fctx s m _ RX8 wsX8_recordNumberOf D tc RX6 TX6 4 6 := ⟨hts, hi6, hown, hK.1, rfl⟩
  have hi7 : ∀ w ∈ wsX70, w ∈ wsX8_recordNumberOf := fun w h => List.mem_cons_of_mem _ (List.mem_append_right _ h)
  have hf7 : fctx s m _ RX8 wsX8_recordNumberOf D tc RX7 TX7 8 7 := ⟨hts, hi7, hown, hK.1, rfl⟩
  have hi8 : ∀ w ∈ wsX80, w ∈ wsX8_recordNumberOf := fun w h => List.mem_cons_of_mem _ (List.mem_append_left _ (List.mem_append_right _ h))
  have hf8 : fctx s m _ RX8 wsX8_recordNumberOf D tc RX8 TX8 12 8 := ⟨hts, hi8, hown, hK.1, rfl⟩
  have lk39 := hts (.fieldLink RX8 39 (TX8 8).1 (TX8 8).2.1 (TX8 8).2.2.1) (gj_X8_recordNumberOf_0 _ (gp_1 (gp_1 gp_h)))
  have lk85 := hts (.fieldLink RX8 85 (TX7 1).1 (TX7 1).2.1 (TX7 1).2.2.1) (gj_X8_recordNumberOf_0 _ (gp_4 (gp_1 (gp_1 (gp_1 gp_h)))))
  have lk97 := hts (.fieldLink RX8 97 (TX6 0).1 (TX6 0).2.1 (TX6 0).2.2.1) (gj_X8_recordNumberOf_0 _ (gp_4 gp_h))
  have lk205 := hts (.fieldLink RX8 205 (TX7 0).1 (TX7 0).2.1 (TX7 0).2.2.1) (gj_X8_recordNumberOf_0 _ (gp_4 (gp_1 gp_h)))
  have lk231 := hts (.fieldLink RX8 231 (TX4 0).1 (TX4 0).2.1 (TX4 0).2.2.1) (gj_X8_recordNumberOf_0 _ (gp_1 gp_h))
  have lk333 := hts (.fieldLink RX8 333 (TX6 3).1 (TX6 3).2.1 (TX6 3).2.2.1) (gj_X8_recordNumberOf_0 _ (gp_h))
  have lk336 := hts (.fieldLink RX8 336 (TX4 1).1 (TX4 1).2.1 (TX4 1).2.2.1) (gj_X8_recordNumberOf_0 _ (gp_1 (gp_1 (gp_1 gp_h))))
  have lk338 := hts (.fieldLink RX8 338 (TX4 2).1 (TX4 2).2.1 (TX4 2).2.2.1) (gj_X8_recordNumberOf_0 _ (gp_4 (gp_1 (gp_1 gp_h))))
  have hc0 : cnt 0 = 1 := hFx.at 0 1 (by decide)
  have hc5 : cnt 5 = 1 := hFx.at 5 1 (by decide)
  have hc7 : cnt 7 = 6 := hFx.at 7 6 (by decide)
  have hc8 : cnt 8 = 6 := hFx.at 8 6 (by decide)
  have hc9 : cnt 9 = 6 := hFx.at 9 6 (by decide)
  have hc15 : cnt 15 = 30 := hFx.at 15 30 (by decide)
  have hl : lv_has ls 3 [(0, .ref (ad 0 0)), (1, .ref (ad 15 x)), (2, .ref (ad 7 g))] := hl
  have ftc : 0 ≤ X 0 0 3 ∧ X 0 0 3 ≤ 30 := hR 0 0 3
  have fty : 0 ≤ X 0 0 1 ∧ X 0 0 1 ≤ 8 := hR 0 0 1
  have hct : cnt 19 = X 0 0 1 := hCI.2.2.2.1.1
  have hfj : 0 ≤ X 29 0 3 ∧ X 29 0 3 ≤ 4 := hR 29 0 3
  have hfn : 0 ≤ X 29 0 1 ∧ X 29 0 1 ≤ 80 := hR 29 0 1
  have hsg1 : X 7 g 0 = sg 0 0 := hsg.1
  have hsg0 : 0 ≤ X 7 g 0 ∧ X 7 g 0 ≤ 30 := hR 7 g 0
  refine lv_aload_n hx hb dX8_recordNumberOf_0 rfl (lv_at hl 1 rfl) ?_
  refine x_geti (jz := 3) hx hb hf6 hw (by omega) (by omega) sl_15_3 rfl lk333 dX8_recordNumberOf_1 ?_
  have f1 : (-1) ≤ X 15 x 3 ∧ X 15 x 3 ≤ 29 := hR 15 x 3
  refine lv_iconst (v := jI (-1)) hx hb dX8_recordNumberOf_4 rfl ?_
  refine x_icmp_ne (tgt := 68) hx hb (by omega) (by omega) dX8_recordNumberOf_5 (by decide) (fun c2 => ?_) (fun c2 => ?_)
  · refine lv_aload_n hx hb dX8_recordNumberOf_68 rfl (lv_at hl 1 rfl) ?_
    skip
    refine x_geti (jz := 3) hx hb hf6 hw (by omega) (by omega) sl_15_3 rfl lk333 dX8_recordNumberOf_69 ?_
    have f3 : (-1) ≤ X 15 x 3 ∧ X 15 x 3 ≤ 29 := hR 15 x 3
    rw [hQ9]
    refine ret_i (mc := 0) (ms := 0) hx hb hr hlocks hw hS (by first | exact Nat.le_of_ble_eq_true rfl | omega) (by first | exact Nat.le_of_ble_eq_true rfl | omega) dX8_recordNumberOf_72 ?_
    have hnm4 : X 15 x 3 = nmAt (sg 1) x (sg 0 0).toNat := hsg.2.2 x (by omega) hxt
    exact ⟨X, Y, rfl, hR, Frm.rf, Frm.rf, hCI, by omega, hO, Int.le_refl _, (by rw [if_neg (by omega)]; omega), (by rw [if_neg (by omega)]; exact hsg), gK.rf⟩
  · have hrc : X 7 g 0 ≤ 29 := hO.room hR (by omega) hxt (by omega)
    refine lv_aload_n hx hb dX8_recordNumberOf_8 rfl (lv_at hl 1 rfl) ?_
    refine lv_aload_n hx hb dX8_recordNumberOf_9 rfl (lv_at hl 2 rfl) ?_
    refine x_geti (jz := 0) hx hb hf4 hw (by omega) (by omega) sl_7_0 rfl lk231 dX8_recordNumberOf_10 ?_
    have f5 : 0 ≤ X 7 g 0 ∧ X 7 g 0 ≤ 30 := hR 7 g 0
    refine x_puti (jz := 3) hx hb hf6 ⟨tyX6_ok, nmX6⟩ hw hS (by omega) (by omega) sl_15_3 rfl lk333 rfl (tyX6_ok 3 (by decide)) rfl rfl dX8_recordNumberOf_13 (fun H locs hw hS => ?_)
    obtain ⟨X6, hX6⟩ : ∃ Xq, Xq = u3 X 15 x 3 (X 7 g 0) := ⟨_, rfl⟩
    rw [← hX6] at hw
    have hRX6 : Rng X6 := by rw [hX6]; exact rng_set hR (show (-1) ≤ (X 7 g 0) ∧ (X 7 g 0) ≤ 29 by omega)
    have hVX6 : X6 15 x 3 = (X 7 g 0) := by rw [hX6]; exact u3_s _ _ _ _ _
    have hFX6 : Frm [1504, 701, 800, 900] X X6 := by rw [hX6]; exact Frm.set Frm.rf (show 1504 ∈ [1504, 701, 800, 900] by first | exact nlm_in rfl | decide)
    refine lv_aload_n hx hb dX8_recordNumberOf_16 rfl (lv_at hl 0 rfl) ?_
    refine x_geto hx hb hf8 hw (by first | exact Int.le_refl 0 | omega) (by first | exact zlt hc0 | omega) sl_0_8 lk39 dX8_recordNumberOf_17 ?_
    refine lv_aload_n hx hb dX8_recordNumberOf_20 rfl (lv_at hl 2 rfl) ?_
    refine x_geti (jz := 0) hx hb hf4 hw (by omega) (by omega) sl_7_0 rfl lk231 dX8_recordNumberOf_21 ?_
    have e7 : X6 7 g 0 = X 7 g 0 := by rw [hX6, u3_k _ _ _ _ (by first | exact Nat.ne_of_beq_eq_false rfl | decide)]
    rw [e7]
    have f8 : 0 ≤ X 7 g 0 ∧ X 7 g 0 ≤ 30 := hR 7 g 0
    refine lv_aload_n hx hb dX8_recordNumberOf_24 rfl (lv_at hl 1 rfl) ?_
    refine x_aast hx hb hK.1 hw hS (by first | exact Int.le_refl 0 | omega) (by first | exact zlt hc5 | omega) ar_5 rfl rfl sl_15_0 (len_E ar_5 (by first | exact Nat.ne_of_beq_eq_false rfl | decide)) (by omega) (by omega) (by omega) (by omega) (by omega) dX8_recordNumberOf_25 (fun H locs hw hS => ?_)
    obtain ⟨Y9, hY9⟩ : ∃ Yq, Yq = u3 Y 5 0 (X 7 g 0) (some x) := ⟨_, rfl⟩
    rw [← hY9] at hw
    have hVY9 : Y9 5 0 (X 7 g 0) = (some x) := by rw [hY9]; exact u3_s _ _ _ _ _
    have hHY9 : Frm [500] Y Y9 := by rw [hY9]; exact Frm.set Frm.rf (show 500 ∈ [500] by first | exact nlm_in rfl | decide)
    refine lv_aload_n hx hb dX8_recordNumberOf_26 rfl (lv_at hl 2 rfl) ?_
    refine x_geto hx hb hf4 hw (by omega) (by omega) sl_7_1 lk336 dX8_recordNumberOf_27 ?_
    refine lv_aload_n hx hb dX8_recordNumberOf_30 rfl (lv_at hl 2 rfl) ?_
    refine x_geti (jz := 0) hx hb hf4 hw (by omega) (by omega) sl_7_0 rfl lk231 dX8_recordNumberOf_31 ?_
    have e10 : X6 7 g 0 = X 7 g 0 := by rw [hX6, u3_k _ _ _ _ (by first | exact Nat.ne_of_beq_eq_false rfl | decide)]
    rw [e10]
    have f11 : 0 ≤ X 7 g 0 ∧ X 7 g 0 ≤ 30 := hR 7 g 0
    refine lv_aload_n hx hb dX8_recordNumberOf_34 rfl (lv_at hl 1 rfl) ?_
    refine x_getr (jz := 0) hx hb hf6 hw (by omega) (by omega) sl_15_0 rfl lk97 dX8_recordNumberOf_35 (fun y12 => ?_) (fun r13 y12 gr13 lr13 => ?_)
    · exfalso
      have e14 : Y9 15 x 0 = Y 15 x 0 := by rw [hY9, u3_k _ _ _ _ (by first | exact Nat.ne_of_beq_eq_false rfl | decide)]
      rw [e14] at y12
      exact absurd y12 (hCI.2.2.2.2.1 x (by omega) (by omega))
    · have e15 : Y9 15 x 0 = Y 15 x 0 := by rw [hY9, u3_k _ _ _ _ (by first | exact Nat.ne_of_beq_eq_false rfl | decide)]
      rw [e15] at y12
      refine x_geti (jz := 0) hx hb hf7 hw (by omega) (by omega) sl_19_0 rfl lk205 dX8_recordNumberOf_38 ?_
      have e16 : X6 19 r13 0 = X 19 r13 0 := by rw [hX6, u3_k _ _ _ _ (by first | exact Nat.ne_of_beq_eq_false rfl | decide)]
      rw [e16]
      have f17 : 0 ≤ X 19 r13 0 ∧ X 19 r13 0 ≤ 7 := hR 19 r13 0
      refine x_iast hx hb hK.1 hw hS (by omega) (by omega) ar_8 (len_E ar_8 (by first | exact Nat.ne_of_beq_eq_false rfl | decide)) (by omega) (by omega) (by omega) dX8_recordNumberOf_41 (fun H locs hw hS => ?_)
      obtain ⟨X18, hX18⟩ : ∃ Xq, Xq = u3 X6 8 g (X 7 g 0) (X 19 r13 0) := ⟨_, rfl⟩
      rw [← hX18] at hw
      have hRX18 : Rng X18 := by rw [hX18]; exact rng_set hRX6 (show 0 ≤ (X 19 r13 0) ∧ (X 19 r13 0) ≤ 7 by omega)
      have hVX18 : X18 8 g (X 7 g 0) = (X 19 r13 0) := by rw [hX18]; exact u3_s _ _ _ _ _
      have hFX18 : Frm [1504, 701, 800, 900] X X18 := by rw [hX18]; exact Frm.set hFX6 (show 800 ∈ [1504, 701, 800, 900] by first | exact nlm_in rfl | decide)
      refine lv_aload_n hx hb dX8_recordNumberOf_42 rfl (lv_at hl 2 rfl) ?_
      refine x_geto hx hb hf4 hw (by omega) (by omega) sl_7_2 lk338 dX8_recordNumberOf_43 ?_
      refine lv_aload_n hx hb dX8_recordNumberOf_46 rfl (lv_at hl 2 rfl) ?_
      refine x_geti (jz := 0) hx hb hf4 hw (by omega) (by omega) sl_7_0 rfl lk231 dX8_recordNumberOf_47 ?_
      have e19 : X18 7 g 0 = X 7 g 0 := by rw [hX18, u3_k _ _ _ _ (by first | exact Nat.ne_of_beq_eq_false rfl | decide), hX6, u3_k _ _ _ _ (by first | exact Nat.ne_of_beq_eq_false rfl | decide)]
      rw [e19]
      have f20 : 0 ≤ X 7 g 0 ∧ X 7 g 0 ≤ 30 := hR 7 g 0
      refine lv_aload_n hx hb dX8_recordNumberOf_50 rfl (lv_at hl 1 rfl) ?_
      refine x_getr (jz := 0) hx hb hf6 hw (by omega) (by omega) sl_15_0 rfl lk97 dX8_recordNumberOf_51 (fun y21 => ?_) (fun r22 y21 gr22 lr22 => ?_)
      · exfalso
        have e23 : Y9 15 x 0 = Y 15 x 0 := by rw [hY9, u3_k _ _ _ _ (by first | exact Nat.ne_of_beq_eq_false rfl | decide)]
        rw [e23] at y21
        rw [y12] at y21; cases y21
      · have e24 : Y9 15 x 0 = Y 15 x 0 := by rw [hY9, u3_k _ _ _ _ (by first | exact Nat.ne_of_beq_eq_false rfl | decide)]
        rw [e24] at y21
        have er22 : r22 = r13 := by rw [y12] at y21; cases y21; rfl
        rw [er22]
        refine x_geti (jz := 1) hx hb hf7 hw (by omega) (by omega) sl_19_1 rfl lk85 dX8_recordNumberOf_54 ?_
        have e25 : X18 19 r13 1 = X 19 r13 1 := by rw [hX18, u3_k _ _ _ _ (by first | exact Nat.ne_of_beq_eq_false rfl | decide), hX6, u3_k _ _ _ _ (by first | exact Nat.ne_of_beq_eq_false rfl | decide)]
        rw [e25]
        have f26 : 0 ≤ X 19 r13 1 ∧ X 19 r13 1 ≤ 5 := hR 19 r13 1
        refine x_iast hx hb hK.1 hw hS (by omega) (by omega) ar_9 (len_E ar_9 (by first | exact Nat.ne_of_beq_eq_false rfl | decide)) (by omega) (by omega) (by omega) dX8_recordNumberOf_57 (fun H locs hw hS => ?_)
        obtain ⟨X27, hX27⟩ : ∃ Xq, Xq = u3 X18 9 g (X 7 g 0) (X 19 r13 1) := ⟨_, rfl⟩
        rw [← hX27] at hw
        have hRX27 : Rng X27 := by rw [hX27]; exact rng_set hRX18 (show 0 ≤ (X 19 r13 1) ∧ (X 19 r13 1) ≤ 5 by omega)
        have hVX27 : X27 9 g (X 7 g 0) = (X 19 r13 1) := by rw [hX27]; exact u3_s _ _ _ _ _
        have hFX27 : Frm [1504, 701, 800, 900] X X27 := by rw [hX27]; exact Frm.set hFX18 (show 900 ∈ [1504, 701, 800, 900] by first | exact nlm_in rfl | decide)
        refine lv_aload_n hx hb dX8_recordNumberOf_58 rfl (lv_at hl 2 rfl) ?_
        refine lv_dup hx hb dX8_recordNumberOf_59 rfl ?_
        refine x_geti (jz := 0) hx hb hf4 hw (by omega) (by omega) sl_7_0 rfl lk231 dX8_recordNumberOf_60 ?_
        have e28 : X27 7 g 0 = X 7 g 0 := by rw [hX27, u3_k _ _ _ _ (by first | exact Nat.ne_of_beq_eq_false rfl | decide), hX18, u3_k _ _ _ _ (by first | exact Nat.ne_of_beq_eq_false rfl | decide), hX6, u3_k _ _ _ _ (by first | exact Nat.ne_of_beq_eq_false rfl | decide)]
        rw [e28]
        have f29 : 0 ≤ X 7 g 0 ∧ X 7 g 0 ≤ 30 := hR 7 g 0
        refine lv_iconst (v := jI 1) hx hb dX8_recordNumberOf_63 rfl ?_
        refine x_iadd hx hb dX8_recordNumberOf_64 ?_
        refine x_puti (jz := 0) hx hb hf4 ⟨tyX4_ok, nmX4⟩ hw hS (by omega) (by omega) sl_7_0 rfl lk231 rfl (tyX4_ok 0 (by decide)) rfl rfl dX8_recordNumberOf_65 (fun H locs hw hS => ?_)
        obtain ⟨X30, hX30⟩ : ∃ Xq, Xq = u3 X27 7 g 0 ((X 7 g 0) + 1) := ⟨_, rfl⟩
        rw [← hX30] at hw
        have hRX30 : Rng X30 := by rw [hX30]; exact rng_set hRX27 (show 0 ≤ ((X 7 g 0) + 1) ∧ ((X 7 g 0) + 1) ≤ 30 by omega)
        have hVX30 : X30 7 g 0 = ((X 7 g 0) + 1) := by rw [hX30]; exact u3_s _ _ _ _ _
        have hFX30 : Frm [1504, 701, 800, 900] X X30 := by rw [hX30]; exact Frm.set hFX27 (show 701 ∈ [1504, 701, 800, 900] by first | exact nlm_in rfl | decide)
        refine lv_aload_n hx hb dX8_recordNumberOf_68 rfl (lv_at hl 1 rfl) ?_
        skip
        refine x_geti (jz := 3) hx hb hf6 hw (by omega) (by omega) sl_15_3 rfl lk333 dX8_recordNumberOf_69 ?_
        have e31 : X30 15 x 3 = X6 15 x 3 := by rw [hX30, u3_k _ _ _ _ (by first | exact Nat.ne_of_beq_eq_false rfl | decide), hX27, u3_k _ _ _ _ (by first | exact Nat.ne_of_beq_eq_false rfl | decide), hX18, u3_k _ _ _ _ (by first | exact Nat.ne_of_beq_eq_false rfl | decide)]
        rw [e31]
        rw [hVX6]
        rw [hQ9]
        refine ret_i (mc := 0) (ms := 0) hx hb hr hlocks hw hS (by first | exact Nat.le_of_ble_eq_true rfl | omega) (by first | exact Nat.le_of_ble_eq_true rfl | omega) dX8_recordNumberOf_72 ?_
        have q32 : Frm [1504, 701, 800, 900, 707] X X6 := by rw [hX6]; exact Frm.set Frm.rf (show 1504 ∈ [1504, 701, 800, 900, 707] by first | exact nlm_in rfl | decide)
        have q33 : Frm [1504, 701, 800, 900, 707] X X18 := by rw [hX18]; exact Frm.set q32 (show 800 ∈ [1504, 701, 800, 900, 707] by first | exact nlm_in rfl | decide)
        have q34 : Frm [1504, 701, 800, 900, 707] X X27 := by rw [hX27]; exact Frm.set q33 (show 900 ∈ [1504, 701, 800, 900, 707] by first | exact nlm_in rfl | decide)
        have q35 : Frm [1504, 701, 800, 900, 707] X X30 := by rw [hX30]; exact Frm.set q34 (show 701 ∈ [1504, 701, 800, 900, 707] by first | exact nlm_in rfl | decide)
        have h36 : X 19 r13 0 = r13 := (hCI.2.2.2.1.2 r13 (by omega) (by omega)).2
        have e37 : X30 8 g (X 7 g 0) < X 0 0 1 := (by rw [hX30, u3_k _ _ _ _ (by first | exact Nat.ne_of_beq_eq_false rfl | decide), hX27, u3_k _ _ _ _ (by first | exact Nat.ne_of_beq_eq_false rfl | decide)]; rw [hVX18]; omega)
        have hnm38 : X 15 x 3 = nmAt (sg 1) x (sg 0 0).toNat := hsg.2.2 x (by omega) hxt
        have hnum39 : X 19 r13 0 = r13 := (hCI.2.2.2.1.2 r13 (by omega) (by omega)).2
        have q40 : gK g X X6 := by rw [hX6]; exact gK.set gK.rf (fun _ => by first | rfl | omega)
        have q41 : gK g X X18 := by rw [hX18]; exact gK.set q40 (fun _ => by first | rfl | omega)
        have q42 : gK g X X27 := by rw [hX27]; exact gK.set q41 (fun _ => by first | rfl | omega)
        have q43 : gK g X X30 := by rw [hX30]; exact gK.set q42 (fun _ => by first | rfl | omega)
        exact ⟨X30, Y9, rfl, hRX30, hFX30, hHY9, cinv_record (g := g) hCI q35 hHY9 (fun i hi => ⟨(by rw [hX30, u3_ij (by omega), hX27, u3_k _ _ _ _ (by first | exact Nat.ne_of_beq_eq_false rfl | decide), hX18, u3_k _ _ _ _ (by first | exact Nat.ne_of_beq_eq_false rfl | decide), hX6, u3_k _ _ _ _ (by first | exact Nat.ne_of_beq_eq_false rfl | decide)]), fun j => (by rw [hX30, u3_k _ _ _ _ (by first | exact Nat.ne_of_beq_eq_false rfl | decide), hX27, u3_k _ _ _ _ (by first | exact Nat.ne_of_beq_eq_false rfl | decide), hX18, u3_ij (by omega), hX6, u3_k _ _ _ _ (by first | exact Nat.ne_of_beq_eq_false rfl | decide)])⟩) (fun r a b => if hr9 : r = X 7 g 0 then (by rw [hr9]; exact e37) else (by rw [hVX30] at b; rw [hX30, u3_k _ _ _ _ (by first | exact Nat.ne_of_beq_eq_false rfl | decide), hX27, u3_k _ _ _ _ (by first | exact Nat.ne_of_beq_eq_false rfl | decide), hX18, u3_ij (by omega), hX6, u3_k _ _ _ _ (by first | exact Nat.ne_of_beq_eq_false rfl | decide)]; exact hCI.2.2.2.2.2.2.1 g r (by omega) (by omega) a (by omega))), by omega, hO.push (x := x) (by omega) (by omega) (by omega) hVX30 (by rw [hX30, u3_k _ _ _ _ (by first | exact Nat.ne_of_beq_eq_false rfl | decide), hX27, u3_k _ _ _ _ (by first | exact Nat.ne_of_beq_eq_false rfl | decide), hX18, u3_k _ _ _ _ (by first | exact Nat.ne_of_beq_eq_false rfl | decide), hX6, u3_k _ _ _ _ (by first | exact Nat.ne_of_beq_eq_false rfl | decide)]) (by rw [hX30, u3_k _ _ _ _ (by first | exact Nat.ne_of_beq_eq_false rfl | decide), hX27, u3_k _ _ _ _ (by first | exact Nat.ne_of_beq_eq_false rfl | decide), hX18, u3_k _ _ _ _ (by first | exact Nat.ne_of_beq_eq_false rfl | decide)]; exact hVX6) (fun i hi => (by rw [hX30, u3_k _ _ _ _ (by first | exact Nat.ne_of_beq_eq_false rfl | decide), hX27, u3_k _ _ _ _ (by first | exact Nat.ne_of_beq_eq_false rfl | decide), hX18, u3_k _ _ _ _ (by first | exact Nat.ne_of_beq_eq_false rfl | decide), hX6, u3_ij (by omega)])) (by exact hVY9) (fun j hj => (by rw [hY9, u3_ij (by omega)])), (by rw [hVX30]; omega), (by rw [if_pos (by omega)]; omega), (by rw [if_pos (by omega)]; exact rcT.push (x := x) hsg (by omega) ⟨by omega, hxt⟩ (by omega) hVX30 (by rw [hX30, u3_k _ _ _ _ (by first | exact Nat.ne_of_beq_eq_false rfl | decide), hX27, u3_k _ _ _ _ (by first | exact Nat.ne_of_beq_eq_false rfl | decide), hX18, u3_k _ _ _ _ (by first | exact Nat.ne_of_beq_eq_false rfl | decide), hX6, u3_k _ _ _ _ (by first | exact Nat.ne_of_beq_eq_false rfl | decide)]) (by rw [hX30, u3_k _ _ _ _ (by first | exact Nat.ne_of_beq_eq_false rfl | decide), hX27, u3_k _ _ _ _ (by first | exact Nat.ne_of_beq_eq_false rfl | decide), hX18, u3_k _ _ _ _ (by first | exact Nat.ne_of_beq_eq_false rfl | decide)]; exact hVX6) (fun i hi => (by rw [hX30, u3_k _ _ _ _ (by first | exact Nat.ne_of_beq_eq_false rfl | decide), hX27, u3_k _ _ _ _ (by first | exact Nat.ne_of_beq_eq_false rfl | decide), hX18, u3_k _ _ _ _ (by first | exact Nat.ne_of_beq_eq_false rfl | decide), hX6, u3_ij (by omega)])) (by exact hVY9) (fun j hj => (by rw [hY9, u3_ij (by omega)])) (by rw [tyo_some y12]; exact (by rw [hX30, u3_k _ _ _ _ (by first | exact Nat.ne_of_beq_eq_false rfl | decide), hX27, u3_k _ _ _ _ (by first | exact Nat.ne_of_beq_eq_false rfl | decide)]; rw [hVX18]; exact hnum39)) (fun j hj => (by rw [hX30, u3_k _ _ _ _ (by first | exact Nat.ne_of_beq_eq_false rfl | decide), hX27, u3_k _ _ _ _ (by first | exact Nat.ne_of_beq_eq_false rfl | decide), hX18, u3_ij (by omega), hX6, u3_k _ _ _ _ (by first | exact Nat.ne_of_beq_eq_false rfl | decide)])) (by unfold cFc; rw [tyo_some y12]; exact (by rw [hX30, u3_k _ _ _ _ (by first | exact Nat.ne_of_beq_eq_false rfl | decide)]; exact hVX27)) (fun j hj => (by rw [hX30, u3_k _ _ _ _ (by first | exact Nat.ne_of_beq_eq_false rfl | decide), hX27, u3_ij (by omega), hX18, u3_k _ _ _ _ (by first | exact Nat.ne_of_beq_eq_false rfl | decide), hX6, u3_k _ _ _ _ (by first | exact Nat.ne_of_beq_eq_false rfl | decide)])) (fun i => (by rw [hX30, u3_k _ _ _ _ (by first | exact Nat.ne_of_beq_eq_false rfl | decide), hX27, u3_k _ _ _ _ (by first | exact Nat.ne_of_beq_eq_false rfl | decide), hX18, u3_k _ _ _ _ (by first | exact Nat.ne_of_beq_eq_false rfl | decide), hX6, u3_k _ _ _ _ (by first | exact Nat.ne_of_beq_eq_false rfl | decide)])) (fun i => (by rw [hY9, u3_k _ _ _ _ (by first | exact Nat.ne_of_beq_eq_false rfl | decide)]))), q43⟩

set_option maxHeartbeats 4000000 in
set_option maxRecDepth 100000 in
theorem c_X4_numberOf (l : Launch) (D : va_G) (tc : Nat → ClassId) (base : Nat) (ad : Nat → Int → Nat) (cnt : Nat → Int) (X : Nat → Int → Int → Int) (Y : Nat → Int → Int → Option Int) (ln : Int → Int) (hR : Rng X) (hFx : Fx cnt) (hLn : LnOK ln) (hCI : CInv cnt X Y ln) (g r : Int) (hg : 0 ≤ g ∧ g < 6) (hr0 : 0 ≤ r ∧ r < cnt 26) (hrc : X 7 g 6 ≤ 149) (sg : Nat → Int → Int) (hsg : rcR X Y ln g sg) (yy kk : Int) (hyk : 0 ≤ yy ∧ yy < X 0 0 3 ∧ 0 ≤ kk ∧ kk < cFc X Y yy ∧ Y 17 yy kk = some r) : KI l D tc base yX4_numberOf wsX4_numberOf ({ frames := 0, cells := 0, slots := 0, locals := 0 } : Room) [.ref (ad 7 g), .ref (ad 26 r)] (ad, cnt, X, Y, ln) 0 0 (fun z u => ∃ (X1 : Nat → Int → Int → Int), u = (ad, cnt, X1, Y, ln) ∧ Rng X1 ∧ Frm [2602, 1300, 1400, 707] X X1 ∧ CInv cnt X1 Y ln ∧ (-1 ≤ z ∧ z ≤ 149) ∧ X1 7 g 6 ≤ X 7 g 6 + 1 ∧ z = (if nmAt (fun q => cRid Y (sg 3 q) (sg 4 q)) r (sg 2 0).toNat = -1 then sg 2 0 else nmAt (fun q => cRid Y (sg 3 q) (sg 4 q)) r (sg 2 0).toNat) ∧ rcR X1 Y ln g (if nmAt (fun q => cRid Y (sg 3 q) (sg 4 q)) r (sg 2 0).toNat = -1 then u2 (u2 (u2 sg 3 (sg 2 0) yy) 4 (sg 2 0) kk) 2 0 (sg 2 0 + 1) else sg) ∧ gK g X X1) := by
  refine K_of (cc := cX4_numberOf) (maxL := 3) (ret := (some .int)) (by decide) rfl (Nat.le_of_ble_eq_true rfl) ?_
  intro p e s m below meth c ls hx hb hr hml hown hts hlocks hl hK hw hS
  have hown : s.vm.findClass RX4 = some m.cls := hown
  obtain ⟨av9, hav9⟩ : ∃ a9 : Array Value, a9 = ([.ref (ad 7 g), .ref (ad 26 r)] : List Value).toArray := ⟨_, rfl⟩
  rw [← hav9] at hts ⊢
  obtain ⟨Q9, hQ9⟩ : ∃ q9Q : State → Prop, q9Q = MQ below (QI D tc base (fun z u => ∃ (X1 : Nat → Int → Int → Int), u = (ad, cnt, X1, Y, ln) ∧ Rng X1 ∧ Frm [2602, 1300, 1400, 707] X X1 ∧ CInv cnt X1 Y ln ∧ (-1 ≤ z ∧ z ≤ 149) ∧ X1 7 g 6 ≤ X 7 g 6 + 1 ∧ z = (if nmAt (fun q => cRid Y (sg 3 q) (sg 4 q)) r (sg 2 0).toNat = -1 then sg 2 0 else nmAt (fun q => cRid Y (sg 3 q) (sg 4 q)) r (sg 2 0).toNat) ∧ rcR X1 Y ln g (if nmAt (fun q => cRid Y (sg 3 q) (sg 4 q)) r (sg 2 0).toNat = -1 then u2 (u2 (u2 sg 3 (sg 2 0) yy) 4 (sg 2 0) kk) 2 0 (sg 2 0 + 1) else sg) ∧ gK g X X1)) av9 s 0 0 (frA base) := ⟨_, rfl⟩
  rw [← hQ9]
  have hi4 : ∀ w ∈ wsX40, w ∈ wsX4_numberOf := fun w h => List.mem_cons_of_mem _ (List.mem_append_right _ h)
  have hf4 : fctx s m _ RX4 wsX4_numberOf D tc RX4 TX4 9 4 := ⟨hts, hi4, hown, hK.1, rfl⟩
  have hi5 : ∀ w ∈ wsX50, w ∈ wsX4_numberOf := fun w h => List.mem_cons_of_mem _ (List.mem_append_left _ (List.mem_append_right _ h))
  have hf5 : fctx s m _ RX4 wsX4_numberOf D tc RX5 TX5 2 5 := ⟨hts, hi5, hown, hK.1, rfl⟩
  have lk28 := hts (.fieldLink RX4 28 (TX4 7).1 (TX4 7).2.1 (TX4 7).2.2.1) (gj_X4_numberOf_0 _ (gp_1 (gp_1 gp_h)))
  have lk31 := hts (.fieldLink RX4 31 (TX4 8).1 (TX4 8).2.1 (TX4 8).2.2.1) (gj_X4_numberOf_0 _ (gp_4 gp_h))
  have lk34 := hts (.fieldLink RX4 34 (TX5 1).1 (TX5 1).2.1 (TX5 1).2.2.1) (gj_X4_numberOf_0 _ (gp_h))
  have lk40 := hts (.fieldLink RX4 40 (TX4 6).1 (TX4 6).2.1 (TX4 6).2.2.1) (gj_X4_numberOf_0 _ (gp_1 gp_h))
  have lk43 := hts (.fieldLink RX4 43 (TX5 0).1 (TX5 0).2.1 (TX5 0).2.2.1) (gj_X4_numberOf_0 _ (gp_1 (gp_1 (gp_1 gp_h))))
  have hc7 : cnt 7 = 6 := hFx.at 7 6 (by decide)
  have hc13 : cnt 13 = 6 := hFx.at 13 6 (by decide)
  have hc14 : cnt 14 = 6 := hFx.at 14 6 (by decide)
  have hc27 : cnt 27 = cnt 26 := hFx.2.2
  have hl : lv_has ls 3 [(0, .ref (ad 7 g)), (1, .ref (ad 26 r))] := hl
  have ftc : 0 ≤ X 0 0 3 ∧ X 0 0 3 ≤ 30 := hR 0 0 3
  have fty : 0 ≤ X 0 0 1 ∧ X 0 0 1 ≤ 8 := hR 0 0 1
  have hct : cnt 19 = X 0 0 1 := hCI.2.2.2.1.1
  have hfj : 0 ≤ X 29 0 3 ∧ X 29 0 3 ≤ 4 := hR 29 0 3
  have hfn : 0 ≤ X 29 0 1 ∧ X 29 0 1 ≤ 80 := hR 29 0 1
  have hsg1 : X 7 g 6 = sg 2 0 := hsg.1
  have hsg0 : 0 ≤ X 7 g 6 ∧ X 7 g 6 ≤ 150 := hR 7 g 6
  refine lv_aload_n hx hb dX4_numberOf_0 rfl (lv_at hl 1 rfl) ?_
  refine x_geti (jz := 1) hx hb hf5 hw (by omega) (by omega) sl_26_1 rfl lk34 dX4_numberOf_1 ?_
  have f1 : (-1) ≤ X 26 r 1 ∧ X 26 r 1 ≤ 149 := hR 26 r 1
  refine lv_iconst (v := jI (-1)) hx hb dX4_numberOf_4 rfl ?_
  refine x_icmp_ne (tgt := 77) hx hb (by omega) (by omega) dX4_numberOf_5 (by decide) (fun c2 => ?_) (fun c2 => ?_)
  · refine lv_aload_n hx hb dX4_numberOf_77 rfl (lv_at hl 1 rfl) ?_
    refine x_geti (jz := 1) hx hb hf5 hw (by omega) (by omega) sl_26_1 rfl lk34 dX4_numberOf_78 ?_
    have f3 : (-1) ≤ X 26 r 1 ∧ X 26 r 1 ≤ 149 := hR 26 r 1
    rw [hQ9]
    refine ret_i (mc := 0) (ms := 0) hx hb hr hlocks hw hS (by first | exact Nat.le_of_ble_eq_true rfl | omega) (by first | exact Nat.le_of_ble_eq_true rfl | omega) dX4_numberOf_81 ?_
    have hnm4 : X 26 r 1 = nmAt (fun q => cRid Y (sg 3 q) (sg 4 q)) r (sg 2 0).toNat := hsg.2.2 yy kk r hyk.1 hyk.2.1 hyk.2.2.1 hyk.2.2.2.1 hyk.2.2.2.2
    exact ⟨X, rfl, hR, Frm.rf, hCI, by omega, by omega, (by rw [if_neg (by omega)]; omega), (by rw [if_neg (by omega)]; exact hsg), gK.rf⟩
  · refine lv_aload_n hx hb dX4_numberOf_8 rfl (lv_at hl 1 rfl) ?_
    refine lv_aload_n hx hb dX4_numberOf_9 rfl (lv_at hl 0 rfl) ?_
    refine x_geti (jz := 6) hx hb hf4 hw (by omega) (by omega) sl_7_6 rfl lk40 dX4_numberOf_10 ?_
    have f5 : 0 ≤ X 7 g 6 ∧ X 7 g 6 ≤ 150 := hR 7 g 6
    refine x_puti (jz := 1) hx hb hf5 ⟨tyX5_ok, nmX5⟩ hw hS (by omega) (by omega) sl_26_1 rfl lk34 rfl (tyX5_ok 1 (by decide)) rfl rfl dX4_numberOf_13 (fun H locs hw hS => ?_)
    obtain ⟨X6, hX6⟩ : ∃ Xq, Xq = u3 X 26 r 1 (X 7 g 6) := ⟨_, rfl⟩
    rw [← hX6] at hw
    have hRX6 : Rng X6 := by rw [hX6]; exact rng_set hR (show (-1) ≤ (X 7 g 6) ∧ (X 7 g 6) ≤ 149 by omega)
    have hVX6 : X6 26 r 1 = (X 7 g 6) := by rw [hX6]; exact u3_s _ _ _ _ _
    have hFX6 : Frm [2602, 1300, 1400, 707] X X6 := by rw [hX6]; exact Frm.set Frm.rf (show 2602 ∈ [2602, 1300, 1400, 707] by first | exact nlm_in rfl | decide)
    refine lv_aload_n hx hb dX4_numberOf_16 rfl (lv_at hl 0 rfl) ?_
    refine x_geto hx hb hf4 hw (by omega) (by omega) sl_7_7 lk28 dX4_numberOf_17 ?_
    refine lv_aload_n hx hb dX4_numberOf_20 rfl (lv_at hl 0 rfl) ?_
    refine x_geti (jz := 6) hx hb hf4 hw (by omega) (by omega) sl_7_6 rfl lk40 dX4_numberOf_21 ?_
    have e7 : X6 7 g 6 = X 7 g 6 := by rw [hX6, u3_k _ _ _ _ (by first | exact Nat.ne_of_beq_eq_false rfl | decide)]
    rw [e7]
    have f8 : 0 ≤ X 7 g 6 ∧ X 7 g 6 ≤ 150 := hR 7 g 6
    refine lv_aload_n hx hb dX4_numberOf_24 rfl (lv_at hl 1 rfl) ?_
    refine x_geto hx hb hf5 hw (by omega) (by omega) sl_26_0 lk43 dX4_numberOf_25 ?_
    have f9 : 0 ≤ ln r ∧ ln r ≤ 12 := hLn r
    refine x_alenl hx hb hK.1 hw (by omega) (by omega) ar_27 (show lenE ln 27 r = ln r from rfl) (by omega) dX4_numberOf_28 ?_
    refine x_iast hx hb hK.1 hw hS (by omega) (by omega) ar_13 (len_E ar_13 (by first | exact Nat.ne_of_beq_eq_false rfl | decide)) (by omega) (by omega) (by omega) dX4_numberOf_29 (fun H locs hw hS => ?_)
    obtain ⟨X10, hX10⟩ : ∃ Xq, Xq = u3 X6 13 g (X 7 g 6) (ln r) := ⟨_, rfl⟩
    rw [← hX10] at hw
    have hRX10 : Rng X10 := by rw [hX10]; exact rng_set hRX6 (show 0 ≤ (ln r) ∧ (ln r) ≤ 12 by omega)
    have hVX10 : X10 13 g (X 7 g 6) = (ln r) := by rw [hX10]; exact u3_s _ _ _ _ _
    have hFX10 : Frm [2602, 1300, 1400, 707] X X10 := by rw [hX10]; exact Frm.set hFX6 (show 1300 ∈ [2602, 1300, 1400, 707] by first | exact nlm_in rfl | decide)
    refine lv_iconst (v := jI 0) hx hb dX4_numberOf_30 rfl ?_
    refine lv_istore_n (lv' := [(2, .int (jI 0)), (0, .ref (ad 7 g)), (1, .ref (ad 26 r))]) hx hb dX4_numberOf_31 rfl hl (by decide) rfl (fun ls hl => ?_)
    have lp32 : ∀ (nn : Nat) (iz : Int) (Xa : Nat → Int → Int → Int) (H : Heap) (locs : List Loc) (ls : Array Slot), (12 - iz) < (nn : Int) → (Rng Xa) → (Frm [1400] X10 Xa) → (0 ≤ iz ∧ iz ≤ 12) → (∀ j, 0 ≤ j → j < iz → Xa 14 g (12 * X 7 g 6 + j) = X 27 r j) → (∀ p, p < 12 * X 7 g 6 → Xa 14 g p = X 14 g p) → (gK g X10 Xa) → wd D tc base (ad, cnt, Xa, Y, ln) H → va_S (frA base) s.heap H locs → lv_has ls 3 [(0, .ref (ad 7 g)), (1, .ref (ad 26 r)), (2, .int (jI iz))] → W p l e ({ frames := 0, cells := 0, slots := 0, locals := 0 } : Room) s m av9 below meth c H locs 0 0 Q9 (F0 m 32 ls []) := by
      intro nn
      induction nn with
      | zero => intro iz Xa H locs ls hm hRXa hGXa hiz hcp hcl9 hgkXa hw hS hl; exfalso; omega
      | succ nn ih32 =>
        intro iz Xa H locs ls hm hRXa hGXa hiz hcp hcl9 hgkXa hw hS hl
        have hFXa : Frm [2602, 1300, 1400, 707] X Xa := Frm.tr hFX10 (Frm.mono hGXa (by first | exact nls_of rfl | decide))
        refine lv_iload_n hx hb dX4_numberOf_32 rfl (lv_at hl 2 rfl) ?_
        refine lv_aload_n hx hb dX4_numberOf_33 rfl (lv_at hl 1 rfl) ?_
        refine x_geto hx hb hf5 hw (by omega) (by omega) sl_26_0 lk43 dX4_numberOf_34 ?_
        have f11 : 0 ≤ ln r ∧ ln r ≤ 12 := hLn r
        refine x_alenl hx hb hK.1 hw (by omega) (by omega) ar_27 (show lenE ln 27 r = ln r from rfl) (by omega) dX4_numberOf_37 ?_
        refine x_icmp_ge (tgt := 67) hx hb (by omega) (by omega) dX4_numberOf_38 (by decide) (fun c12 => ?_) (fun c12 => ?_)
        · refine lv_aload_n hx hb dX4_numberOf_67 rfl (lv_at hl 0 rfl) ?_
          refine lv_dup hx hb dX4_numberOf_68 rfl ?_
          refine x_geti (jz := 6) hx hb hf4 hw (by omega) (by omega) sl_7_6 rfl lk40 dX4_numberOf_69 ?_
          have e13 : Xa 7 g 6 = X 7 g 6 := by rw [hGXa 7 g 6 (show 707 ∉ [1400] by first | exact nlm_ni rfl | decide), hX10, u3_k _ _ _ _ (by first | exact Nat.ne_of_beq_eq_false rfl | decide), hX6, u3_k _ _ _ _ (by first | exact Nat.ne_of_beq_eq_false rfl | decide)]
          rw [e13]
          have f14 : 0 ≤ X 7 g 6 ∧ X 7 g 6 ≤ 150 := hR 7 g 6
          refine lv_iconst (v := jI 1) hx hb dX4_numberOf_72 rfl ?_
          refine x_iadd hx hb dX4_numberOf_73 ?_
          refine x_puti (jz := 6) hx hb hf4 ⟨tyX4_ok, nmX4⟩ hw hS (by omega) (by omega) sl_7_6 rfl lk40 rfl (tyX4_ok 6 (by decide)) rfl rfl dX4_numberOf_74 (fun H locs hw hS => ?_)
          obtain ⟨X15, hX15⟩ : ∃ Xq, Xq = u3 Xa 7 g 6 ((X 7 g 6) + 1) := ⟨_, rfl⟩
          rw [← hX15] at hw
          have hRX15 : Rng X15 := by rw [hX15]; exact rng_set hRXa (show 0 ≤ ((X 7 g 6) + 1) ∧ ((X 7 g 6) + 1) ≤ 150 by omega)
          have hVX15 : X15 7 g 6 = ((X 7 g 6) + 1) := by rw [hX15]; exact u3_s _ _ _ _ _
          have hFX15 : Frm [2602, 1300, 1400, 707] X X15 := by rw [hX15]; exact Frm.set hFXa (show 707 ∈ [2602, 1300, 1400, 707] by first | exact nlm_in rfl | decide)
          refine lv_aload_n hx hb dX4_numberOf_77 rfl (lv_at hl 1 rfl) ?_
          refine x_geti (jz := 1) hx hb hf5 hw (by omega) (by omega) sl_26_1 rfl lk34 dX4_numberOf_78 ?_
          have e16 : X15 26 r 1 = X6 26 r 1 := by rw [hX15, u3_k _ _ _ _ (by first | exact Nat.ne_of_beq_eq_false rfl | decide), hGXa 26 r 1 (show 2602 ∉ [1400] by first | exact nlm_ni rfl | decide), hX10, u3_k _ _ _ _ (by first | exact Nat.ne_of_beq_eq_false rfl | decide)]
          rw [e16]
          rw [hVX6]
          rw [hQ9]
          refine ret_i (mc := 0) (ms := 0) hx hb hr hlocks hw hS (by first | exact Nat.le_of_ble_eq_true rfl | omega) (by first | exact Nat.le_of_ble_eq_true rfl | omega) dX4_numberOf_81 ?_
          have q17 : Frm [707, 1300, 1400, 2602] X X6 := by rw [hX6]; exact Frm.set Frm.rf (show 2602 ∈ [707, 1300, 1400, 2602] by first | exact nlm_in rfl | decide)
          have q18 : Frm [707, 1300, 1400, 2602] X X10 := by rw [hX10]; exact Frm.set q17 (show 1300 ∈ [707, 1300, 1400, 2602] by first | exact nlm_in rfl | decide)
          have q19 : Frm [707, 1300, 1400, 2602] X Xa := Frm.tr q18 (Frm.mono hGXa (by first | exact nls_of rfl | decide))
          have q20 : Frm [707, 1300, 1400, 2602] X X15 := by rw [hX15]; exact Frm.set q19 (show 707 ∈ [707, 1300, 1400, 2602] by first | exact nlm_in rfl | decide)
          have hCq21 : CInv cnt X15 Y ln := cinv_frm (M := [707, 1300, 1400, 2602]) (N := []) hCI q20 Frm.rf (by decide) (by decide)
          have hnm22 : X 26 r 1 = nmAt (fun q => cRid Y (sg 3 q) (sg 4 q)) r (sg 2 0).toNat := hsg.2.2 yy kk r hyk.1 hyk.2.1 hyk.2.2.1 hyk.2.2.2.1 hyk.2.2.2.2
          have q23 : Frm [707, 1300, 1400, 2602] X X6 := by rw [hX6]; exact Frm.set Frm.rf (show 2602 ∈ [707, 1300, 1400, 2602] by first | exact nlm_in rfl | decide)
          have q24 : Frm [707, 1300, 1400, 2602] X X10 := by rw [hX10]; exact Frm.set q23 (show 1300 ∈ [707, 1300, 1400, 2602] by first | exact nlm_in rfl | decide)
          have q25 : Frm [707, 1300, 1400, 2602] X Xa := Frm.tr q24 (Frm.mono hGXa (by first | exact nls_of rfl | decide))
          have q27 : gK g X X6 := by rw [hX6]; exact gK.set gK.rf (fun _ => by first | rfl | omega)
          have q28 : gK g X X10 := by rw [hX10]; exact gK.set q27 (fun _ => by first | rfl | omega)
          have q29 : gK g X Xa := gK.tr q28 hgkXa
          have q30 : gK g X X15 := by rw [hX15]; exact gK.set q29 (fun _ => by first | rfl | omega)
          exact ⟨X15, rfl, hRX15, hFX15, hCq21, by omega, (by rw [hVX15]; omega), (by rw [if_pos (by omega)]; omega), (by rw [if_pos (by omega)]; exact rcR.push (y := yy) (k := kk) (w := r) hsg (by omega) (fun i => (hR 13 g i).2) hyk.2.2.2.2 (by omega) hVX15 (by rw [hX15, u3_k _ _ _ _ (by first | exact Nat.ne_of_beq_eq_false rfl | decide), hGXa 0 0 3 (show 4 ∉ [1400] by first | exact nlm_ni rfl | decide), hX10, u3_k _ _ _ _ (by first | exact Nat.ne_of_beq_eq_false rfl | decide), hX6, u3_k _ _ _ _ (by first | exact Nat.ne_of_beq_eq_false rfl | decide)]) (by rw [hX15, u3_k _ _ _ _ (by first | exact Nat.ne_of_beq_eq_false rfl | decide), hGXa 26 r 1 (show 2602 ∉ [1400] by first | exact nlm_ni rfl | decide), hX10, u3_k _ _ _ _ (by first | exact Nat.ne_of_beq_eq_false rfl | decide)]; exact hVX6) (fun i hi => (by rw [hX15, u3_k _ _ _ _ (by first | exact Nat.ne_of_beq_eq_false rfl | decide), hGXa 26 i 1 (show 2602 ∉ [1400] by first | exact nlm_ni rfl | decide), hX10, u3_k _ _ _ _ (by first | exact Nat.ne_of_beq_eq_false rfl | decide), hX6, u3_ij (by omega)])) (by rw [hX15, u3_k _ _ _ _ (by first | exact Nat.ne_of_beq_eq_false rfl | decide), hGXa 13 g (X 7 g 6) (show 1300 ∉ [1400] by first | exact nlm_ni rfl | decide)]; exact hVX10) (fun i hi => (by rw [hX15, u3_k _ _ _ _ (by first | exact Nat.ne_of_beq_eq_false rfl | decide), hGXa 13 g i (show 1300 ∉ [1400] by first | exact nlm_ni rfl | decide), hX10, u3_ij (by omega), hX6, u3_k _ _ _ _ (by first | exact Nat.ne_of_beq_eq_false rfl | decide)])) (fun j a b => (by rw [hX15, u3_k _ _ _ _ (by first | exact Nat.ne_of_beq_eq_false rfl | decide)]; exact hcp j a (by omega))) (fun p hp9 => (by rw [hX15, u3_k _ _ _ _ (by first | exact Nat.ne_of_beq_eq_false rfl | decide)]; exact hcl9 p hp9)) (fun i j => (by rw [hX15, u3_k _ _ _ _ (by first | exact Nat.ne_of_beq_eq_false rfl | decide), hGXa 27 i j (show 2700 ∉ [1400] by first | exact nlm_ni rfl | decide), hX10, u3_k _ _ _ _ (by first | exact Nat.ne_of_beq_eq_false rfl | decide), hX6, u3_k _ _ _ _ (by first | exact Nat.ne_of_beq_eq_false rfl | decide)])) (fun i => (by rw [hX15, u3_k _ _ _ _ (by first | exact Nat.ne_of_beq_eq_false rfl | decide), hGXa 19 i 1 (show 1902 ∉ [1400] by first | exact nlm_ni rfl | decide), hX10, u3_k _ _ _ _ (by first | exact Nat.ne_of_beq_eq_false rfl | decide), hX6, u3_k _ _ _ _ (by first | exact Nat.ne_of_beq_eq_false rfl | decide)])) (fun i => rfl) (fun i j => rfl)), q30⟩
        · refine lv_aload_n hx hb dX4_numberOf_41 rfl (lv_at hl 0 rfl) ?_
          refine x_geto hx hb hf4 hw (by omega) (by omega) sl_7_8 lk31 dX4_numberOf_42 ?_
          refine lv_aload_n hx hb dX4_numberOf_45 rfl (lv_at hl 0 rfl) ?_
          refine x_geti (jz := 6) hx hb hf4 hw (by omega) (by omega) sl_7_6 rfl lk40 dX4_numberOf_46 ?_
          have e31 : Xa 7 g 6 = X 7 g 6 := by rw [hGXa 7 g 6 (show 707 ∉ [1400] by first | exact nlm_ni rfl | decide), hX10, u3_k _ _ _ _ (by first | exact Nat.ne_of_beq_eq_false rfl | decide), hX6, u3_k _ _ _ _ (by first | exact Nat.ne_of_beq_eq_false rfl | decide)]
          rw [e31]
          have f32 : 0 ≤ X 7 g 6 ∧ X 7 g 6 ≤ 150 := hR 7 g 6
          refine lv_bipush (v := jI 12) hx hb dX4_numberOf_49 (by decide) ?_
          refine x_imul hx hb dX4_numberOf_51 ?_
          refine lv_iload_n hx hb dX4_numberOf_52 rfl (lv_at hl 2 rfl) ?_
          refine x_iadd hx hb dX4_numberOf_53 ?_
          refine lv_aload_n hx hb dX4_numberOf_54 rfl (lv_at hl 1 rfl) ?_
          refine x_geto hx hb hf5 hw (by omega) (by omega) sl_26_0 lk43 dX4_numberOf_55 ?_
          refine lv_iload_n hx hb dX4_numberOf_58 rfl (lv_at hl 2 rfl) ?_
          have f33 : 0 ≤ ln r ∧ ln r ≤ 12 := hLn r
          refine x_lald hx hb hK.1 hw (by omega) (by omega) ar_27 (show lenE ln 27 r = ln r from rfl) (by omega) (by omega) (by omega) dX4_numberOf_59 ?_
          have e34 : ∀ p9 q9 : Int, Xa 27 p9 q9 = X 27 p9 q9 := fun p9 q9 => by rw [hGXa 27 p9 q9 (show 2700 ∉ [1400] by first | exact nlm_ni rfl | decide), hX10, u3_k _ _ _ _ (by first | exact Nat.ne_of_beq_eq_false rfl | decide), hX6, u3_k _ _ _ _ (by first | exact Nat.ne_of_beq_eq_false rfl | decide)]
          rw [e34 r iz]
          have f35 : (-9223372036854775808) ≤ X 27 r iz ∧ X 27 r iz ≤ 9223372036854775807 := hR 27 r iz
          refine x_last hx hb hK.1 hw hS (by omega) (by omega) ar_14 (len_E ar_14 (by first | exact Nat.ne_of_beq_eq_false rfl | decide)) (by omega) (by omega) (by omega) dX4_numberOf_60 (fun H locs hw hS => ?_)
          obtain ⟨X36, hX36⟩ : ∃ Xq, Xq = u3 Xa 14 g (((X 7 g 6) * 12) + iz) (X 27 r iz) := ⟨_, rfl⟩
          rw [← hX36] at hw
          have hRX36 : Rng X36 := by rw [hX36]; exact rng_set hRXa (show (-9223372036854775808) ≤ (X 27 r iz) ∧ (X 27 r iz) ≤ 9223372036854775807 by omega)
          have hVX36 : X36 14 g (((X 7 g 6) * 12) + iz) = (X 27 r iz) := by rw [hX36]; exact u3_s _ _ _ _ _
          have hFX36 : Frm [2602, 1300, 1400, 707] X X36 := by rw [hX36]; exact Frm.set hFXa (show 1400 ∈ [2602, 1300, 1400, 707] by first | exact nlm_in rfl | decide)
          refine lv_iinc (v := jI (iz + 1)) (lv' := [(2, .int (jI (iz + 1))), (0, .ref (ad 7 g)), (1, .ref (ad 26 r))]) hx hb dX4_numberOf_61 hl (k := 2) rfl (jI_add _ _) (by decide) rfl (fun ls hl => ?_)
          refine lv_goto (tgt := 32) hx hb dX4_numberOf_64 (by decide) ?_
          have q37 : Frm [1400] X10 Xa := Frm.tr Frm.rf (Frm.mono hGXa (by first | exact nls_of rfl | decide))
          have q38 : Frm [1400] X10 X36 := by rw [hX36]; exact Frm.set q37 (show 1400 ∈ [1400] by first | exact nlm_in rfl | decide)
          have q39 : gK g X10 Xa := gK.tr gK.rf hgkXa
          have q40 : gK g X10 X36 := by rw [hX36]; exact gK.set q39 (fun _ => by first | rfl | omega)
          exact ih32 (iz + 1) X36 _ _ _ (by omega) hRX36 q38 (by omega) (fun j a b => if hj : j = iz then (by rw [hj, show 12 * X 7 g 6 + iz = X 7 g 6 * 12 + iz by omega]; exact hVX36) else (by rw [hX36, u3_ij (by omega)]; exact hcp j a (by omega))) (fun p hp9 => (by rw [hX36, u3_ij (by omega)]; exact hcl9 p hp9)) (q40) hw hS (lv_sub hl [1, 2, 0] rfl)
    exact lp32 (12 - 0 : Int).toNat.succ 0 X10 _ _ _ (by omega) hRX10 Frm.rf (by omega) (fun j a b => by omega) (fun p _ => (by rw [hX10, u3_k _ _ _ _ (by first | exact Nat.ne_of_beq_eq_false rfl | decide), hX6, u3_k _ _ _ _ (by first | exact Nat.ne_of_beq_eq_false rfl | decide)])) (gK.rf) hw hS (lv_sub hl [1, 2, 0] rfl)

set_option maxHeartbeats 4000000 in
set_option maxRecDepth 100000 in
theorem c_X8_recordedValue (l : Launch) (D : va_G) (tc : Nat → ClassId) (base : Nat) (ad : Nat → Int → Nat) (cnt : Nat → Int) (X : Nat → Int → Int → Int) (Y : Nat → Int → Int → Option Int) (ln : Int → Int) (hR : Rng X) (hFx : Fx cnt) (hLn : LnOK ln) (hCI : CInv cnt X Y ln) (x k g : Int) (hx0 : 0 ≤ x ∧ x ≤ 29) (hxt : x < X 0 0 3) (hk0 : 0 ≤ k ∧ k ≤ 4) (hg : 0 ≤ g ∧ g < 6) (hO : rcOK X Y g) (hrc : X 7 g 6 ≤ 149) (sg : Nat → Int → Int) (hst : rcT X Y g sg) (hsr : rcR X Y ln g sg) (p9 : Int) (hkf : k < cFc X Y x) : KL l D tc base yX8_recordedValue wsX8_recordedValue ({ frames := 1, cells := 0, slots := 0, locals := 22 } : Room) [.ref (ad 0 0), .ref (ad 15 x), .int (jI k), .ref (ad 7 g)] (ad, cnt, X, Y, ln) 0 0 (fun z u => ∃ (X1 : Nat → Int → Int → Int) (Y1 : Nat → Int → Int → Option Int), u = (ad, cnt, X1, Y1, ln) ∧ Rng X1 ∧ Frm [701, 707, 800, 900, 1300, 1400, 1504, 2602] X X1 ∧ Frm [500] Y Y1 ∧ CInv cnt X1 Y1 ln ∧ (-9223372036854775808 ≤ z ∧ z ≤ 9223372036854775807) ∧ rcOK X1 Y1 g ∧ X 7 g 0 ≤ X1 7 g 0 ∧ X1 7 g 6 ≤ X 7 g 6 + 1 ∧ (∀ t, Y 15 x 0 = some t → 2 ≤ X 21 t k → -1 ≤ z ∧ z ≤ 149) ∧ cStp (cLa X Y) (cVl X Y) (cRid Y) x k p9 X1 Y1 ln g sg z ∧ gK g X X1) := by
  refine K_of (cc := cX8_recordedValue) (maxL := 6) (ret := (some .long)) (by decide) rfl (Nat.le_of_ble_eq_true rfl) ?_
  intro p e s m below meth c ls hx hb hr hml hown hts hlocks hl hK hw hS
  have hown : s.vm.findClass RX8 = some m.cls := hown
  obtain ⟨av9, hav9⟩ : ∃ a9 : Array Value, a9 = ([.ref (ad 0 0), .ref (ad 15 x), .int (jI k), .ref (ad 7 g)] : List Value).toArray := ⟨_, rfl⟩
  rw [← hav9] at hts ⊢
  obtain ⟨Q9, hQ9⟩ : ∃ q9Q : State → Prop, q9Q = MQ below (QL D tc base (fun z u => ∃ (X1 : Nat → Int → Int → Int) (Y1 : Nat → Int → Int → Option Int), u = (ad, cnt, X1, Y1, ln) ∧ Rng X1 ∧ Frm [701, 707, 800, 900, 1300, 1400, 1504, 2602] X X1 ∧ Frm [500] Y Y1 ∧ CInv cnt X1 Y1 ln ∧ (-9223372036854775808 ≤ z ∧ z ≤ 9223372036854775807) ∧ rcOK X1 Y1 g ∧ X 7 g 0 ≤ X1 7 g 0 ∧ X1 7 g 6 ≤ X 7 g 6 + 1 ∧ (∀ t, Y 15 x 0 = some t → 2 ≤ X 21 t k → -1 ≤ z ∧ z ≤ 149) ∧ cStp (cLa X Y) (cVl X Y) (cRid Y) x k p9 X1 Y1 ln g sg z ∧ gK g X X1)) av9 s 0 0 (frA base) := ⟨_, rfl⟩
  rw [← hQ9]
  have hi6 : ∀ w ∈ wsX60, w ∈ wsX8_recordedValue := fun w h => List.mem_cons_of_mem _ (List.mem_append_left _ (List.mem_append_left _ (List.mem_append_left _ (List.mem_append_left _ (List.mem_append_right _ h)))))
  have hf6 : fctx s m _ RX8 wsX8_recordedValue D tc RX6 TX6 4 6 := ⟨hts, hi6, hown, hK.1, rfl⟩
  have hi7 : ∀ w ∈ wsX70, w ∈ wsX8_recordedValue := fun w h => List.mem_cons_of_mem _ (List.mem_append_left _ (List.mem_append_left _ (List.mem_append_left _ (List.mem_append_right _ h))))
  have hf7 : fctx s m _ RX8 wsX8_recordedValue D tc RX7 TX7 8 7 := ⟨hts, hi7, hown, hK.1, rfl⟩
  have lk97 := hts (.fieldLink RX8 97 (TX6 0).1 (TX6 0).2.1 (TX6 0).2.2.1) (gj_X8_recordedValue_0 _ (gp_h))
  have lk135 := hts (.fieldLink RX8 135 (TX7 3).1 (TX7 3).2.1 (TX7 3).2.2.1) (gj_X8_recordedValue_0 _ (gp_1 gp_h))
  have lk158 := hts (.fieldLink RX8 158 (TX6 2).1 (TX6 2).2.1 (TX6 2).2.2.1) (gj_X8_recordedValue_0 _ (gp_1 (gp_1 gp_h)))
  have lk193 := hts (.fieldLink RX8 193 (TX6 1).1 (TX6 1).2.1 (TX6 1).2.2.1) (gj_X8_recordedValue_0 _ (gp_4 gp_h))
  have hc0 : cnt 0 = 1 := hFx.at 0 1 (by decide)
  have hc7 : cnt 7 = 6 := hFx.at 7 6 (by decide)
  have hc15 : cnt 15 = 30 := hFx.at 15 30 (by decide)
  have hc16 : cnt 16 = 30 := hFx.at 16 30 (by decide)
  have hc17 : cnt 17 = 30 := hFx.at 17 30 (by decide)
  have hc21 : cnt 21 = cnt 19 := hFx.2.1 21 (by decide)
  have hl : lv_has ls 6 [(0, .ref (ad 0 0)), (1, .ref (ad 15 x)), (2, .int (jI k)), (3, .ref (ad 7 g))] := hl
  have ftc : 0 ≤ X 0 0 3 ∧ X 0 0 3 ≤ 30 := hR 0 0 3
  have fty : 0 ≤ X 0 0 1 ∧ X 0 0 1 ≤ 8 := hR 0 0 1
  have hct : cnt 19 = X 0 0 1 := hCI.2.2.2.1.1
  have hfj : 0 ≤ X 29 0 3 ∧ X 29 0 3 ≤ 4 := hR 29 0 3
  have hfn : 0 ≤ X 29 0 1 ∧ X 29 0 1 ≤ 80 := hR 29 0 1
  skip
  refine lv_aload_n hx hb dX8_recordedValue_0 rfl (lv_at hl 1 rfl) ?_
  refine x_getr (jz := 0) hx hb hf6 hw (by omega) (by omega) sl_15_0 rfl lk97 dX8_recordedValue_1 (fun y1 => ?_) (fun r2 y1 gr2 lr2 => ?_)
  · exfalso
    exact absurd y1 (hCI.2.2.2.2.1 x (by omega) (by omega))
  · refine x_geto hx hb hf7 hw (by omega) (by omega) sl_19_3 lk135 dX8_recordedValue_4 ?_
    refine lv_iload_n hx hb dX8_recordedValue_7 rfl (lv_at hl 2 rfl) ?_
    refine x_iald hx hb hK.1 hw (by omega) (by omega) ar_21 (len_E ar_21 (by first | exact Nat.ne_of_beq_eq_false rfl | decide)) (by omega) (by omega) (by omega) dX8_recordedValue_8 ?_
    have f3 : 0 ≤ X 21 r2 k ∧ X 21 r2 k ≤ 5 := hR 21 r2 k
    refine lv_istore (lv' := [(4, .int (jI (X 21 r2 k))), (0, .ref (ad 0 0)), (1, .ref (ad 15 x)), (2, .int (jI k)), (3, .ref (ad 7 g))]) hx hb dX8_recordedValue_9 hl (by decide) rfl (fun ls hl => ?_)
    refine lv_iload hx hb dX8_recordedValue_11 (lv_at hl 0 rfl) ?_
    refine gos_i (run_S (As := [.int (jI (X 21 r2 k))]) (rest := []) hx hb hml hown hts (c_X8_isRowLane l D tc base ad cnt X Y ln (X 21 r2 k) (by omega)) (cwS 1 hts gX8_recordedValue_X8_isRowLane rfl rfl rfl (by first | exact hd_X8_isRowLane | decide +kernel) ⟨Nat.le_of_ble_eq_true rfl, Nat.le_of_ble_eq_true rfl⟩) hK hw rfl hl.1 rfl (Nat.le_of_ble_eq_true rfl) dX8_recordedValue_13 ⟨Nat.le_of_ble_eq_true rfl, Nat.le_of_ble_eq_true rfl⟩) hS (fun z4 u5 H locs p6 hw hS => ?_)
    obtain ⟨eu5, p6⟩ := p6
    subst eu5
    rcases p6 with ⟨ez4, p6⟩ | ⟨ez4, p6⟩
    · subst ez4
      refine x_if_eqF (tgt := 46) hx hb (by omega) (by decide) dX8_recordedValue_16 (by decide) ?_
      refine lv_aload_n hx hb dX8_recordedValue_19 rfl (lv_at hl 2 rfl) ?_
      refine x_geto hx hb hf6 hw (by omega) (by omega) sl_15_2 lk158 dX8_recordedValue_20 ?_
      refine lv_iload_n hx hb dX8_recordedValue_23 rfl (lv_at hl 3 rfl) ?_
      refine x_aald hx hb hK.1 hw (by omega) (by omega) ar_17 rfl (len_E ar_17 (by first | exact Nat.ne_of_beq_eq_false rfl | decide)) (by omega) (by omega) (by omega) dX8_recordedValue_24 (fun y7 => ?_) (fun r8 y7 gr8 lr8 => ?_)
      · refine lv_ifnonnullN hx hb dX8_recordedValue_25 ?_
        refine lv_ldc2 (v := jL (-1)) hx hb hown (hts (.constantLong RX8 88 (-1)) (by first | exact gj_X8_recordedValue_0 _ (gp_1 (gp_1 (gp_1 gp_h))) | decide +kernel)) dX8_recordedValue_28 ?_
        refine lv_goto (tgt := 45) hx hb dX8_recordedValue_31 (by decide) ?_
        rw [hQ9]
        refine ret_l (mc := 0) (ms := 0) hx hb hr hlocks hw hS (by first | exact Nat.le_of_ble_eq_true rfl | omega) (by first | exact Nat.le_of_ble_eq_true rfl | omega) dX8_recordedValue_45 ?_
        have hla10 : cLa X Y x k = X 21 r2 k := by unfold cLa; rw [tyo_some y1]
        have hst9 : cStp (cLa X Y) (cVl X Y) (cRid Y) x k p9 X Y ln g sg (-1) := cStp_v hst hsr (recP_3n (by rw [hla10]; omega) (by unfold cRid; rw [y7]; decide))
        exact ⟨X, Y, rfl, hR, Frm.rf, Frm.rf, hCI, by omega, hO, (by omega), (by omega), fun t9 ht hl9 => by rw [y1] at ht; cases ht; (try simp only [Hid] at *); omega, hst9, gK.rf⟩
      · refine lv_ifnonnull (tgt := 34) hx hb dX8_recordedValue_25 (by decide) ?_
        refine lv_aload_n hx hb dX8_recordedValue_34 rfl (lv_at hl 4 rfl) ?_
        refine lv_aload_n hx hb dX8_recordedValue_35 rfl (lv_at hl 2 rfl) ?_
        refine x_geto hx hb hf6 hw (by omega) (by omega) sl_15_2 lk158 dX8_recordedValue_36 ?_
        refine lv_iload_n hx hb dX8_recordedValue_39 rfl (lv_at hl 3 rfl) ?_
        refine x_aald hx hb hK.1 hw (by omega) (by omega) ar_17 rfl (len_E ar_17 (by first | exact Nat.ne_of_beq_eq_false rfl | decide)) (by omega) (by omega) (by omega) dX8_recordedValue_40 (fun y11 => ?_) (fun r12 y11 gr12 lr12 => ?_)
        · exfalso
          rw [y7] at y11; cases y11
        · have er12 : r12 = r8 := by rw [y7] at y11; cases y11; rfl
          rw [er12]
          refine gos_i (run_V (As := [.ref (ad 26 r8)]) (rest := []) hx hb hml hown hts (c_X4_numberOf l D tc base ad cnt X Y ln hR hFx hLn hCI g r8 (by omega) (by omega) (by omega) (sg) hsr x k ⟨by omega, (by first | omega | (simp only [Int.add_zero]; omega)), by omega, hkf, y7⟩) (cwV 1 hts gX8_recordedValue_X4_numberOf rfl rfl rfl (by first | exact hd_X4_numberOf | decide +kernel) ⟨Nat.le_of_ble_eq_true rfl, Nat.le_of_ble_eq_true rfl⟩) hK hw (by first | exact Int.le_refl 0 | omega) (by first | exact zlt hc7 | omega) sl_7_0 rfl rfl hl.1 rfl (Nat.le_of_ble_eq_true rfl) dX8_recordedValue_41 ⟨Nat.le_of_ble_eq_true rfl, Nat.le_of_ble_eq_true rfl⟩) hS (fun z13 u14 H locs p15 hw hS => ?_)
          obtain ⟨X16, eu14, hRX16, hG17, hCIX16, p15, hnrX16, hzrX16, hRrX16, hgkX16⟩ := p15
          subst eu14
          have hFX16 : Frm [701, 707, 800, 900, 1300, 1400, 1504, 2602] X X16 := Frm.tr Frm.rf (Frm.mono hG17 (by first | exact nls_of rfl | decide))
          refine x_i2l hx hb (by omega) dX8_recordedValue_44 ?_
          rw [hQ9]
          refine ret_l (mc := 0) (ms := 0) hx hb hr hlocks hw hS (by first | exact Nat.le_of_ble_eq_true rfl | omega) (by first | exact Nat.le_of_ble_eq_true rfl | omega) dX8_recordedValue_45 ?_
          have q18 : Frm [707, 1300, 1400, 2602] X X16 := Frm.tr Frm.rf (Frm.mono hG17 (by first | exact nls_of rfl | decide))
          have hO19 : rcOK X16 Y g := rcOK.frm (M := [707, 1300, 1400, 2602]) (N := []) hO q18 Frm.rf (by decide) (by decide)
          have e20 : X16 7 g 0 = X 7 g 0 := by rw [hG17 7 g 0 (show 701 ∉ [2602, 1300, 1400, 707] by first | exact nlm_ni rfl | decide)]
          have hla22 : cLa X Y x k = X 21 r2 k := by unfold cLa; rw [tyo_some y1]
          have q23 : Frm [707, 1300, 1400, 2602] X X16 := Frm.tr Frm.rf (Frm.mono hG17 (by first | exact nls_of rfl | decide))
          have hT24 : rcT X16 Y g (sg) := rcT.frm (M := [707, 1300, 1400, 2602]) (N := []) hst q23 Frm.rf (by decide) (by decide)
          have hri25 : cRid Y x k = r8 := tyo_some y7
          have hst21 : cStp (cLa X Y) (cVl X Y) (cRid Y) x k p9 X16 Y ln g sg z13 := (by have h8 := hRrX16; have h9 := hzrX16; exact cStp_r (by rw [hla22]; (try delta Hid at *); omega) (by rw [hri25]; omega) hT24 (by rw [hri25]; exact h8) (by rw [hri25]; exact h9))
          have q26 : gK g X X16 := gK.tr gK.rf hgkX16
          exact ⟨X16, Y, rfl, hRX16, hFX16, Frm.rf, hCIX16, by omega, hO19, (by first | omega | (simp only [e20]; omega)), (by omega), fun t9 ht hl9 => by rw [y1] at ht; cases ht; (try simp only [Hid] at *); omega, hst21, q26⟩
    · subst ez4
      refine x_if_eqT (tgt := 46) hx hb (by omega) (by decide) dX8_recordedValue_16 (by decide) ?_
      refine lv_iload hx hb dX8_recordedValue_46 (lv_at hl 0 rfl) ?_
      refine lv_iconst (v := jI 2) hx hb dX8_recordedValue_48 rfl ?_
      refine x_icmp_ne (tgt := 84) hx hb (by omega) (by omega) dX8_recordedValue_49 (by decide) (fun c27 => ?_) (fun c27 => ?_)
      · refine lv_aload_n hx hb dX8_recordedValue_84 rfl (lv_at hl 2 rfl) ?_
        refine x_geto hx hb hf6 hw (by omega) (by omega) sl_15_1 lk193 dX8_recordedValue_85 ?_
        refine lv_iload_n hx hb dX8_recordedValue_88 rfl (lv_at hl 3 rfl) ?_
        refine x_lald hx hb hK.1 hw (by omega) (by omega) ar_16 (len_E ar_16 (by first | exact Nat.ne_of_beq_eq_false rfl | decide)) (by omega) (by omega) (by omega) dX8_recordedValue_89 ?_
        have f28 : (-9223372036854775808) ≤ X 16 x k ∧ X 16 x k ≤ 9223372036854775807 := hR 16 x k
        rw [hQ9]
        refine ret_l (mc := 0) (ms := 0) hx hb hr hlocks hw hS (by first | exact Nat.le_of_ble_eq_true rfl | omega) (by first | exact Nat.le_of_ble_eq_true rfl | omega) dX8_recordedValue_90 ?_
        have hla30 : cLa X Y x k = X 21 r2 k := by unfold cLa; rw [tyo_some y1]
        have hst29 : cStp (cLa X Y) (cVl X Y) (cRid Y) x k p9 X Y ln g sg (X 16 x k) := cStp_v hst hsr (by rw [recP_1 (by rw [hla30]; (try delta Hid at *); omega)]; unfold cVl; rw [if_neg (by rw [hla30]; (try delta Hid at *); omega)])
        exact ⟨X, Y, rfl, hR, Frm.rf, Frm.rf, hCI, by omega, hO, (by omega), (by omega), fun t9 ht hl9 => by rw [y1] at ht; cases ht; (try simp only [Hid] at *); omega, hst29, gK.rf⟩
      · refine lv_aload_n hx hb dX8_recordedValue_52 rfl (lv_at hl 1 rfl) ?_
        refine lv_aload_n hx hb dX8_recordedValue_53 rfl (lv_at hl 2 rfl) ?_
        refine x_geto hx hb hf6 hw (by omega) (by omega) sl_15_1 lk193 dX8_recordedValue_54 ?_
        refine lv_iload_n hx hb dX8_recordedValue_57 rfl (lv_at hl 3 rfl) ?_
        refine x_lald hx hb hK.1 hw (by omega) (by omega) ar_16 (len_E ar_16 (by first | exact Nat.ne_of_beq_eq_false rfl | decide)) (by omega) (by omega) (by omega) dX8_recordedValue_58 ?_
        have f31 : (-9223372036854775808) ≤ X 16 x k ∧ X 16 x k ≤ 9223372036854775807 := hR 16 x k
        refine gos_r (run_V (As := [.long (jL (X 16 x k))]) (rest := []) hx hb hml hown hts (c_X8_thingNumbered l D tc base ad cnt X Y ln hR hFx hLn hCI (X 16 x k) (by omega)) (cwV 1 hts gX8_recordedValue_X8_thingNumbered rfl rfl rfl (by first | exact hd_X8_thingNumbered | decide +kernel) ⟨Nat.le_of_ble_eq_true rfl, Nat.le_of_ble_eq_true rfl⟩) hK hw (by first | exact Int.le_refl 0 | omega) (by first | exact zlt hc0 | omega) sl_0_0 rfl rfl hl.1 rfl (Nat.le_of_ble_eq_true rfl) dX8_recordedValue_59 ⟨Nat.le_of_ble_eq_true rfl, Nat.le_of_ble_eq_true rfl⟩) hS (fun u33 H locs p34 hw hS => ?_) (fun z32 u33 H locs p34 hw hS => ?_)
        · obtain ⟨eu33, hsp34, hnp34⟩ := p34
          subst eu33
          refine lv_astoreN (lv' := [(5, .null), (4, .int (jI (X 21 r2 k))), (0, .ref (ad 0 0)), (1, .ref (ad 15 x)), (2, .int (jI k)), (3, .ref (ad 7 g))]) hx hb dX8_recordedValue_62 hl (by decide) rfl (fun ls hl => ?_)
          refine lv_aloadN hx hb dX8_recordedValue_64 (lv_at hl 0 rfl) ?_
          refine lv_ifnonnullN hx hb dX8_recordedValue_66 ?_
          refine lv_ldc2 (v := jL (-1)) hx hb hown (hts (.constantLong RX8 88 (-1)) (by first | exact gj_X8_recordedValue_0 _ (gp_1 (gp_1 (gp_1 gp_h))) | decide +kernel)) dX8_recordedValue_69 ?_
          refine lv_goto (tgt := 83) hx hb dX8_recordedValue_72 (by decide) ?_
          rw [hQ9]
          refine ret_l (mc := 0) (ms := 0) hx hb hr hlocks hw hS (by first | exact Nat.le_of_ble_eq_true rfl | omega) (by first | exact Nat.le_of_ble_eq_true rfl | omega) dX8_recordedValue_83 ?_
          have hla36 : cLa X Y x k = X 21 r2 k := by unfold cLa; rw [tyo_some y1]
          have hst35 : cStp (cLa X Y) (cVl X Y) (cRid Y) x k p9 X Y ln g sg (-1) := cStp_v hst hsr (recP_2n (by rw [hla36]; omega) (by unfold cVl; rw [if_pos (by rw [hla36]; omega), if_neg (show ¬ (0 ≤ X 16 x k ∧ X 16 x k < X 0 0 3) from hnp34 rfl)]; decide))
          exact ⟨X, Y, rfl, hR, Frm.rf, Frm.rf, hCI, by omega, hO, (by omega), (by omega), fun t9 ht hl9 => by rw [y1] at ht; cases ht; (try simp only [Hid] at *); omega, hst35, gK.rf⟩
        · obtain ⟨eu33, hsp34, hnp34⟩ := p34
          subst eu33
          obtain ⟨ezz32, p34⟩ := hsp34 z32 rfl
          refine lv_astore (lv' := [(5, .ref (ad 15 z32)), (4, .int (jI (X 21 r2 k))), (0, .ref (ad 0 0)), (1, .ref (ad 15 x)), (2, .int (jI k)), (3, .ref (ad 7 g))]) hx hb dX8_recordedValue_62 hl (by decide) rfl (fun ls hl => ?_)
          refine lv_aload hx hb dX8_recordedValue_64 (lv_at hl 0 rfl) ?_
          refine lv_ifnonnull (tgt := 75) hx hb dX8_recordedValue_66 (by decide) ?_
          refine lv_aload_n hx hb dX8_recordedValue_75 rfl (lv_at hl 2 rfl) ?_
          refine lv_aload hx hb dX8_recordedValue_76 (lv_at hl 0 rfl) ?_
          refine lv_aload_n hx hb dX8_recordedValue_78 rfl (lv_at hl 5 rfl) ?_
          refine gos_i (run_V (As := [.ref (ad 15 z32), .ref (ad 7 g)]) (rest := []) hx hb hml hown hts (c_X8_recordNumberOf l D tc base ad cnt X Y ln hR hFx hLn hCI z32 g (by omega) (by omega) (by omega) hO (sg) hst) (cwV 2 hts gX8_recordedValue_X8_recordNumberOf rfl rfl rfl (by first | exact hd_X8_recordNumberOf | decide +kernel) ⟨Nat.le_of_ble_eq_true rfl, Nat.le_of_ble_eq_true rfl⟩) hK hw (by first | exact Int.le_refl 0 | omega) (by first | exact zlt hc0 | omega) sl_0_0 rfl rfl hl.1 rfl (Nat.le_of_ble_eq_true rfl) dX8_recordedValue_79 ⟨Nat.le_of_ble_eq_true rfl, Nat.le_of_ble_eq_true rfl⟩) hS (fun z37 u38 H locs p39 hw hS => ?_)
          obtain ⟨X40, Y41, eu38, hRX40, hG42, hJ43, hCIX40, p39, hOX40, hleX40, hzrX40, hTrX40, hgkX40⟩ := p39
          subst eu38
          have hFX40 : Frm [701, 707, 800, 900, 1300, 1400, 1504, 2602] X X40 := Frm.tr Frm.rf (Frm.mono hG42 (by first | exact nls_of rfl | decide))
          have hHY41 : Frm [500] Y Y41 := Frm.tr Frm.rf (Frm.mono hJ43 (by first | exact nls_of rfl | decide))
          refine x_i2l hx hb (by omega) dX8_recordedValue_82 ?_
          rw [hQ9]
          refine ret_l (mc := 0) (ms := 0) hx hb hr hlocks hw hS (by first | exact Nat.le_of_ble_eq_true rfl | omega) (by first | exact Nat.le_of_ble_eq_true rfl | omega) dX8_recordedValue_83 ?_
          have e44 : X40 7 g 6 = X 7 g 6 := by rw [hG42 7 g 6 (show 707 ∉ [1504, 701, 800, 900] by first | exact nlm_ni rfl | decide)]
          have hla46 : cLa X Y x k = X 21 r2 k := by unfold cLa; rw [tyo_some y1]
          have q47 : Frm [701, 800, 900, 1504] X X40 := Frm.tr Frm.rf (Frm.mono hG42 (by first | exact nls_of rfl | decide))
          have hR949 : rcR X40 Y41 ln g (sg) := rcR.frm (M := [701, 800, 900, 1504]) (N := [500]) hsr q47 hHY41 (by decide) (by decide)
          have hvl50 : cVl X Y x k = X 16 x k := by unfold cVl; rw [if_pos (by rw [hla46]; omega), if_pos ⟨by omega, by omega⟩]
          have hst45 : cStp (cLa X Y) (cVl X Y) (cRid Y) x k p9 X40 Y41 ln g sg z37 := (by have h8 := hTrX40; have h9 := hzrX40; rw [ezz32] at h8 h9; exact cStp_t (by rw [hla46]; omega) (by rw [hvl50]; omega) (by rw [hvl50]; exact h8) hR949 (by rw [hvl50]; exact h9))
          have q51 : gK g X X40 := gK.tr gK.rf hgkX40
          exact ⟨X40, Y41, rfl, hRX40, hFX40, hHY41, hCIX40, by omega, hOX40, (by omega), (by first | omega | (simp only [e44]; omega)), fun t9 ht hl9 => by rw [y1] at ht; cases ht; (try simp only [Hid] at *); omega, hst45, q51⟩

set_option maxHeartbeats 4000000 in
set_option maxRecDepth 100000 in
theorem c_X8_recordFields (l : Launch) (D : va_G) (tc : Nat → ClassId) (base : Nat) (ad : Nat → Int → Nat) (cnt : Nat → Int) (X : Nat → Int → Int → Int) (Y : Nat → Int → Int → Option Int) (ln : Int → Int) (hR : Rng X) (hFx : Fx cnt) (hLn : LnOK ln) (hCI : CInv cnt X Y ln) (x r g : Int) (hx0 : 0 ≤ x ∧ x ≤ 29) (hxt : x < X 0 0 3) (hr0 : 0 ≤ r ∧ r ≤ 29) (hg : 0 ≤ g ∧ g < 6) (hO : rcOK X Y g) (hrc : X 7 g 6 ≤ 5 * r) (hRv : cRv X) (sg : Nat → Int → Int) (hst : rcT X Y g sg) (hsr : rcR X Y ln g sg) (hsv : rcV X Y g sg r 0) (hxr : sg 1 r = x) (hrs : r < sg 0 0) : KV l D tc base yX8_recordFields wsX8_recordFields ({ frames := 2, cells := 0, slots := 0, locals := 47 } : Room) [.ref (ad 0 0), .ref (ad 15 x), .int (jI r), .ref (ad 7 g)] (ad, cnt, X, Y, ln) 0 0 (fun u => ∃ (X1 : Nat → Int → Int → Int) (Y1 : Nat → Int → Int → Option Int), u = (ad, cnt, X1, Y1, ln) ∧ Rng X1 ∧ Frm [701, 707, 800, 900, 1000, 1100, 1200, 1300, 1400, 1504, 2602] X X1 ∧ Frm [500] Y Y1 ∧ CInv cnt X1 Y1 ln ∧ (0 : Int) ≤ 0 ∧ rcOK X1 Y1 g ∧ X 7 g 0 ≤ X1 7 g 0 ∧ X1 7 g 6 ≤ 5 * r + 5 ∧ cRv X1 ∧ rcT X1 Y1 g (recK (cLa X Y) (cVl X Y) (cRid Y) sg r (cFc X Y x).toNat) ∧ rcR X1 Y1 ln g (recK (cLa X Y) (cVl X Y) (cRid Y) sg r (cFc X Y x).toNat) ∧ rcV X1 Y1 g (recK (cLa X Y) (cVl X Y) (cRid Y) sg r (cFc X Y x).toNat) (r + 1) 0 ∧ gK g X X1) := by
  refine K_of (cc := cX8_recordFields) (maxL := 6) (ret := none) (by decide) rfl (Nat.le_of_ble_eq_true rfl) ?_
  intro p e s m below meth c ls hx hb hr hml hown hts hlocks hl hK hw hS
  have hown : s.vm.findClass RX8 = some m.cls := hown
  obtain ⟨av9, hav9⟩ : ∃ a9 : Array Value, a9 = ([.ref (ad 0 0), .ref (ad 15 x), .int (jI r), .ref (ad 7 g)] : List Value).toArray := ⟨_, rfl⟩
  rw [← hav9] at hts ⊢
  obtain ⟨Q9, hQ9⟩ : ∃ q9Q : State → Prop, q9Q = MQ below (QV D tc base (fun u => ∃ (X1 : Nat → Int → Int → Int) (Y1 : Nat → Int → Int → Option Int), u = (ad, cnt, X1, Y1, ln) ∧ Rng X1 ∧ Frm [701, 707, 800, 900, 1000, 1100, 1200, 1300, 1400, 1504, 2602] X X1 ∧ Frm [500] Y Y1 ∧ CInv cnt X1 Y1 ln ∧ (0 : Int) ≤ 0 ∧ rcOK X1 Y1 g ∧ X 7 g 0 ≤ X1 7 g 0 ∧ X1 7 g 6 ≤ 5 * r + 5 ∧ cRv X1 ∧ rcT X1 Y1 g (recK (cLa X Y) (cVl X Y) (cRid Y) sg r (cFc X Y x).toNat) ∧ rcR X1 Y1 ln g (recK (cLa X Y) (cVl X Y) (cRid Y) sg r (cFc X Y x).toNat) ∧ rcV X1 Y1 g (recK (cLa X Y) (cVl X Y) (cRid Y) sg r (cFc X Y x).toNat) (r + 1) 0 ∧ gK g X X1)) av9 s 0 0 (frA base) := ⟨_, rfl⟩
  rw [← hQ9]
  have hi4 : ∀ w ∈ wsX40, w ∈ wsX8_recordFields := fun w h => List.mem_cons_of_mem _ (List.mem_append_left _ (List.mem_append_left _ (List.mem_append_right _ h)))
  have hf4 : fctx s m _ RX8 wsX8_recordFields D tc RX4 TX4 9 4 := ⟨hts, hi4, hown, hK.1, rfl⟩
  have hi6 : ∀ w ∈ wsX60, w ∈ wsX8_recordFields := fun w h => List.mem_cons_of_mem _ (List.mem_append_left _ (List.mem_append_left _ (List.mem_append_left _ (List.mem_append_left _ (List.mem_append_right _ h)))))
  have hf6 : fctx s m _ RX8 wsX8_recordFields D tc RX6 TX6 4 6 := ⟨hts, hi6, hown, hK.1, rfl⟩
  have hi7 : ∀ w ∈ wsX70, w ∈ wsX8_recordFields := fun w h => List.mem_cons_of_mem _ (List.mem_append_left _ (List.mem_append_left _ (List.mem_append_left _ (List.mem_append_right _ h))))
  have hf7 : fctx s m _ RX8 wsX8_recordFields D tc RX7 TX7 8 7 := ⟨hts, hi7, hown, hK.1, rfl⟩
  have lk85 := hts (.fieldLink RX8 85 (TX7 1).1 (TX7 1).2.1 (TX7 1).2.2.1) (gj_X8_recordFields_0 _ (gp_1 gp_h))
  have lk97 := hts (.fieldLink RX8 97 (TX6 0).1 (TX6 0).2.1 (TX6 0).2.2.1) (gj_X8_recordFields_0 _ (gp_h))
  have lk135 := hts (.fieldLink RX8 135 (TX7 3).1 (TX7 3).2.1 (TX7 3).2.2.1) (gj_X8_recordFields_0 _ (gp_4 (gp_1 gp_h)))
  have lk224 := hts (.fieldLink RX8 224 (TX4 3).1 (TX4 3).2.1 (TX4 3).2.2.1) (gj_X8_recordFields_0 _ (gp_1 (gp_1 gp_h)))
  have lk320 := hts (.fieldLink RX8 320 (TX7 2).1 (TX7 2).2.1 (TX7 2).2.2.1) (gj_X8_recordFields_0 _ (gp_1 (gp_1 (gp_1 gp_h))))
  have lk341 := hts (.fieldLink RX8 341 (TX4 4).1 (TX4 4).2.1 (TX4 4).2.2.1) (gj_X8_recordFields_0 _ (gp_4 gp_h))
  have lk342 := hts (.fieldLink RX8 342 (TX4 5).1 (TX4 5).2.1 (TX4 5).2.2.1) (gj_X8_recordFields_0 _ (gp_4 (gp_1 (gp_1 gp_h))))
  have hc0 : cnt 0 = 1 := hFx.at 0 1 (by decide)
  have hc7 : cnt 7 = 6 := hFx.at 7 6 (by decide)
  have hc10 : cnt 10 = 6 := hFx.at 10 6 (by decide)
  have hc11 : cnt 11 = 6 := hFx.at 11 6 (by decide)
  have hc12 : cnt 12 = 6 := hFx.at 12 6 (by decide)
  have hc15 : cnt 15 = 30 := hFx.at 15 30 (by decide)
  have hc20 : cnt 20 = cnt 19 := hFx.2.1 20 (by decide)
  have hc21 : cnt 21 = cnt 19 := hFx.2.1 21 (by decide)
  have hl : lv_has ls 6 [(0, .ref (ad 0 0)), (1, .ref (ad 15 x)), (2, .int (jI r)), (3, .ref (ad 7 g))] := hl
  have ftc : 0 ≤ X 0 0 3 ∧ X 0 0 3 ≤ 30 := hR 0 0 3
  have fty : 0 ≤ X 0 0 1 ∧ X 0 0 1 ≤ 8 := hR 0 0 1
  have hct : cnt 19 = X 0 0 1 := hCI.2.2.2.1.1
  have hfj : 0 ≤ X 29 0 3 ∧ X 29 0 3 ≤ 4 := hR 29 0 3
  have hfn : 0 ≤ X 29 0 1 ∧ X 29 0 1 ≤ 80 := hR 29 0 1
  refine lv_iconst (v := jI 0) hx hb dX8_recordFields_0 rfl ?_
  refine lv_istore (lv' := [(4, .int (jI 0)), (0, .ref (ad 0 0)), (1, .ref (ad 15 x)), (2, .int (jI r)), (3, .ref (ad 7 g))]) hx hb dX8_recordFields_1 hl (by decide) rfl (fun ls hl => ?_)
  have lp3 : ∀ (nn : Nat) (k : Int) (Xa : Nat → Int → Int → Int) (Ya : Nat → Int → Int → Option Int) (H : Heap) (locs : List Loc) (ls : Array Slot), (5 - k) < (nn : Int) → (Rng Xa) → (Frm [701, 707, 800, 900, 1000, 1100, 1200, 1300, 1400, 1504, 2602] X Xa) → (Frm [500] Y Ya) → (0 ≤ k ∧ k ≤ 5) → (CInv cnt Xa Ya ln) → (rcOK Xa Ya g) → (X 7 g 0 ≤ Xa 7 g 0) → (Xa 7 g 6 ≤ 5 * r + k) → (cRv Xa) → (rcT Xa Ya g (recK (cLa X Y) (cVl X Y) (cRid Y) sg r k.toNat)) → (rcR Xa Ya ln g (recK (cLa X Y) (cVl X Y) (cRid Y) sg r k.toNat)) → (rcV Xa Ya g (recK (cLa X Y) (cVl X Y) (cRid Y) sg r k.toNat) r k) → (gK g X Xa) → (k ≤ cFc X Y x) → wd D tc base (ad, cnt, Xa, Ya, ln) H → va_S (frA base) s.heap H locs → lv_has ls 6 [(0, .ref (ad 0 0)), (1, .ref (ad 15 x)), (2, .int (jI r)), (3, .ref (ad 7 g)), (4, .int (jI k))] → W p l e ({ frames := 2, cells := 0, slots := 0, locals := 47 } : Room) s m av9 below meth c H locs 0 0 Q9 (F0 m 3 ls []) := by
    intro nn
    induction nn with
    | zero => intro k Xa Ya H locs ls hm hRXa hGXa hGYa hk hCIXa hOa hla hna hRa hTa hRr9 hVa hgkXa hkf hw hS hl; exfalso; omega
    | succ nn ih3 =>
      intro k Xa Ya H locs ls hm hRXa hGXa hGYa hk hCIXa hOa hla hna hRa hTa hRr9 hVa hgkXa hkf hw hS hl
      have hHYa : Frm [500] Y Ya := Frm.tr Frm.rf (Frm.mono hGYa (by first | exact nls_of rfl | decide))
      have hFXa : Frm [701, 707, 800, 900, 1000, 1100, 1200, 1300, 1400, 1504, 2602] X Xa := Frm.tr Frm.rf (Frm.mono hGXa (by first | exact nls_of rfl | decide))
      have hTa1 : Xa 7 g 0 = recK (cLa X Y) (cVl X Y) (cRid Y) sg r k.toNat 0 0 := hTa.1
      have hmm := recK_m (la := cLa X Y) (vl := cVl X Y) (rid := cRid Y) (s := sg) (r := r) k.toNat
      refine lv_iload hx hb dX8_recordFields_3 (lv_at hl 4 rfl) ?_
      refine lv_aload_n hx hb dX8_recordFields_5 rfl (lv_at hl 1 rfl) ?_
      refine x_getr (jz := 0) hx hb hf6 hw (by omega) (by omega) sl_15_0 rfl lk97 dX8_recordFields_6 (fun y1 => ?_) (fun r2 y1 gr2 lr2 => ?_)
      · exfalso
        have e3 : Ya 15 x 0 = Y 15 x 0 := by rw [hGYa 15 x 0 (show 1501 ∉ [500] by first | exact nlm_ni rfl | decide)]
        rw [e3] at y1
        exact absurd y1 (hCI.2.2.2.2.1 x (by omega) (by omega))
      · have e4 : Ya 15 x 0 = Y 15 x 0 := by rw [hGYa 15 x 0 (show 1501 ∉ [500] by first | exact nlm_ni rfl | decide)]
        rw [e4] at y1
        refine x_geti (jz := 1) hx hb hf7 hw (by omega) (by omega) sl_19_1 rfl lk85 dX8_recordFields_9 ?_
        have e5 : Xa 19 r2 1 = X 19 r2 1 := by rw [hGXa 19 r2 1 (show 1902 ∉ [701, 707, 800, 900, 1000, 1100, 1200, 1300, 1400, 1504, 2602] by first | exact nlm_ni rfl | decide)]
        rw [e5]
        have f6 : 0 ≤ X 19 r2 1 ∧ X 19 r2 1 ≤ 5 := hR 19 r2 1
        refine x_icmp_ge (tgt := 78) hx hb (by omega) (by omega) dX8_recordFields_12 (by decide) (fun c7 => ?_) (fun c7 => ?_)
        · rw [hQ9]
          refine ret_v (mc := 0) (ms := 0) hx hb hr hlocks hw hS (by first | exact Nat.le_of_ble_eq_true rfl | omega) (by first | exact Nat.le_of_ble_eq_true rfl | omega) dX8_recordFields_78 ?_
          have hke8 : cFc X Y x = k := by have h9 := hkf; unfold cFc at *; rw [tyo_some y1] at *; omega
          have q9 : Frm [701, 707, 800, 900, 1000, 1100, 1200, 1300, 1400, 1504, 2602] X Xa := Frm.tr Frm.rf (Frm.mono hGXa (by first | exact nls_of rfl | decide))
          have q10 : Frm [500] Y Ya := Frm.tr Frm.rf (Frm.mono hGYa (by first | exact nls_of rfl | decide))
          have q11 : gK g X Xa := gK.tr gK.rf hgkXa
          exact ⟨Xa, Ya, rfl, hRXa, hFXa, hHYa, hCIXa, by omega, hOa, hla, (by omega), hRa, (by rw [hke8]; exact hTa), (by rw [hke8]; exact hRr9), (by rw [hke8]; exact rcV.next (by rw [show cFc Xa Ya (recK (cLa X Y) (cVl X Y) (cRid Y) sg r k.toNat 1 r) = k by (rw [recK_o _ ⟨by omega, by omega⟩, hxr, cFc.frm (M := [701, 707, 800, 900, 1000, 1100, 1200, 1300, 1400, 1504, 2602]) (N := [500]) q9 q10 (by decide) (by decide)]; exact hke8)]; exact hVa)), q11⟩
        · refine lv_iload_n hx hb dX8_recordFields_15 rfl (lv_at hl 2 rfl) ?_
          refine lv_iconst (v := jI 5) hx hb dX8_recordFields_16 rfl ?_
          refine x_imul hx hb dX8_recordFields_17 ?_
          refine lv_iload hx hb dX8_recordFields_18 (lv_at hl 4 rfl) ?_
          refine x_iadd hx hb dX8_recordFields_20 ?_
          refine lv_istore (lv' := [(5, .int (jI ((r * 5) + k))), (0, .ref (ad 0 0)), (1, .ref (ad 15 x)), (2, .int (jI r)), (3, .ref (ad 7 g)), (4, .int (jI k))]) hx hb dX8_recordFields_21 hl (by decide) rfl (fun ls hl => ?_)
          refine lv_aload_n hx hb dX8_recordFields_23 rfl (lv_at hl 4 rfl) ?_
          refine x_geto hx hb hf4 hw (by omega) (by omega) sl_7_3 lk224 dX8_recordFields_24 ?_
          refine lv_iload hx hb dX8_recordFields_27 (lv_at hl 0 rfl) ?_
          refine lv_aload_n hx hb dX8_recordFields_29 rfl (lv_at hl 2 rfl) ?_
          refine x_getr (jz := 0) hx hb hf6 hw (by omega) (by omega) sl_15_0 rfl lk97 dX8_recordFields_30 (fun y12 => ?_) (fun r13 y12 gr13 lr13 => ?_)
          · exfalso
            have e14 : Ya 15 x 0 = Y 15 x 0 := by rw [hGYa 15 x 0 (show 1501 ∉ [500] by first | exact nlm_ni rfl | decide)]
            rw [e14] at y12
            rw [y1] at y12; cases y12
          · have e15 : Ya 15 x 0 = Y 15 x 0 := by rw [hGYa 15 x 0 (show 1501 ∉ [500] by first | exact nlm_ni rfl | decide)]
            rw [e15] at y12
            have er13 : r13 = r2 := by rw [y1] at y12; cases y12; rfl
            rw [er13]
            refine x_geto hx hb hf7 hw (by omega) (by omega) sl_19_2 lk320 dX8_recordFields_33 ?_
            refine lv_iload hx hb dX8_recordFields_36 (lv_at hl 5 rfl) ?_
            refine x_iald hx hb hK.1 hw (by omega) (by omega) ar_20 (len_E ar_20 (by first | exact Nat.ne_of_beq_eq_false rfl | decide)) (by omega) (by omega) (by omega) dX8_recordFields_38 ?_
            have e16 : ∀ p9 q9 : Int, Xa 20 p9 q9 = X 20 p9 q9 := fun p9 q9 => by rw [hGXa 20 p9 q9 (show 2000 ∉ [701, 707, 800, 900, 1000, 1100, 1200, 1300, 1400, 1504, 2602] by first | exact nlm_ni rfl | decide)]
            rw [e16 r2 k]
            have f17 : 0 ≤ X 20 r2 k ∧ X 20 r2 k ≤ 19 := hR 20 r2 k
            refine x_iast hx hb hK.1 hw hS (by omega) (by omega) ar_10 (len_E ar_10 (by first | exact Nat.ne_of_beq_eq_false rfl | decide)) (by omega) (by omega) (by omega) dX8_recordFields_39 (fun H locs hw hS => ?_)
            obtain ⟨X18, hX18⟩ : ∃ Xq, Xq = u3 Xa 10 g ((r * 5) + k) (X 20 r2 k) := ⟨_, rfl⟩
            rw [← hX18] at hw
            have hRX18 : Rng X18 := by rw [hX18]; exact rng_set hRXa (show 0 ≤ (X 20 r2 k) ∧ (X 20 r2 k) ≤ 19 by omega)
            have hVX18 : X18 10 g ((r * 5) + k) = (X 20 r2 k) := by rw [hX18]; exact u3_s _ _ _ _ _
            have hFX18 : Frm [701, 707, 800, 900, 1000, 1100, 1200, 1300, 1400, 1504, 2602] X X18 := by rw [hX18]; exact Frm.set hFXa (show 1000 ∈ [701, 707, 800, 900, 1000, 1100, 1200, 1300, 1400, 1504, 2602] by first | exact nlm_in rfl | decide)
            refine lv_aload_n hx hb dX8_recordFields_40 rfl (lv_at hl 4 rfl) ?_
            refine x_geto hx hb hf4 hw (by omega) (by omega) sl_7_4 lk341 dX8_recordFields_41 ?_
            refine lv_iload hx hb dX8_recordFields_44 (lv_at hl 0 rfl) ?_
            refine lv_aload_n hx hb dX8_recordFields_46 rfl (lv_at hl 2 rfl) ?_
            refine x_getr (jz := 0) hx hb hf6 hw (by omega) (by omega) sl_15_0 rfl lk97 dX8_recordFields_47 (fun y19 => ?_) (fun r20 y19 gr20 lr20 => ?_)
            · exfalso
              have e21 : Ya 15 x 0 = Y 15 x 0 := by rw [hGYa 15 x 0 (show 1501 ∉ [500] by first | exact nlm_ni rfl | decide)]
              rw [e21] at y19
              rw [y1] at y19; cases y19
            · have e22 : Ya 15 x 0 = Y 15 x 0 := by rw [hGYa 15 x 0 (show 1501 ∉ [500] by first | exact nlm_ni rfl | decide)]
              rw [e22] at y19
              have er20 : r20 = r2 := by rw [y1] at y19; cases y19; rfl
              rw [er20]
              refine x_geto hx hb hf7 hw (by omega) (by omega) sl_19_3 lk135 dX8_recordFields_50 ?_
              refine lv_iload hx hb dX8_recordFields_53 (lv_at hl 5 rfl) ?_
              refine x_iald hx hb hK.1 hw (by omega) (by omega) ar_21 (len_E ar_21 (by first | exact Nat.ne_of_beq_eq_false rfl | decide)) (by omega) (by omega) (by omega) dX8_recordFields_55 ?_
              have e23 : ∀ p9 q9 : Int, X18 21 p9 q9 = X 21 p9 q9 := fun p9 q9 => by rw [hX18, u3_k _ _ _ _ (by first | exact Nat.ne_of_beq_eq_false rfl | decide), hGXa 21 p9 q9 (show 2100 ∉ [701, 707, 800, 900, 1000, 1100, 1200, 1300, 1400, 1504, 2602] by first | exact nlm_ni rfl | decide)]
              rw [e23 r2 k]
              have f24 : 0 ≤ X 21 r2 k ∧ X 21 r2 k ≤ 5 := hR 21 r2 k
              refine x_iast hx hb hK.1 hw hS (by omega) (by omega) ar_11 (len_E ar_11 (by first | exact Nat.ne_of_beq_eq_false rfl | decide)) (by omega) (by omega) (by omega) dX8_recordFields_56 (fun H locs hw hS => ?_)
              obtain ⟨X25, hX25⟩ : ∃ Xq, Xq = u3 X18 11 g ((r * 5) + k) (X 21 r2 k) := ⟨_, rfl⟩
              rw [← hX25] at hw
              have hRX25 : Rng X25 := by rw [hX25]; exact rng_set hRX18 (show 0 ≤ (X 21 r2 k) ∧ (X 21 r2 k) ≤ 5 by omega)
              have hVX25 : X25 11 g ((r * 5) + k) = (X 21 r2 k) := by rw [hX25]; exact u3_s _ _ _ _ _
              have hFX25 : Frm [701, 707, 800, 900, 1000, 1100, 1200, 1300, 1400, 1504, 2602] X X25 := by rw [hX25]; exact Frm.set hFX18 (show 1100 ∈ [701, 707, 800, 900, 1000, 1100, 1200, 1300, 1400, 1504, 2602] by first | exact nlm_in rfl | decide)
              refine lv_aload_n hx hb dX8_recordFields_57 rfl (lv_at hl 4 rfl) ?_
              refine x_geto hx hb hf4 hw (by omega) (by omega) sl_7_5 lk342 dX8_recordFields_58 ?_
              refine lv_iload hx hb dX8_recordFields_61 (lv_at hl 0 rfl) ?_
              refine lv_aload_n hx hb dX8_recordFields_63 rfl (lv_at hl 1 rfl) ?_
              refine lv_aload_n hx hb dX8_recordFields_64 rfl (lv_at hl 2 rfl) ?_
              refine lv_iload hx hb dX8_recordFields_65 (lv_at hl 5 rfl) ?_
              refine lv_aload_n hx hb dX8_recordFields_67 rfl (lv_at hl 4 rfl) ?_
              have q26 : Frm [1000, 1100] Xa X18 := by rw [hX18]; exact Frm.set Frm.rf (show 1000 ∈ [1000, 1100] by first | exact nlm_in rfl | decide)
              have q27 : Frm [1000, 1100] Xa X25 := by rw [hX25]; exact Frm.set q26 (show 1100 ∈ [1000, 1100] by first | exact nlm_in rfl | decide)
              have hO28 : rcOK X25 Ya g := rcOK.frm (M := [1000, 1100]) (N := []) hOa q27 Frm.rf (by decide) (by decide)
              have e29 : X25 7 g 6 = Xa 7 g 6 := by rw [hX25, u3_k _ _ _ _ (by first | exact Nat.ne_of_beq_eq_false rfl | decide), hX18, u3_k _ _ _ _ (by first | exact Nat.ne_of_beq_eq_false rfl | decide)]
              have e30 : X25 7 g 0 = Xa 7 g 0 := by rw [hX25, u3_k _ _ _ _ (by first | exact Nat.ne_of_beq_eq_false rfl | decide), hX18, u3_k _ _ _ _ (by first | exact Nat.ne_of_beq_eq_false rfl | decide)]
              have hCq33 : CInv cnt X25 Ya ln := cinv_frm (M := [1000, 1100]) (N := []) hCIXa q27 Frm.rf (by decide) (by decide)
              have hT36 : rcT X25 Ya g (recK (cLa X Y) (cVl X Y) (cRid Y) sg r k.toNat) := rcT.frm (M := [1000, 1100]) (N := []) hTa q27 Frm.rf (by decide) (by decide)
              have hR939 : rcR X25 Ya ln g (recK (cLa X Y) (cVl X Y) (cRid Y) sg r k.toNat) := rcR.frm (M := [1000, 1100]) (N := []) hRr9 q27 Frm.rf (by decide) (by decide)
              have q40 : Frm [701, 707, 800, 900, 1000, 1100, 1200, 1300, 1400, 1504, 2602] X Xa := Frm.tr Frm.rf (Frm.mono hGXa (by first | exact nls_of rfl | decide))
              have q41 : Frm [701, 707, 800, 900, 1000, 1100, 1200, 1300, 1400, 1504, 2602] X X18 := by rw [hX18]; exact Frm.set q40 (show 1000 ∈ [701, 707, 800, 900, 1000, 1100, 1200, 1300, 1400, 1504, 2602] by first | exact nlm_in rfl | decide)
              have q43 : Frm [500] Y Ya := Frm.tr Frm.rf (Frm.mono hGYa (by first | exact nls_of rfl | decide))
              have hfe44 : cFc X25 Ya = cFc X Y := cFc.frm (M := [701, 707, 800, 900, 1000, 1100, 1200, 1300, 1400, 1504, 2602]) (N := [500]) hFX25 q43 (by decide) (by decide)
              have hre45 : cLa X25 Ya = cLa X Y ∧ cVl X25 Ya = cVl X Y ∧ cRid Ya = cRid Y := ⟨cLa.frm (M := [701, 707, 800, 900, 1000, 1100, 1200, 1300, 1400, 1504, 2602]) (N := [500]) hFX25 q43 (by decide) (by decide), cVl.frm (M := [701, 707, 800, 900, 1000, 1100, 1200, 1300, 1400, 1504, 2602]) (N := [500]) hFX25 q43 (by decide) (by decide), cRid.frm (N := [500]) q43 (by decide)⟩
              have e46 : X25 0 0 3 = X 0 0 3 := by rw [hX25, u3_k _ _ _ _ (by first | exact Nat.ne_of_beq_eq_false rfl | decide), hX18, u3_k _ _ _ _ (by first | exact Nat.ne_of_beq_eq_false rfl | decide), hGXa 0 0 3 (show 4 ∉ [701, 707, 800, 900, 1000, 1100, 1200, 1300, 1400, 1504, 2602] by first | exact nlm_ni rfl | decide)]
              refine gos_l (run_V (As := [.ref (ad 15 x), .int (jI k), .ref (ad 7 g)]) (rest := [.int (jI ((r * 5) + k)), .ref (ad 12 g)]) hx hb hml hown hts (c_X8_recordedValue l D tc base ad cnt X25 Ya ln hRX25 hFx hLn hCq33 x k g (by omega) (by simp only [e46]; omega) (by omega) (by omega) hO28 (by simp only [e29]; omega) (recK (cLa X Y) (cVl X Y) (cRid Y) sg r k.toNat) hT36 hR939 (5 * r + k) (by rw [hfe44]; unfold cFc; rw [tyo_some y1]; omega)) (cwV 3 hts gX8_recordFields_X8_recordedValue rfl rfl rfl (by first | exact hd_X8_recordedValue | decide +kernel) ⟨Nat.le_of_ble_eq_true rfl, Nat.le_of_ble_eq_true rfl⟩) hK hw (by first | exact Int.le_refl 0 | omega) (by first | exact zlt hc0 | omega) sl_0_0 rfl rfl hl.1 rfl (Nat.le_of_ble_eq_true rfl) dX8_recordFields_68 ⟨Nat.le_of_ble_eq_true rfl, Nat.le_of_ble_eq_true rfl⟩) hS (fun z47 u48 H locs p49 hw hS => ?_)
              obtain ⟨X50, Y51, eu48, hRX50, hG52, hJ53, hCIX50, p49, hOX50, hleX50, hnrX50, htvX50, hcsX50, hgkX50⟩ := p49
              subst eu48
              have hFX50 : Frm [701, 707, 800, 900, 1000, 1100, 1200, 1300, 1400, 1504, 2602] X X50 := Frm.tr hFX25 (Frm.mono hG52 (by first | exact nls_of rfl | decide))
              have hHY51 : Frm [500] Y Y51 := Frm.tr hHYa (Frm.mono hJ53 (by first | exact nls_of rfl | decide))
              rw [e30] at hleX50
              rw [e29] at hnrX50
              rw [hre45.1, hre45.2.1, hre45.2.2] at hcsX50
              refine x_last hx hb hK.1 hw hS (by omega) (by omega) ar_12 (len_E ar_12 (by first | exact Nat.ne_of_beq_eq_false rfl | decide)) (by omega) (by omega) (by omega) dX8_recordFields_71 (fun H locs hw hS => ?_)
              obtain ⟨X54, hX54⟩ : ∃ Xq, Xq = u3 X50 12 g ((r * 5) + k) z47 := ⟨_, rfl⟩
              rw [← hX54] at hw
              have hRX54 : Rng X54 := by rw [hX54]; exact rng_set hRX50 (show (-9223372036854775808) ≤ z47 ∧ z47 ≤ 9223372036854775807 by omega)
              have hVX54 : X54 12 g ((r * 5) + k) = z47 := by rw [hX54]; exact u3_s _ _ _ _ _
              have hFX54 : Frm [701, 707, 800, 900, 1000, 1100, 1200, 1300, 1400, 1504, 2602] X X54 := by rw [hX54]; exact Frm.set hFX50 (show 1200 ∈ [701, 707, 800, 900, 1000, 1100, 1200, 1300, 1400, 1504, 2602] by first | exact nlm_in rfl | decide)
              refine lv_iinc (v := jI (k + 1)) (lv' := [(4, .int (jI (k + 1))), (5, .int (jI ((r * 5) + k))), (0, .ref (ad 0 0)), (1, .ref (ad 15 x)), (2, .int (jI r)), (3, .ref (ad 7 g))]) hx hb dX8_recordFields_72 hl (k := 5) rfl (jI_add _ _) (by decide) rfl (fun ls hl => ?_)
              refine lv_goto (tgt := 3) hx hb dX8_recordFields_75 (by decide) ?_
              have q62 : Frm [1200] X50 X54 := by rw [hX54]; exact Frm.set Frm.rf (show 1200 ∈ [1200] by first | exact nlm_in rfl | decide)
              have hCq63 : CInv cnt X54 Y51 ln := cinv_frm (M := [1200]) (N := []) hCIX50 q62 Frm.rf (by decide) (by decide)
              have hO65 : rcOK X54 Y51 g := rcOK.frm (M := [1200]) (N := []) hOX50 q62 Frm.rf (by decide) (by decide)
              have e66 : X54 7 g 0 = X50 7 g 0 := by rw [hX54, u3_k _ _ _ _ (by first | exact Nat.ne_of_beq_eq_false rfl | decide)]
              have e67 : X54 7 g 6 = X50 7 g 6 := by rw [hX54, u3_k _ _ _ _ (by first | exact Nat.ne_of_beq_eq_false rfl | decide)]
              have q68 : Frm [1000] Xa X18 := by rw [hX18]; exact Frm.set Frm.rf (show 1000 ∈ [1000] by first | exact nlm_in rfl | decide)
              have q69 : Frm [701, 707, 800, 900, 1300, 1400, 1504, 2602] X25 X50 := Frm.tr Frm.rf (Frm.mono hG52 (by first | exact nls_of rfl | decide))
              have e70 : X50 11 g (r * 5 + k) = (X 21 r2 k) := (by rw [hG52 11 g (r * 5 + k) (show 1100 ∉ [701, 707, 800, 900, 1300, 1400, 1504, 2602] by first | exact nlm_ni rfl | decide)]; exact hVX25)
              have e71 : ∀ p9 q9 : Int, X25 21 p9 q9 = X 21 p9 q9 := fun p9 q9 => by rw [hX25, u3_k _ _ _ _ (by first | exact Nat.ne_of_beq_eq_false rfl | decide), hX18, u3_k _ _ _ _ (by first | exact Nat.ne_of_beq_eq_false rfl | decide), hGXa 21 p9 q9 (show 2100 ∉ [701, 707, 800, 900, 1000, 1100, 1200, 1300, 1400, 1504, 2602] by first | exact nlm_ni rfl | decide)]
              have q74 : Frm [701, 707, 800, 900, 1000, 1100, 1200, 1300, 1400, 1504, 2602] Xa X18 := by rw [hX18]; exact Frm.set Frm.rf (show 1000 ∈ [701, 707, 800, 900, 1000, 1100, 1200, 1300, 1400, 1504, 2602] by first | exact nlm_in rfl | decide)
              have q75 : Frm [701, 707, 800, 900, 1000, 1100, 1200, 1300, 1400, 1504, 2602] Xa X25 := by rw [hX25]; exact Frm.set q74 (show 1100 ∈ [701, 707, 800, 900, 1000, 1100, 1200, 1300, 1400, 1504, 2602] by first | exact nlm_in rfl | decide)
              have q76 : Frm [701, 707, 800, 900, 1000, 1100, 1200, 1300, 1400, 1504, 2602] Xa X50 := Frm.tr q75 (Frm.mono hG52 (by first | exact nls_of rfl | decide))
              have q77 : Frm [701, 707, 800, 900, 1000, 1100, 1200, 1300, 1400, 1504, 2602] Xa X54 := by rw [hX54]; exact Frm.set q76 (show 1200 ∈ [701, 707, 800, 900, 1000, 1100, 1200, 1300, 1400, 1504, 2602] by first | exact nlm_in rfl | decide)
              have q78 : Frm [500] Ya Y51 := Frm.tr Frm.rf (Frm.mono hJ53 (by first | exact nls_of rfl | decide))
              have hcs079 : cSt X X54 Y Y51 := cSt.of (L := [701, 707, 800, 900, 1000, 1100, 1200, 1300, 1400, 1504, 2602]) (N := [500]) hFX54 hHY51 (by decide) (by decide)
              have q87 : gK g X Xa := gK.tr gK.rf hgkXa
              have q88 : gK g X X18 := by rw [hX18]; exact gK.set q87 (fun _ => by first | rfl | omega)
              have q89 : gK g X X25 := by rw [hX25]; exact gK.set q88 (fun _ => by first | rfl | omega)
              have q90 : gK g X X50 := gK.tr q89 hgkX50
              have q91 : gK g X X54 := by rw [hX54]; exact gK.set q90 (fun _ => by first | rfl | omega)
              exact ih3 (k + 1) X54 Y51 _ _ _ (by omega) hRX54 hFX54 hHY51 (by omega) (hCq63) (hO65) ((by first | omega | (simp only [e66]; omega))) ((by first | omega | (simp only [e67]; omega))) ((by rw [hX54]; exact cRx.val (cRx.frm (by rw [hX25]; exact cRv.lane (cRv.frm hRa q68 (by decide))) q69 (by decide)) (fun h9 => by rw [e70] at h9; exact htvX50 r2 (by rw [hGYa 15 x 0 (show 1501 ∉ [500] by first | exact nlm_ni rfl | decide)]; exact y1) (by rw [e71]; exact h9)))) ((by rw [recK_s (by omega), hxr]; exact rcT.frm (M := [1200]) (N := []) hcsX50.1 q62 Frm.rf (by decide) (by decide))) ((by rw [recK_s (by omega), hxr]; exact rcR.frm (M := [1200]) (N := []) hcsX50.2.1 q62 Frm.rf (by decide) (by decide))) ((by rw [recK_s (by omega), hxr]; exact rcV.push hVa (cSt.of (L := [701, 707, 800, 900, 1000, 1100, 1200, 1300, 1400, 1504, 2602]) (N := [500]) q77 q78 (by decide) (by decide)) ⟨by omega, by omega⟩ (by omega) (fun t9 => by rw [show Xa 19 t9 1 = X 19 t9 1 from (by rw [hGXa 19 t9 1 (show 1902 ∉ [701, 707, 800, 900, 1000, 1100, 1200, 1300, 1400, 1504, 2602] by first | exact nlm_ni rfl | decide)])]; exact (hR 19 t9 1).2) (fun j hj => (by rw [hX54, u3_k _ _ _ _ (by first | exact Nat.ne_of_beq_eq_false rfl | decide), hG52 10 g j (show 1000 ∉ [701, 707, 800, 900, 1300, 1400, 1504, 2602] by first | exact nlm_ni rfl | decide), hX25, u3_k _ _ _ _ (by first | exact Nat.ne_of_beq_eq_false rfl | decide), hX18, u3_ij (by omega)])) (fun j hj => (by rw [hX54, u3_k _ _ _ _ (by first | exact Nat.ne_of_beq_eq_false rfl | decide), hG52 11 g j (show 1100 ∉ [701, 707, 800, 900, 1300, 1400, 1504, 2602] by first | exact nlm_ni rfl | decide), hX25, u3_ij (by omega), hX18, u3_k _ _ _ _ (by first | exact Nat.ne_of_beq_eq_false rfl | decide)])) (fun j hj => (by rw [hX54, u3_ij (by omega), hG52 12 g j (show 1200 ∉ [701, 707, 800, 900, 1300, 1400, 1504, 2602] by first | exact nlm_ni rfl | decide), hX25, u3_k _ _ _ _ (by first | exact Nat.ne_of_beq_eq_false rfl | decide), hX18, u3_k _ _ _ _ (by first | exact Nat.ne_of_beq_eq_false rfl | decide)])) (fun q a b => recP_o ⟨a, by omega⟩) (fun q hq => recP_5 hq) ⟨(by rw [recP_o ⟨by omega, by omega⟩, recK_o _ ⟨by omega, by omega⟩, hxr, hcs079.2.2.2, hcs079.2.1, tyo_some y1]; exact (by rw [show 5 * r + k = r * 5 + k by omega]; exact (by rw [hX54, u3_k _ _ _ _ (by first | exact Nat.ne_of_beq_eq_false rfl | decide), hG52 10 g (r * 5 + k) (show 1000 ∉ [701, 707, 800, 900, 1300, 1400, 1504, 2602] by first | exact nlm_ni rfl | decide), hX25, u3_k _ _ _ _ (by first | exact Nat.ne_of_beq_eq_false rfl | decide)]; exact hVX18))), (by rw [recP_o ⟨by omega, by omega⟩, recK_o _ ⟨by omega, by omega⟩, hxr]; unfold cLa; rw [hcs079.2.2.2, hcs079.2.2.1, tyo_some y1]; exact (by rw [show 5 * r + k = r * 5 + k by omega]; exact (by rw [hX54, u3_k _ _ _ _ (by first | exact Nat.ne_of_beq_eq_false rfl | decide), hG52 11 g (r * 5 + k) (show 1100 ∉ [701, 707, 800, 900, 1300, 1400, 1504, 2602] by first | exact nlm_ni rfl | decide)]; exact hVX25))), (by have h9 := hVX54; rw [show r * 5 + k = 5 * r + k by omega] at h9; rw [h9]; exact hcsX50.2.2)⟩)) (q91) ((by unfold cFc; rw [tyo_some y1]; omega)) hw hS (lv_sub hl [2, 3, 4, 5, 0] rfl)
  exact lp3 (5 - 0 : Int).toNat.succ 0 X Y _ _ _ (by omega) hR Frm.rf Frm.rf (by omega) (hCI) (hO) (Int.le_refl _) ((by omega)) (hRv) (hst) (hsr) (hsv) (gK.rf) ((hR 19 _ 1).1) hw hS (lv_sub hl [1, 2, 3, 4, 0] rfl)

set_option maxHeartbeats 4000000 in
set_option maxRecDepth 100000 in
theorem c_X8_recordFrom (l : Launch) (D : va_G) (tc : Nat → ClassId) (base : Nat) (ad : Nat → Int → Nat) (cnt : Nat → Int) (X : Nat → Int → Int → Int) (Y : Nat → Int → Int → Option Int) (ln : Int → Int) (hR : Rng X) (hFx : Fx cnt) (hLn : LnOK ln) (hCI : CInv cnt X Y ln) (x g : Int) (hx0 : 0 ≤ x ∧ x ≤ 29) (hxt : x < X 0 0 3) (hg : 0 ≤ g ∧ g < 6) (hRv : cRv X) : KV l D tc base yX8_recordFrom wsX8_recordFrom ({ frames := 3, cells := 0, slots := 0, locals := 72 } : Room) [.ref (ad 0 0), .ref (ad 15 x), .ref (ad 7 g)] (ad, cnt, X, Y, ln) 0 0 (fun u => ∃ (X1 : Nat → Int → Int → Int) (Y1 : Nat → Int → Int → Option Int), u = (ad, cnt, X1, Y1, ln) ∧ Rng X1 ∧ Frm [701, 707, 800, 900, 1000, 1100, 1200, 1300, 1400, 1504, 2602] X X1 ∧ Frm [500] Y Y1 ∧ CInv cnt X1 Y1 ln ∧ (0 : Int) ≤ 0 ∧ rcOK X1 Y1 g ∧ cRv X1 ∧ rcT X1 Y1 g (recR (cFc X Y) (cLa X Y) (cVl X Y) (cRid Y) x 30) ∧ rcR X1 Y1 ln g (recR (cFc X Y) (cLa X Y) (cVl X Y) (cRid Y) x 30) ∧ rcV X1 Y1 g (recR (cFc X Y) (cLa X Y) (cVl X Y) (cRid Y) x 30) (recR (cFc X Y) (cLa X Y) (cVl X Y) (cRid Y) x 30 0 0) 0 ∧ gK g X X1) := by
  refine K_of (cc := cX8_recordFrom) (maxL := 4) (ret := none) (by decide) rfl (Nat.le_of_ble_eq_true rfl) ?_
  intro p e s m below meth c ls hx hb hr hml hown hts hlocks hl hK hw hS
  have hown : s.vm.findClass RX8 = some m.cls := hown
  obtain ⟨av9, hav9⟩ : ∃ a9 : Array Value, a9 = ([.ref (ad 0 0), .ref (ad 15 x), .ref (ad 7 g)] : List Value).toArray := ⟨_, rfl⟩
  rw [← hav9] at hts ⊢
  obtain ⟨Q9, hQ9⟩ : ∃ q9Q : State → Prop, q9Q = MQ below (QV D tc base (fun u => ∃ (X1 : Nat → Int → Int → Int) (Y1 : Nat → Int → Int → Option Int), u = (ad, cnt, X1, Y1, ln) ∧ Rng X1 ∧ Frm [701, 707, 800, 900, 1000, 1100, 1200, 1300, 1400, 1504, 2602] X X1 ∧ Frm [500] Y Y1 ∧ CInv cnt X1 Y1 ln ∧ (0 : Int) ≤ 0 ∧ rcOK X1 Y1 g ∧ cRv X1 ∧ rcT X1 Y1 g (recR (cFc X Y) (cLa X Y) (cVl X Y) (cRid Y) x 30) ∧ rcR X1 Y1 ln g (recR (cFc X Y) (cLa X Y) (cVl X Y) (cRid Y) x 30) ∧ rcV X1 Y1 g (recR (cFc X Y) (cLa X Y) (cVl X Y) (cRid Y) x 30) (recR (cFc X Y) (cLa X Y) (cVl X Y) (cRid Y) x 30 0 0) 0 ∧ gK g X X1)) av9 s 0 0 (frA base) := ⟨_, rfl⟩
  rw [← hQ9]
  have hi4 : ∀ w ∈ wsX40, w ∈ wsX8_recordFrom := fun w h => List.mem_cons_of_mem _ (List.mem_append_left _ (List.mem_append_left _ (List.mem_append_left _ (List.mem_append_left _ (List.mem_append_right _ h)))))
  have hf4 : fctx s m _ RX8 wsX8_recordFrom D tc RX4 TX4 9 4 := ⟨hts, hi4, hown, hK.1, rfl⟩
  have hi8 : ∀ w ∈ wsX80, w ∈ wsX8_recordFrom := fun w h => List.mem_cons_of_mem _ (List.mem_append_left _ (List.mem_append_left _ (List.mem_append_left _ (List.mem_append_right _ h))))
  have hf8 : fctx s m _ RX8 wsX8_recordFrom D tc RX8 TX8 12 8 := ⟨hts, hi8, hown, hK.1, rfl⟩
  have lk39 := hts (.fieldLink RX8 39 (TX8 8).1 (TX8 8).2.1 (TX8 8).2.2.1) (gj_X8_recordFrom_0 _ (gp_1 (gp_1 gp_h)))
  have lk231 := hts (.fieldLink RX8 231 (TX4 0).1 (TX4 0).2.1 (TX4 0).2.2.1) (gj_X8_recordFrom_0 _ (gp_h))
  have lk234 := hts (.fieldLink RX8 234 (TX4 6).1 (TX4 6).2.1 (TX4 6).2.2.1) (gj_X8_recordFrom_0 _ (gp_1 gp_h))
  have hc0 : cnt 0 = 1 := hFx.at 0 1 (by decide)
  have hc5 : cnt 5 = 1 := hFx.at 5 1 (by decide)
  have hc7 : cnt 7 = 6 := hFx.at 7 6 (by decide)
  have hc15 : cnt 15 = 30 := hFx.at 15 30 (by decide)
  have hl : lv_has ls 4 [(0, .ref (ad 0 0)), (1, .ref (ad 15 x)), (2, .ref (ad 7 g))] := hl
  have ftc : 0 ≤ X 0 0 3 ∧ X 0 0 3 ≤ 30 := hR 0 0 3
  have fty : 0 ≤ X 0 0 1 ∧ X 0 0 1 ≤ 8 := hR 0 0 1
  have hct : cnt 19 = X 0 0 1 := hCI.2.2.2.1.1
  have hfj : 0 ≤ X 29 0 3 ∧ X 29 0 3 ≤ 4 := hR 29 0 3
  have hfn : 0 ≤ X 29 0 1 ∧ X 29 0 1 ≤ 80 := hR 29 0 1
  refine lv_aload_n hx hb dX8_recordFrom_0 rfl (lv_at hl 0 rfl) ?_
  refine gos_v (run_V (As := []) (rest := []) hx hb hml hown hts (c_X8_forgetNumbers l D tc base ad cnt X Y ln hR hFx hLn hCI) (cwV 0 hts gX8_recordFrom_X8_forgetNumbers rfl rfl rfl (by first | exact hd_X8_forgetNumbers | decide +kernel) ⟨Nat.le_of_ble_eq_true rfl, Nat.le_of_ble_eq_true rfl⟩) hK hw (by first | exact Int.le_refl 0 | omega) (by first | exact zlt hc0 | omega) sl_0_0 rfl rfl hl.1 rfl (Nat.le_of_ble_eq_true rfl) dX8_recordFrom_1 ⟨Nat.le_of_ble_eq_true rfl, Nat.le_of_ble_eq_true rfl⟩) hS (fun u2 H locs p3 hw hS => ?_)
  obtain ⟨X4, eu2, hRX4, hG5, hCIX4, p3, hfaX4, hfwX4⟩ := p3
  subst eu2
  have hFX4 : Frm [701, 707, 800, 900, 1000, 1100, 1200, 1300, 1400, 1504, 2602] X X4 := Frm.tr Frm.rf (Frm.mono hG5 (by first | exact nls_of rfl | decide))
  refine lv_aload_n hx hb dX8_recordFrom_4 rfl (lv_at hl 2 rfl) ?_
  refine lv_iconst (v := jI 0) hx hb dX8_recordFrom_5 rfl ?_
  refine x_puti (jz := 0) hx hb hf4 ⟨tyX4_ok, nmX4⟩ hw hS (by omega) (by omega) sl_7_0 rfl lk231 rfl (tyX4_ok 0 (by decide)) rfl rfl dX8_recordFrom_6 (fun H locs hw hS => ?_)
  obtain ⟨X6, hX6⟩ : ∃ Xq, Xq = u3 X4 7 g 0 0 := ⟨_, rfl⟩
  rw [← hX6] at hw
  have hRX6 : Rng X6 := by rw [hX6]; exact rng_set hRX4 (show 0 ≤ 0 ∧ 0 ≤ 30 by omega)
  have hVX6 : X6 7 g 0 = 0 := by rw [hX6]; exact u3_s _ _ _ _ _
  have hFX6 : Frm [701, 707, 800, 900, 1000, 1100, 1200, 1300, 1400, 1504, 2602] X X6 := by rw [hX6]; exact Frm.set hFX4 (show 701 ∈ [701, 707, 800, 900, 1000, 1100, 1200, 1300, 1400, 1504, 2602] by first | exact nlm_in rfl | decide)
  refine lv_aload_n hx hb dX8_recordFrom_9 rfl (lv_at hl 2 rfl) ?_
  refine lv_iconst (v := jI 0) hx hb dX8_recordFrom_10 rfl ?_
  refine x_puti (jz := 6) hx hb hf4 ⟨tyX4_ok, nmX4⟩ hw hS (by omega) (by omega) sl_7_6 rfl lk234 rfl (tyX4_ok 6 (by decide)) rfl rfl dX8_recordFrom_11 (fun H locs hw hS => ?_)
  obtain ⟨X7, hX7⟩ : ∃ Xq, Xq = u3 X6 7 g 6 0 := ⟨_, rfl⟩
  rw [← hX7] at hw
  have hRX7 : Rng X7 := by rw [hX7]; exact rng_set hRX6 (show 0 ≤ 0 ∧ 0 ≤ 150 by omega)
  have hVX7 : X7 7 g 6 = 0 := by rw [hX7]; exact u3_s _ _ _ _ _
  have hFX7 : Frm [701, 707, 800, 900, 1000, 1100, 1200, 1300, 1400, 1504, 2602] X X7 := by rw [hX7]; exact Frm.set hFX6 (show 707 ∈ [701, 707, 800, 900, 1000, 1100, 1200, 1300, 1400, 1504, 2602] by first | exact nlm_in rfl | decide)
  have q8 : Frm [701, 707] X4 X6 := by rw [hX6]; exact Frm.set Frm.rf (show 701 ∈ [701, 707] by first | exact nlm_in rfl | decide)
  have q9 : Frm [701, 707] X4 X7 := by rw [hX7]; exact Frm.set q8 (show 707 ∈ [701, 707] by first | exact nlm_in rfl | decide)
  have hO0 : rcOK X7 Y g := rcOK.nil (by rw [hX7, u3_ij (by omega)]; exact hVX6)
  have hCI0 : CInv cnt X7 Y ln := cinv_record (g := g) hCIX4 (Frm.mono q9 (by first | exact nls_of rfl | decide)) Frm.rf (fun i hi => ⟨(by rw [hX7, u3_ij (by omega), hX6, u3_ij (by omega)]), fun j => (by rw [hX7, u3_k _ _ _ _ (by first | exact Nat.ne_of_beq_eq_false rfl | decide), hX6, u3_k _ _ _ _ (by first | exact Nat.ne_of_beq_eq_false rfl | decide)])⟩) (fun r9 a b => by rw [hX7, u3_ij (by omega)] at b; rw [hVX6] at b; omega)
  have hT0 : rcT X7 Y g sg0 := ⟨(by rw [hX7, u3_ij (by omega)]; exact hVX6), fun i a b => absurd b (by show ¬ i < 0; omega), fun x9 a b => (by rw [hX7, u3_k _ _ _ _ (by first | exact Nat.ne_of_beq_eq_false rfl | decide), hX6, u3_k _ _ _ _ (by first | exact Nat.ne_of_beq_eq_false rfl | decide)]; exact hfaX4 x9 a (by rw [← (show X7 0 0 3 = X 0 0 3 from (by rw [hX7, u3_k _ _ _ _ (by first | exact Nat.ne_of_beq_eq_false rfl | decide), hX6, u3_k _ _ _ _ (by first | exact Nat.ne_of_beq_eq_false rfl | decide), hG5 0 0 3 (show 4 ∉ [1504, 2602] by first | exact nlm_ni rfl | decide)]))]; exact b))⟩
  refine lv_aload_n hx hb dX8_recordFrom_14 rfl (lv_at hl 0 rfl) ?_
  refine lv_aload_n hx hb dX8_recordFrom_15 rfl (lv_at hl 1 rfl) ?_
  refine lv_aload_n hx hb dX8_recordFrom_16 rfl (lv_at hl 2 rfl) ?_
  have e10 : X7 0 0 3 = X 0 0 3 := by rw [hX7, u3_k _ _ _ _ (by first | exact Nat.ne_of_beq_eq_false rfl | decide), hX6, u3_k _ _ _ _ (by first | exact Nat.ne_of_beq_eq_false rfl | decide), hG5 0 0 3 (show 4 ∉ [1504, 2602] by first | exact nlm_ni rfl | decide)]
  refine gos_i (run_V (As := [.ref (ad 15 x), .ref (ad 7 g)]) (rest := []) hx hb hml hown hts (c_X8_recordNumberOf l D tc base ad cnt X7 Y ln hRX7 hFx hLn hCI0 x g (by omega) (by simp only [e10]; omega) (by omega) hO0 (sg0) hT0) (cwV 2 hts gX8_recordFrom_X8_recordNumberOf rfl rfl rfl (by first | exact hd_X8_recordNumberOf | decide +kernel) ⟨Nat.le_of_ble_eq_true rfl, Nat.le_of_ble_eq_true rfl⟩) hK hw (by first | exact Int.le_refl 0 | omega) (by first | exact zlt hc0 | omega) sl_0_0 rfl rfl hl.1 rfl (Nat.le_of_ble_eq_true rfl) dX8_recordFrom_17 ⟨Nat.le_of_ble_eq_true rfl, Nat.le_of_ble_eq_true rfl⟩) hS (fun z11 u12 H locs p13 hw hS => ?_)
  obtain ⟨X14, Y15, eu12, hRX14, hG16, hJ17, hCIX14, p13, hOX14, hleX14, hzrX14, hTrX14, hgkX14⟩ := p13
  subst eu12
  have hFX14 : Frm [701, 707, 800, 900, 1000, 1100, 1200, 1300, 1400, 1504, 2602] X X14 := Frm.tr hFX7 (Frm.mono hG16 (by first | exact nls_of rfl | decide))
  have hHY15 : Frm [500] Y Y15 := Frm.tr Frm.rf (Frm.mono hJ17 (by first | exact nls_of rfl | decide))
  refine lv_pop hx hb dX8_recordFrom_20 rfl ?_
  refine lv_iconst (v := jI 0) hx hb dX8_recordFrom_21 rfl ?_
  refine lv_istore_n (lv' := [(3, .int (jI 0)), (0, .ref (ad 0 0)), (1, .ref (ad 15 x)), (2, .ref (ad 7 g))]) hx hb dX8_recordFrom_22 rfl hl (by decide) rfl (fun ls hl => ?_)
  have lp23 : ∀ (nn : Nat) (r : Int) (Xa : Nat → Int → Int → Int) (Ya : Nat → Int → Int → Option Int) (H : Heap) (locs : List Loc) (ls : Array Slot), (30 - r) < (nn : Int) → (Rng Xa) → (Frm [701, 707, 800, 900, 1000, 1100, 1200, 1300, 1400, 1504, 2602] X14 Xa) → (Frm [500] Y15 Ya) → (0 ≤ r ∧ r ≤ 30) → (CInv cnt Xa Ya ln) → (rcOK Xa Ya g) → (Xa 7 g 6 ≤ 5 * r) → (cRv Xa) → (rcT Xa Ya g (recR (cFc X Y) (cLa X Y) (cVl X Y) (cRid Y) x r.toNat)) → (rcR Xa Ya ln g (recR (cFc X Y) (cLa X Y) (cVl X Y) (cRid Y) x r.toNat)) → (rcV Xa Ya g (recR (cFc X Y) (cLa X Y) (cVl X Y) (cRid Y) x r.toNat) r 0) → (gK g X14 Xa) → wd D tc base (ad, cnt, Xa, Ya, ln) H → va_S (frA base) s.heap H locs → lv_has ls 4 [(0, .ref (ad 0 0)), (1, .ref (ad 15 x)), (2, .ref (ad 7 g)), (3, .int (jI r))] → W p l e ({ frames := 3, cells := 0, slots := 0, locals := 72 } : Room) s m av9 below meth c H locs 0 0 Q9 (F0 m 23 ls []) := by
    intro nn
    induction nn with
    | zero => intro r Xa Ya H locs ls hm hRXa hGXa hGYa hr0 hCIXa hOa hna hRa hTa hRr9 hVa hgkXa hw hS hl; exfalso; omega
    | succ nn ih23 =>
      intro r Xa Ya H locs ls hm hRXa hGXa hGYa hr0 hCIXa hOa hna hRa hTa hRr9 hVa hgkXa hw hS hl
      have hHYa : Frm [500] Y Ya := Frm.tr hHY15 (Frm.mono hGYa (by first | exact nls_of rfl | decide))
      have hFXa : Frm [701, 707, 800, 900, 1000, 1100, 1200, 1300, 1400, 1504, 2602] X Xa := Frm.tr hFX14 (Frm.mono hGXa (by first | exact nls_of rfl | decide))
      have hTa1 : Xa 7 g 0 = recR (cFc X Y) (cLa X Y) (cVl X Y) (cRid Y) x r.toNat 0 0 := hTa.1
      refine lv_iload_n hx hb dX8_recordFrom_23 rfl (lv_at hl 3 rfl) ?_
      refine lv_bipush (v := jI 30) hx hb dX8_recordFrom_24 (by decide) ?_
      refine x_icmp_ge (tgt := 55) hx hb (by omega) (by omega) dX8_recordFrom_26 (by decide) (fun c18 => ?_) (fun c18 => ?_)
      · rw [hQ9]
        refine ret_v (mc := 0) (ms := 0) hx hb hr hlocks hw hS (by first | exact Nat.le_of_ble_eq_true rfl | omega) (by first | exact Nat.le_of_ble_eq_true rfl | omega) dX8_recordFrom_55 ?_
        have f7g : 0 ≤ Xa 7 g 0 ∧ Xa 7 g 0 ≤ 30 := hRXa 7 g 0
        have hfs19 : recR (cFc X Y) (cLa X Y) (cVl X Y) (cRid Y) x 30 = recR (cFc X Y) (cLa X Y) (cVl X Y) (cRid Y) x r.toNat := recR_end ⟨by omega, by omega⟩ (by omega)
        have q20 : gK g X X4 := gK.tr gK.rf (gK.frm hG5 (by decide))
        have q21 : gK g X X6 := by rw [hX6]; exact gK.set q20 (fun _ => by first | rfl | omega)
        have q22 : gK g X X7 := by rw [hX7]; exact gK.set q21 (fun _ => by first | rfl | omega)
        have q23 : gK g X X14 := gK.tr q22 hgkX14
        have q24 : gK g X Xa := gK.tr q23 hgkXa
        exact ⟨Xa, Ya, rfl, hRXa, hFXa, hHYa, hCIXa, by omega, hOa, hRa, (by rw [hfs19]; exact hTa), (by rw [hfs19]; exact hRr9), (by rw [hfs19]; exact rcV.upto hVa (by omega)), q24⟩
      · refine lv_iload_n hx hb dX8_recordFrom_29 rfl (lv_at hl 3 rfl) ?_
        refine lv_aload_n hx hb dX8_recordFrom_30 rfl (lv_at hl 2 rfl) ?_
        refine x_geti (jz := 0) hx hb hf4 hw (by omega) (by omega) sl_7_0 rfl lk231 dX8_recordFrom_31 ?_
        have f25 : 0 ≤ Xa 7 g 0 ∧ Xa 7 g 0 ≤ 30 := hRXa 7 g 0
        refine x_icmp_ge (tgt := 55) hx hb (by omega) (by omega) dX8_recordFrom_34 (by decide) (fun c26 => ?_) (fun c26 => ?_)
        · rw [hQ9]
          refine ret_v (mc := 0) (ms := 0) hx hb hr hlocks hw hS (by first | exact Nat.le_of_ble_eq_true rfl | omega) (by first | exact Nat.le_of_ble_eq_true rfl | omega) dX8_recordFrom_55 ?_
          have f7g : 0 ≤ Xa 7 g 0 ∧ Xa 7 g 0 ≤ 30 := hRXa 7 g 0
          have hfs27 : recR (cFc X Y) (cLa X Y) (cVl X Y) (cRid Y) x 30 = recR (cFc X Y) (cLa X Y) (cVl X Y) (cRid Y) x r.toNat := recR_end ⟨by omega, by omega⟩ (by omega)
          have q28 : gK g X X4 := gK.tr gK.rf (gK.frm hG5 (by decide))
          have q29 : gK g X X6 := by rw [hX6]; exact gK.set q28 (fun _ => by first | rfl | omega)
          have q30 : gK g X X7 := by rw [hX7]; exact gK.set q29 (fun _ => by first | rfl | omega)
          have q31 : gK g X X14 := gK.tr q30 hgkX14
          have q32 : gK g X Xa := gK.tr q31 hgkXa
          exact ⟨Xa, Ya, rfl, hRXa, hFXa, hHYa, hCIXa, by omega, hOa, hRa, (by rw [hfs27]; exact hTa), (by rw [hfs27]; exact hRr9), (by rw [hfs27]; exact rcV.upto hVa (by omega)), q32⟩
        · refine lv_aload_n hx hb dX8_recordFrom_37 rfl (lv_at hl 0 rfl) ?_
          refine lv_aload_n hx hb dX8_recordFrom_38 rfl (lv_at hl 0 rfl) ?_
          refine x_geto hx hb hf8 hw (by first | exact Int.le_refl 0 | omega) (by first | exact zlt hc0 | omega) sl_0_8 lk39 dX8_recordFrom_39 ?_
          refine lv_iload_n hx hb dX8_recordFrom_42 rfl (lv_at hl 3 rfl) ?_
          refine x_aald hx hb hK.1 hw (by first | exact Int.le_refl 0 | omega) (by first | exact zlt hc5 | omega) ar_5 rfl (len_E ar_5 (by first | exact Nat.ne_of_beq_eq_false rfl | decide)) (by omega) (by omega) (by omega) dX8_recordFrom_43 (fun y33 => ?_) (fun r34 y33 gr34 lr34 => ?_)
          · exfalso
            obtain ⟨x9, e9, -⟩ := hOa.1 r (by omega) (by omega); rw [e9] at y33; cases y33
          · have e35 : Xa 0 0 3 = X 0 0 3 := by rw [hGXa 0 0 3 (show 4 ∉ [701, 707, 800, 900, 1000, 1100, 1200, 1300, 1400, 1504, 2602] by first | exact nlm_ni rfl | decide), hG16 0 0 3 (show 4 ∉ [1504, 701, 800, 900] by first | exact nlm_ni rfl | decide), hX7, u3_k _ _ _ _ (by first | exact Nat.ne_of_beq_eq_false rfl | decide), hX6, u3_k _ _ _ _ (by first | exact Nat.ne_of_beq_eq_false rfl | decide), hG5 0 0 3 (show 4 ∉ [1504, 2602] by first | exact nlm_ni rfl | decide)]
            have hb8 : r34 < X 0 0 3 := by obtain ⟨x9, e9, a9, b9, -⟩ := hOa.1 r (by omega) (by omega); rw [e9] at y33; cases y33; simp only [e35] at b9; exact b9
            have hx9 : recR (cFc X Y) (cLa X Y) (cVl X Y) (cRid Y) x r.toNat 1 r = r34 := by have h8 := (hTa.2.1 r (by omega) (by omega)).1; rw [y33] at h8; exact (Option.some.inj h8).symm
            refine lv_iload_n hx hb dX8_recordFrom_44 rfl (lv_at hl 3 rfl) ?_
            refine lv_aload_n hx hb dX8_recordFrom_45 rfl (lv_at hl 2 rfl) ?_
            have q36 : Frm [701, 707, 800, 900, 1000, 1100, 1200, 1300, 1400, 1504, 2602] X X4 := Frm.tr Frm.rf (Frm.mono hG5 (by first | exact nls_of rfl | decide))
            have q37 : Frm [701, 707, 800, 900, 1000, 1100, 1200, 1300, 1400, 1504, 2602] X X6 := by rw [hX6]; exact Frm.set q36 (show 701 ∈ [701, 707, 800, 900, 1000, 1100, 1200, 1300, 1400, 1504, 2602] by first | exact nlm_in rfl | decide)
            have q38 : Frm [701, 707, 800, 900, 1000, 1100, 1200, 1300, 1400, 1504, 2602] X X7 := by rw [hX7]; exact Frm.set q37 (show 707 ∈ [701, 707, 800, 900, 1000, 1100, 1200, 1300, 1400, 1504, 2602] by first | exact nlm_in rfl | decide)
            have q39 : Frm [701, 707, 800, 900, 1000, 1100, 1200, 1300, 1400, 1504, 2602] X X14 := Frm.tr q38 (Frm.mono hG16 (by first | exact nls_of rfl | decide))
            have q40 : Frm [701, 707, 800, 900, 1000, 1100, 1200, 1300, 1400, 1504, 2602] X Xa := Frm.tr q39 (Frm.mono hGXa (by first | exact nls_of rfl | decide))
            have q41 : Frm [500] Y Y15 := Frm.tr Frm.rf (Frm.mono hJ17 (by first | exact nls_of rfl | decide))
            have q42 : Frm [500] Y Ya := Frm.tr q41 (Frm.mono hGYa (by first | exact nls_of rfl | decide))
            have hre43 : cLa Xa Ya = cLa X Y ∧ cVl Xa Ya = cVl X Y ∧ cRid Ya = cRid Y ∧ cFc Xa Ya = cFc X Y := ⟨cLa.frm (M := [701, 707, 800, 900, 1000, 1100, 1200, 1300, 1400, 1504, 2602]) (N := [500]) q40 q42 (by decide) (by decide), cVl.frm (M := [701, 707, 800, 900, 1000, 1100, 1200, 1300, 1400, 1504, 2602]) (N := [500]) q40 q42 (by decide) (by decide), cRid.frm (N := [500]) q42 (by decide), cFc.frm (M := [701, 707, 800, 900, 1000, 1100, 1200, 1300, 1400, 1504, 2602]) (N := [500]) q40 q42 (by decide) (by decide)⟩
            refine gos_v (run_V (As := [.ref (ad 15 r34), .int (jI r), .ref (ad 7 g)]) (rest := []) hx hb hml hown hts (c_X8_recordFields l D tc base ad cnt Xa Ya ln hRXa hFx hLn hCIXa r34 r g (by omega) (by simp only [e35]; omega) (by omega) (by omega) hOa (by omega) hRa (recR (cFc X Y) (cLa X Y) (cVl X Y) (cRid Y) x r.toNat) hTa hRr9 hVa hx9 (by omega)) (cwV 3 hts gX8_recordFrom_X8_recordFields rfl rfl rfl (by first | exact hd_X8_recordFields | decide +kernel) ⟨Nat.le_of_ble_eq_true rfl, Nat.le_of_ble_eq_true rfl⟩) hK hw (by first | exact Int.le_refl 0 | omega) (by first | exact zlt hc0 | omega) sl_0_0 rfl rfl hl.1 rfl (Nat.le_of_ble_eq_true rfl) dX8_recordFrom_46 ⟨Nat.le_of_ble_eq_true rfl, Nat.le_of_ble_eq_true rfl⟩) hS (fun u46 H locs p47 hw hS => ?_)
            obtain ⟨X48, Y49, eu46, hRX48, hG50, hJ51, hCIX48, p47, hOX48, hleX48, hnrX48, hRvX48, hTfX48, hRfX48, hVfX48, hgkX48⟩ := p47
            subst eu46
            have hFX48 : Frm [701, 707, 800, 900, 1000, 1100, 1200, 1300, 1400, 1504, 2602] X X48 := Frm.tr hFXa (Frm.mono hG50 (by first | exact nls_of rfl | decide))
            have hHY49 : Frm [500] Y Y49 := Frm.tr hHYa (Frm.mono hJ51 (by first | exact nls_of rfl | decide))
            rw [hre43.1, hre43.2.1, hre43.2.2.1, hre43.2.2.2] at hTfX48 hRfX48 hVfX48
            refine lv_iinc (v := jI (r + 1)) (lv' := [(3, .int (jI (r + 1))), (0, .ref (ad 0 0)), (1, .ref (ad 15 x)), (2, .ref (ad 7 g))]) hx hb dX8_recordFrom_49 hl (k := 3) rfl (jI_add _ _) (by decide) rfl (fun ls hl => ?_)
            refine lv_goto (tgt := 23) hx hb dX8_recordFrom_52 (by decide) ?_
            have q52 : Frm [701, 707, 800, 900, 1000, 1100, 1200, 1300, 1400, 1504, 2602] X14 Xa := Frm.tr Frm.rf (Frm.mono hGXa (by first | exact nls_of rfl | decide))
            have q53 : Frm [701, 707, 800, 900, 1000, 1100, 1200, 1300, 1400, 1504, 2602] X14 X48 := Frm.tr q52 (Frm.mono hG50 (by first | exact nls_of rfl | decide))
            have q54 : Frm [500] Y15 Ya := Frm.tr Frm.rf (Frm.mono hGYa (by first | exact nls_of rfl | decide))
            have q55 : Frm [500] Y15 Y49 := Frm.tr q54 (Frm.mono hJ51 (by first | exact nls_of rfl | decide))
            have q56 : gK g X14 Xa := gK.tr gK.rf hgkXa
            have q57 : gK g X14 X48 := gK.tr q56 hgkX48
            exact ih23 (r + 1) X48 Y49 _ _ _ (by omega) hRX48 q53 q55 (by omega) (hCIX48) (hOX48) ((by omega)) (hRvX48) ((by rw [recR_next (by omega) (by omega) (by rw [hx9])]; exact hTfX48)) ((by rw [recR_next (by omega) (by omega) (by rw [hx9])]; exact hRfX48)) ((by rw [recR_next (by omega) (by omega) (by rw [hx9])]; exact hVfX48)) (q57) hw hS (lv_sub hl [1, 2, 3, 0] rfl)
  have e58 : X14 7 g 6 = X7 7 g 6 := by rw [hG16 7 g 6 (show 707 ∉ [1504, 701, 800, 900] by first | exact nlm_ni rfl | decide)]
  have q59 : Frm [701, 707, 800, 900, 1504, 2602] X X4 := Frm.tr Frm.rf (Frm.mono hG5 (by first | exact nls_of rfl | decide))
  have q60 : Frm [701, 707, 800, 900, 1504, 2602] X X6 := by rw [hX6]; exact Frm.set q59 (show 701 ∈ [701, 707, 800, 900, 1504, 2602] by first | exact nlm_in rfl | decide)
  have q61 : Frm [701, 707, 800, 900, 1504, 2602] X X7 := by rw [hX7]; exact Frm.set q60 (show 707 ∈ [701, 707, 800, 900, 1504, 2602] by first | exact nlm_in rfl | decide)
  have q62 : Frm [701, 707, 800, 900, 1504, 2602] X X14 := Frm.tr q61 (Frm.mono hG16 (by first | exact nls_of rfl | decide))
  have q68 : Frm [500] Y Y15 := Frm.tr Frm.rf (Frm.mono hJ17 (by first | exact nls_of rfl | decide))
  have hff63 : cFc X14 Y15 = cFc X Y := cFc.frm (M := [701, 707, 800, 900, 1504, 2602]) (N := [500]) q62 q68 (by decide) (by decide)
  exact lp23 (30 - 0 : Int).toNat.succ 0 X14 Y15 _ _ _ (by omega) hRX14 Frm.rf Frm.rf (by omega) (hCIX14) (hOX14) ((by simp only [e58]; omega)) (hRv.frm q62 (by decide)) (rcT.init hTrX14) (rcR.init (by rw [hG16 7 g 6 (show 707 ∉ [1504, 701, 800, 900] by first | exact nlm_ni rfl | decide)]; exact hVX7) (fun y k w9 a b c d e9 => (by rw [hG16 26 w9 1 (show 2602 ∉ [1504, 701, 800, 900] by first | exact nlm_ni rfl | decide), hX7, u3_k _ _ _ _ (by first | exact Nat.ne_of_beq_eq_false rfl | decide), hX6, u3_k _ _ _ _ (by first | exact Nat.ne_of_beq_eq_false rfl | decide)]; exact hfwX4 y k w9 a (by rw [← (show X14 0 0 3 = X 0 0 3 from (by rw [hG16 0 0 3 (show 4 ∉ [1504, 701, 800, 900] by first | exact nlm_ni rfl | decide), hX7, u3_k _ _ _ _ (by first | exact Nat.ne_of_beq_eq_false rfl | decide), hX6, u3_k _ _ _ _ (by first | exact Nat.ne_of_beq_eq_false rfl | decide), hG5 0 0 3 (show 4 ∉ [1504, 2602] by first | exact nlm_ni rfl | decide)]))]; exact b) c (by rw [← hff63]; exact d) (by rw [← (show Y15 17 y k = Y 17 y k from (by rw [hJ17 17 y k (show 1700 ∉ [500] by first | exact nlm_ni rfl | decide)]))]; exact e9)))) (⟨fun r' k' a b => by omega, fun k' a b => by omega⟩) (gK.rf) hw hS (lv_sub hl [1, 2, 3, 0] rfl)
end
section
set_option maxHeartbeats 4000000 in
set_option maxRecDepth 100000 in
theorem c_X8_firstShutSlot (l : Launch) (D : va_G) (tc : Nat → ClassId) (base : Nat) (ad : Nat → Int → Nat) (cnt : Nat → Int) (X : Nat → Int → Int → Int) (Y : Nat → Int → Int → Option Int) (ln : Int → Int) (hR : Rng X) (hFx : Fx cnt) (hLn : LnOK ln) (hCI : CInv cnt X Y ln) (g : Int) (hg : 0 ≤ g ∧ g < 6) (hO : rcOK X Y g) : KI l D tc base yX8_firstShutSlot wsX8_firstShutSlot ({ frames := 0, cells := 0, slots := 0, locals := 0 } : Room) [.ref (ad 0 0), .ref (ad 7 g)] (ad, cnt, X, Y, ln) 0 0 (fun z u => u = (ad, cnt, X, Y, ln) ∧ (-1 ≤ z ∧ z ≤ 149) ∧ ((z = -1 ∧ ∀ r x k, 0 ≤ r → r < X 7 g 0 → Y 5 0 r = some x → 0 ≤ k → k < cFc X Y x → X 23 (tyo (Y 15 x 0)) k = 0) ∨ (0 ≤ z ∧ ∃ r x k, 0 ≤ r ∧ r < X 7 g 0 ∧ Y 5 0 r = some x ∧ 0 ≤ k ∧ k < cFc X Y x ∧ X 23 (tyo (Y 15 x 0)) k ≠ 0))) := by
  refine K_of (cc := cX8_firstShutSlot) (maxL := 5) (ret := (some .int)) (by decide) rfl (Nat.le_of_ble_eq_true rfl) ?_
  intro p e s m below meth c ls hx hb hr hml hown hts hlocks hl hK hw hS
  have hown : s.vm.findClass RX8 = some m.cls := hown
  obtain ⟨av9, hav9⟩ : ∃ a9 : Array Value, a9 = ([.ref (ad 0 0), .ref (ad 7 g)] : List Value).toArray := ⟨_, rfl⟩
  rw [← hav9] at hts ⊢
  obtain ⟨Q9, hQ9⟩ : ∃ q9Q : State → Prop, q9Q = MQ below (QI D tc base (fun z u => u = (ad, cnt, X, Y, ln) ∧ (-1 ≤ z ∧ z ≤ 149) ∧ ((z = -1 ∧ ∀ r x k, 0 ≤ r → r < X 7 g 0 → Y 5 0 r = some x → 0 ≤ k → k < cFc X Y x → X 23 (tyo (Y 15 x 0)) k = 0) ∨ (0 ≤ z ∧ ∃ r x k, 0 ≤ r ∧ r < X 7 g 0 ∧ Y 5 0 r = some x ∧ 0 ≤ k ∧ k < cFc X Y x ∧ X 23 (tyo (Y 15 x 0)) k ≠ 0)))) av9 s 0 0 (frA base) := ⟨_, rfl⟩
  rw [← hQ9]
  have hi4 : ∀ w ∈ wsX40, w ∈ wsX8_firstShutSlot := fun w h => List.mem_cons_of_mem _ (List.mem_append_left _ (List.mem_append_left _ (List.mem_append_left _ (List.mem_append_right _ h))))
  have hf4 : fctx s m _ RX8 wsX8_firstShutSlot D tc RX4 TX4 9 4 := ⟨hts, hi4, hown, hK.1, rfl⟩
  have hi6 : ∀ w ∈ wsX60, w ∈ wsX8_firstShutSlot := fun w h => List.mem_cons_of_mem _ (List.mem_append_left _ (List.mem_append_right _ h))
  have hf6 : fctx s m _ RX8 wsX8_firstShutSlot D tc RX6 TX6 4 6 := ⟨hts, hi6, hown, hK.1, rfl⟩
  have hi7 : ∀ w ∈ wsX70, w ∈ wsX8_firstShutSlot := fun w h => List.mem_cons_of_mem _ (List.mem_append_right _ h)
  have hf7 : fctx s m _ RX8 wsX8_firstShutSlot D tc RX7 TX7 8 7 := ⟨hts, hi7, hown, hK.1, rfl⟩
  have hi8 : ∀ w ∈ wsX80, w ∈ wsX8_firstShutSlot := fun w h => List.mem_cons_of_mem _ (List.mem_append_left _ (List.mem_append_left _ (List.mem_append_right _ h)))
  have hf8 : fctx s m _ RX8 wsX8_firstShutSlot D tc RX8 TX8 12 8 := ⟨hts, hi8, hown, hK.1, rfl⟩
  have lk39 := hts (.fieldLink RX8 39 (TX8 8).1 (TX8 8).2.1 (TX8 8).2.2.1) (gj_X8_firstShutSlot_0 _ (gp_1 gp_h))
  have lk85 := hts (.fieldLink RX8 85 (TX7 1).1 (TX7 1).2.1 (TX7 1).2.2.1) (gj_X8_firstShutSlot_0 _ (gp_1 (gp_1 (gp_1 gp_h))))
  have lk97 := hts (.fieldLink RX8 97 (TX6 0).1 (TX6 0).2.1 (TX6 0).2.2.1) (gj_X8_firstShutSlot_0 _ (gp_1 (gp_1 gp_h)))
  have lk112 := hts (.fieldLink RX8 112 (TX7 5).1 (TX7 5).2.1 (TX7 5).2.2.1) (gj_X8_firstShutSlot_0 _ (gp_4 gp_h))
  have lk231 := hts (.fieldLink RX8 231 (TX4 0).1 (TX4 0).2.1 (TX4 0).2.2.1) (gj_X8_firstShutSlot_0 _ (gp_h))
  have hc0 : cnt 0 = 1 := hFx.at 0 1 (by decide)
  have hc5 : cnt 5 = 1 := hFx.at 5 1 (by decide)
  have hc7 : cnt 7 = 6 := hFx.at 7 6 (by decide)
  have hc15 : cnt 15 = 30 := hFx.at 15 30 (by decide)
  have hc23 : cnt 23 = cnt 19 := hFx.2.1 23 (by decide)
  have hl : lv_has ls 5 [(0, .ref (ad 0 0)), (1, .ref (ad 7 g))] := hl
  have ftc : 0 ≤ X 0 0 3 ∧ X 0 0 3 ≤ 30 := hR 0 0 3
  have fty : 0 ≤ X 0 0 1 ∧ X 0 0 1 ≤ 8 := hR 0 0 1
  have hct : cnt 19 = X 0 0 1 := hCI.2.2.2.1.1
  have hfj : 0 ≤ X 29 0 3 ∧ X 29 0 3 ≤ 4 := hR 29 0 3
  have hfn : 0 ≤ X 29 0 1 ∧ X 29 0 1 ≤ 80 := hR 29 0 1
  refine lv_iconst (v := jI 0) hx hb dX8_firstShutSlot_0 rfl ?_
  refine lv_istore_n (lv' := [(2, .int (jI 0)), (0, .ref (ad 0 0)), (1, .ref (ad 7 g))]) hx hb dX8_firstShutSlot_1 rfl hl (by decide) rfl (fun ls hl => ?_)
  have lp2 : ∀ (nn : Nat) (r : Int) (H : Heap) (locs : List Loc) (ls : Array Slot), (30 - r) < (nn : Int) → (0 ≤ r ∧ r ≤ 30) → (∀ r9 x9 k9, 0 ≤ r9 → r9 < r → Y 5 0 r9 = some x9 → 0 ≤ k9 → k9 < cFc X Y x9 → X 23 (tyo (Y 15 x9 0)) k9 = 0) → wd D tc base (ad, cnt, X, Y, ln) H → va_S (frA base) s.heap H locs → lv_has ls 5 [(0, .ref (ad 0 0)), (1, .ref (ad 7 g)), (2, .int (jI r))] → W p l e ({ frames := 0, cells := 0, slots := 0, locals := 0 } : Room) s m av9 below meth c H locs 0 0 Q9 (F0 m 2 ls []) := by
    intro nn
    induction nn with
    | zero => intro r H locs ls hm hr0 hnr hw hS hl; exfalso; omega
    | succ nn ih2 =>
      intro r H locs ls hm hr0 hnr hw hS hl
      refine lv_iload_n hx hb dX8_firstShutSlot_2 rfl (lv_at hl 2 rfl) ?_
      refine lv_aload_n hx hb dX8_firstShutSlot_3 rfl (lv_at hl 1 rfl) ?_
      refine x_geti (jz := 0) hx hb hf4 hw (by omega) (by omega) sl_7_0 rfl lk231 dX8_firstShutSlot_4 ?_
      have f1 : 0 ≤ X 7 g 0 ∧ X 7 g 0 ≤ 30 := hR 7 g 0
      refine x_icmp_ge (tgt := 61) hx hb (by omega) (by omega) dX8_firstShutSlot_7 (by decide) (fun c2 => ?_) (fun c2 => ?_)
      · refine lv_iconst (v := jI (-1)) hx hb dX8_firstShutSlot_61 rfl ?_
        rw [hQ9]
        refine ret_i (mc := 0) (ms := 0) hx hb hr hlocks hw hS (by first | exact Nat.le_of_ble_eq_true rfl | omega) (by first | exact Nat.le_of_ble_eq_true rfl | omega) dX8_firstShutSlot_62 ?_
        exact ⟨rfl, by omega, Or.inl ⟨rfl, fun r9 x9 k9 a b c d e9 => hnr r9 x9 k9 a (by omega) c d e9⟩⟩
      · refine lv_aload_n hx hb dX8_firstShutSlot_10 rfl (lv_at hl 0 rfl) ?_
        refine x_geto hx hb hf8 hw (by first | exact Int.le_refl 0 | omega) (by first | exact zlt hc0 | omega) sl_0_8 lk39 dX8_firstShutSlot_11 ?_
        refine lv_iload_n hx hb dX8_firstShutSlot_14 rfl (lv_at hl 2 rfl) ?_
        refine x_aald hx hb hK.1 hw (by first | exact Int.le_refl 0 | omega) (by first | exact zlt hc5 | omega) ar_5 rfl (len_E ar_5 (by first | exact Nat.ne_of_beq_eq_false rfl | decide)) (by omega) (by omega) (by omega) dX8_firstShutSlot_15 (fun y3 => ?_) (fun r4 y3 gr4 lr4 => ?_)
        · exfalso
          obtain ⟨x9, e9, -⟩ := hO.1 r (by omega) (by omega); rw [e9] at y3; cases y3
        · have hb8 : r4 < X 0 0 3 := by obtain ⟨x9, e9, a9, b9, -⟩ := hO.1 r (by omega) (by omega); rw [e9] at y3; cases y3; exact b9
          refine x_getr (jz := 0) hx hb hf6 hw (by omega) (by omega) sl_15_0 rfl lk97 dX8_firstShutSlot_16 (fun y5 => ?_) (fun r6 y5 gr6 lr6 => ?_)
          · exfalso
            exact absurd y5 (hCI.2.2.2.2.1 r4 (by omega) (by omega))
          · refine lv_astore_n (lv' := [(3, .ref (ad 19 r6)), (0, .ref (ad 0 0)), (1, .ref (ad 7 g)), (2, .int (jI r))]) hx hb dX8_firstShutSlot_19 rfl hl (by decide) rfl (fun ls hl => ?_)
            refine lv_iconst (v := jI 0) hx hb dX8_firstShutSlot_20 rfl ?_
            refine lv_istore (lv' := [(4, .int (jI 0)), (3, .ref (ad 19 r6)), (0, .ref (ad 0 0)), (1, .ref (ad 7 g)), (2, .int (jI r))]) hx hb dX8_firstShutSlot_21 hl (by decide) rfl (fun ls hl => ?_)
            have lp23 : ∀ (nn : Nat) (k : Int) (H : Heap) (locs : List Loc) (ls : Array Slot), (5 - k) < (nn : Int) → (0 ≤ k ∧ k ≤ 5) → (∀ k9, 0 ≤ k9 → k9 < k → X 23 r6 k9 = 0) → wd D tc base (ad, cnt, X, Y, ln) H → va_S (frA base) s.heap H locs → lv_has ls 5 [(0, .ref (ad 0 0)), (1, .ref (ad 7 g)), (2, .int (jI r)), (3, .ref (ad 19 r6)), (4, .int (jI k))] → W p l e ({ frames := 0, cells := 0, slots := 0, locals := 0 } : Room) s m av9 below meth c H locs 0 0 Q9 (F0 m 23 ls []) := by
              intro nn
              induction nn with
              | zero => intro k H locs ls hm hk hnk hw hS hl; exfalso; omega
              | succ nn ih23 =>
                intro k H locs ls hm hk hnk hw hS hl
                refine lv_iload hx hb dX8_firstShutSlot_23 (lv_at hl 4 rfl) ?_
                refine lv_aload_n hx hb dX8_firstShutSlot_25 rfl (lv_at hl 3 rfl) ?_
                refine x_geti (jz := 1) hx hb hf7 hw (by omega) (by omega) sl_19_1 rfl lk85 dX8_firstShutSlot_26 ?_
                have f7 : 0 ≤ X 19 r6 1 ∧ X 19 r6 1 ≤ 5 := hR 19 r6 1
                refine x_icmp_ge (tgt := 55) hx hb (by omega) (by omega) dX8_firstShutSlot_29 (by decide) (fun c8 => ?_) (fun c8 => ?_)
                · refine lv_iinc (v := jI (r + 1)) (lv' := [(2, .int (jI (r + 1))), (0, .ref (ad 0 0)), (1, .ref (ad 7 g)), (3, .ref (ad 19 r6)), (4, .int (jI k))]) hx hb dX8_firstShutSlot_55 hl (k := 2) rfl (jI_add _ _) (by decide) rfl (fun ls hl => ?_)
                  refine lv_goto (tgt := 2) hx hb dX8_firstShutSlot_58 (by decide) ?_
                  exact ih2 (r + 1) _ _ _ (by omega) (by omega) (fun r9 x9 k9 a b c d e9 => if hr9 : r9 = r then (by rw [hr9, y3] at c; cases c; unfold cFc at e9; rw [tyo_some y5] at e9 ⊢; exact hnk k9 d (by omega)) else hnr r9 x9 k9 a (by omega) c d e9) hw hS (lv_sub hl [1, 2, 0] rfl)
                · refine lv_aload_n hx hb dX8_firstShutSlot_32 rfl (lv_at hl 3 rfl) ?_
                  refine x_geto hx hb hf7 hw (by omega) (by omega) sl_19_5 lk112 dX8_firstShutSlot_33 ?_
                  refine lv_iload hx hb dX8_firstShutSlot_36 (lv_at hl 4 rfl) ?_
                  refine x_zald hx hb hK.1 hw (by omega) (by omega) ar_23 (len_E ar_23 (by first | exact Nat.ne_of_beq_eq_false rfl | decide)) (by omega) (by omega) (by omega) dX8_firstShutSlot_38 ?_
                  have f9 : 0 ≤ X 23 r6 k ∧ X 23 r6 k ≤ 1 := hR 23 r6 k
                  refine x_if_eq (tgt := 49) hx hb (by omega) dX8_firstShutSlot_39 (by decide) (fun c10 => ?_) (fun c10 => ?_)
                  · refine lv_iinc (v := jI (k + 1)) (lv' := [(4, .int (jI (k + 1))), (0, .ref (ad 0 0)), (1, .ref (ad 7 g)), (2, .int (jI r)), (3, .ref (ad 19 r6))]) hx hb dX8_firstShutSlot_49 hl (k := 4) rfl (jI_add _ _) (by decide) rfl (fun ls hl => ?_)
                    refine lv_goto (tgt := 23) hx hb dX8_firstShutSlot_52 (by decide) ?_
                    exact ih23 (k + 1) _ _ _ (by omega) (by omega) (fun k9 a b => if hk9 : k9 = k then (by rw [hk9]; omega) else hnk k9 a (by omega)) hw hS (lv_sub hl [1, 2, 3, 4, 0] rfl)
                  · refine lv_iload_n hx hb dX8_firstShutSlot_42 rfl (lv_at hl 2 rfl) ?_
                    refine lv_iconst (v := jI 5) hx hb dX8_firstShutSlot_43 rfl ?_
                    refine x_imul hx hb dX8_firstShutSlot_44 ?_
                    refine lv_iload hx hb dX8_firstShutSlot_45 (lv_at hl 4 rfl) ?_
                    refine x_iadd hx hb dX8_firstShutSlot_47 ?_
                    rw [hQ9]
                    refine ret_i (mc := 0) (ms := 0) hx hb hr hlocks hw hS (by first | exact Nat.le_of_ble_eq_true rfl | omega) (by first | exact Nat.le_of_ble_eq_true rfl | omega) dX8_firstShutSlot_48 ?_
                    exact ⟨rfl, by omega, Or.inr ⟨by omega, r, r4, k, by omega, by omega, y3, by omega, (by unfold cFc; rw [tyo_some y5]; omega), (by rw [tyo_some y5]; omega)⟩⟩
            exact lp23 (5 - 0 : Int).toNat.succ 0 _ _ _ (by omega) (by omega) (fun k9 a b => by omega) hw hS (lv_sub hl [2, 3, 4, 1, 0] rfl)
  exact lp2 (30 - 0 : Int).toNat.succ 0 _ _ _ (by omega) (by omega) (fun r9 x9 k9 a b => by omega) hw hS (lv_sub hl [1, 2, 0] rfl)

set_option maxHeartbeats 4000000 in
set_option maxRecDepth 100000 in
theorem c_X4_hasItemsOf (l : Launch) (D : va_G) (tc : Nat → ClassId) (base : Nat) (ad : Nat → Int → Nat) (cnt : Nat → Int) (X : Nat → Int → Int → Int) (Y : Nat → Int → Int → Option Int) (ln : Int → Int) (hR : Rng X) (hFx : Fx cnt) (hLn : LnOK ln) (g o i : Int) (hg : 0 ≤ g ∧ g < 6) (ho : 0 ≤ o ∧ o < 6) (hi0 : 0 ≤ i ∧ i ≤ 149) : KI l D tc base yX4_hasItemsOf wsX4_hasItemsOf ({ frames := 0, cells := 0, slots := 0, locals := 0 } : Room) [.ref (ad 7 g), .ref (ad 7 o), .int (jI i)] (ad, cnt, X, Y, ln) 0 0 (fun z u => u = (ad, cnt, X, Y, ln) ∧ (0 ≤ z ∧ z ≤ 1) ∧ ((z = 1 ∧ itE X g o i) ∨ (z = 0 ∧ ¬ itE X g o i))) := by
  refine K_of (cc := cX4_hasItemsOf) (maxL := 4) (ret := (some .boolean)) (by decide) rfl (Nat.le_of_ble_eq_true rfl) ?_
  intro p e s m below meth c ls hx hb hr hml hown hts hlocks hl hK hw hS
  have hown : s.vm.findClass RX4 = some m.cls := hown
  obtain ⟨av9, hav9⟩ : ∃ a9 : Array Value, a9 = ([.ref (ad 7 g), .ref (ad 7 o), .int (jI i)] : List Value).toArray := ⟨_, rfl⟩
  rw [← hav9] at hts ⊢
  obtain ⟨Q9, hQ9⟩ : ∃ q9Q : State → Prop, q9Q = MQ below (QI D tc base (fun z u => u = (ad, cnt, X, Y, ln) ∧ (0 ≤ z ∧ z ≤ 1) ∧ ((z = 1 ∧ itE X g o i) ∨ (z = 0 ∧ ¬ itE X g o i)))) av9 s 0 0 (frA base) := ⟨_, rfl⟩
  rw [← hQ9]
  have hi4 : ∀ w ∈ wsX40, w ∈ wsX4_hasItemsOf := fun w h => List.mem_cons_of_mem _ (List.mem_append_right _ h)
  have hf4 : fctx s m _ RX4 wsX4_hasItemsOf D tc RX4 TX4 9 4 := ⟨hts, hi4, hown, hK.1, rfl⟩
  have lk28 := hts (.fieldLink RX4 28 (TX4 7).1 (TX4 7).2.1 (TX4 7).2.2.1) (gj_X4_hasItemsOf_0 _ (gp_h))
  have lk31 := hts (.fieldLink RX4 31 (TX4 8).1 (TX4 8).2.1 (TX4 8).2.2.1) (gj_X4_hasItemsOf_0 _ (gp_1 gp_h))
  have hc7 : cnt 7 = 6 := hFx.at 7 6 (by decide)
  have hc13 : cnt 13 = 6 := hFx.at 13 6 (by decide)
  have hc14 : cnt 14 = 6 := hFx.at 14 6 (by decide)
  have hl : lv_has ls 4 [(0, .ref (ad 7 g)), (1, .ref (ad 7 o)), (2, .int (jI i))] := hl
  refine lv_aload_n hx hb dX4_hasItemsOf_0 rfl (lv_at hl 0 rfl) ?_
  refine x_geto hx hb hf4 hw (by omega) (by omega) sl_7_7 lk28 dX4_hasItemsOf_1 ?_
  refine lv_iload_n hx hb dX4_hasItemsOf_4 rfl (lv_at hl 2 rfl) ?_
  refine x_iald hx hb hK.1 hw (by omega) (by omega) ar_13 (len_E ar_13 (by first | exact Nat.ne_of_beq_eq_false rfl | decide)) (by omega) (by omega) (by omega) dX4_hasItemsOf_5 ?_
  have f1 : 0 ≤ X 13 g i ∧ X 13 g i ≤ 12 := hR 13 g i
  refine lv_aload_n hx hb dX4_hasItemsOf_6 rfl (lv_at hl 1 rfl) ?_
  refine x_geto hx hb hf4 hw (by omega) (by omega) sl_7_7 lk28 dX4_hasItemsOf_7 ?_
  refine lv_iload_n hx hb dX4_hasItemsOf_10 rfl (lv_at hl 2 rfl) ?_
  refine x_iald hx hb hK.1 hw (by omega) (by omega) ar_13 (len_E ar_13 (by first | exact Nat.ne_of_beq_eq_false rfl | decide)) (by omega) (by omega) (by omega) dX4_hasItemsOf_11 ?_
  have f2 : 0 ≤ X 13 o i ∧ X 13 o i ≤ 12 := hR 13 o i
  refine x_icmp_eq (tgt := 17) hx hb (by omega) (by omega) dX4_hasItemsOf_12 (by decide) (fun c3 => ?_) (fun c3 => ?_)
  · refine lv_iconst (v := jI 0) hx hb dX4_hasItemsOf_17 rfl ?_
    refine lv_istore_n (lv' := [(3, .int (jI 0)), (0, .ref (ad 7 g)), (1, .ref (ad 7 o)), (2, .int (jI i))]) hx hb dX4_hasItemsOf_18 rfl hl (by decide) rfl (fun ls hl => ?_)
    have lp19 : ∀ (nn : Nat) (k : Int) (H : Heap) (locs : List Loc) (ls : Array Slot), (12 - k) < (nn : Int) → (0 ≤ k ∧ k ≤ 12) → (∀ j, 0 ≤ j → j < k → X 14 g (12 * i + j) = X 14 o (12 * i + j)) → wd D tc base (ad, cnt, X, Y, ln) H → va_S (frA base) s.heap H locs → lv_has ls 4 [(0, .ref (ad 7 g)), (1, .ref (ad 7 o)), (2, .int (jI i)), (3, .int (jI k))] → W p l e ({ frames := 0, cells := 0, slots := 0, locals := 0 } : Room) s m av9 below meth c H locs 0 0 Q9 (F0 m 19 ls []) := by
      intro nn
      induction nn with
      | zero => intro k H locs ls hm hk hit hw hS hl; exfalso; omega
      | succ nn ih19 =>
        intro k H locs ls hm hk hit hw hS hl
        refine lv_iload_n hx hb dX4_hasItemsOf_19 rfl (lv_at hl 3 rfl) ?_
        refine lv_aload_n hx hb dX4_hasItemsOf_20 rfl (lv_at hl 0 rfl) ?_
        refine x_geto hx hb hf4 hw (by omega) (by omega) sl_7_7 lk28 dX4_hasItemsOf_21 ?_
        refine lv_iload_n hx hb dX4_hasItemsOf_24 rfl (lv_at hl 2 rfl) ?_
        refine x_iald hx hb hK.1 hw (by omega) (by omega) ar_13 (len_E ar_13 (by first | exact Nat.ne_of_beq_eq_false rfl | decide)) (by omega) (by omega) (by omega) dX4_hasItemsOf_25 ?_
        have f4 : 0 ≤ X 13 g i ∧ X 13 g i ≤ 12 := hR 13 g i
        refine x_icmp_ge (tgt := 63) hx hb (by omega) (by omega) dX4_hasItemsOf_26 (by decide) (fun c5 => ?_) (fun c5 => ?_)
        · refine lv_iconst (v := jI 1) hx hb dX4_hasItemsOf_63 rfl ?_
          rw [hQ9]
          refine ret_z (mc := 0) (ms := 0) hx hb hr hlocks hw hS (by first | exact Nat.le_of_ble_eq_true rfl | omega) (by first | exact Nat.le_of_ble_eq_true rfl | omega) dX4_hasItemsOf_64 (by omega) ?_
          exact ⟨rfl, by omega, Or.inl ⟨rfl, by omega, fun k9 a b => hit k9 a (by omega)⟩⟩
        · refine lv_aload_n hx hb dX4_hasItemsOf_29 rfl (lv_at hl 0 rfl) ?_
          refine x_geto hx hb hf4 hw (by omega) (by omega) sl_7_8 lk31 dX4_hasItemsOf_30 ?_
          refine lv_iload_n hx hb dX4_hasItemsOf_33 rfl (lv_at hl 2 rfl) ?_
          refine lv_bipush (v := jI 12) hx hb dX4_hasItemsOf_34 (by decide) ?_
          refine x_imul hx hb dX4_hasItemsOf_36 ?_
          refine lv_iload_n hx hb dX4_hasItemsOf_37 rfl (lv_at hl 3 rfl) ?_
          refine x_iadd hx hb dX4_hasItemsOf_38 ?_
          refine x_lald hx hb hK.1 hw (by omega) (by omega) ar_14 (len_E ar_14 (by first | exact Nat.ne_of_beq_eq_false rfl | decide)) (by omega) (by omega) (by omega) dX4_hasItemsOf_39 ?_
          have f6 : (-9223372036854775808) ≤ X 14 g ((i * 12) + k) ∧ X 14 g ((i * 12) + k) ≤ 9223372036854775807 := hR 14 g ((i * 12) + k)
          refine lv_aload_n hx hb dX4_hasItemsOf_40 rfl (lv_at hl 1 rfl) ?_
          refine x_geto hx hb hf4 hw (by omega) (by omega) sl_7_8 lk31 dX4_hasItemsOf_41 ?_
          refine lv_iload_n hx hb dX4_hasItemsOf_44 rfl (lv_at hl 2 rfl) ?_
          refine lv_bipush (v := jI 12) hx hb dX4_hasItemsOf_45 (by decide) ?_
          refine x_imul hx hb dX4_hasItemsOf_47 ?_
          refine lv_iload_n hx hb dX4_hasItemsOf_48 rfl (lv_at hl 3 rfl) ?_
          refine x_iadd hx hb dX4_hasItemsOf_49 ?_
          refine x_lald hx hb hK.1 hw (by omega) (by omega) ar_14 (len_E ar_14 (by first | exact Nat.ne_of_beq_eq_false rfl | decide)) (by omega) (by omega) (by omega) dX4_hasItemsOf_50 ?_
          have f7 : (-9223372036854775808) ≤ X 14 o ((i * 12) + k) ∧ X 14 o ((i * 12) + k) ≤ 9223372036854775807 := hR 14 o ((i * 12) + k)
          refine x_lcmp hx hb (by omega) (by omega) dX4_hasItemsOf_51 ?_
          obtain ⟨z8, ez8⟩ : ∃ y : Int, y = cmpZ (X 14 g ((i * 12) + k)) (X 14 o ((i * 12) + k)) := ⟨_, rfl⟩
          rw [← ez8]
          have gz8 : (z8 < 0 ↔ ((X 14 g ((i * 12) + k)) : Int) < (X 14 o ((i * 12) + k))) ∧ (z8 = 0 ↔ ((X 14 g ((i * 12) + k)) : Int) = (X 14 o ((i * 12) + k))) ∧ -1 ≤ z8 ∧ z8 ≤ 1 := by rw [ez8]; exact ⟨cmpZ_lt, cmpZ_eq, (cmpZ_r _ _).1, (cmpZ_r _ _).2⟩
          clear ez8
          refine x_if_eq (tgt := 57) hx hb (by omega) dX4_hasItemsOf_52 (by decide) (fun c9 => ?_) (fun c9 => ?_)
          · replace c9 := cz_eqT gz8 c9
            clear gz8
            refine lv_iinc (v := jI (k + 1)) (lv' := [(3, .int (jI (k + 1))), (0, .ref (ad 7 g)), (1, .ref (ad 7 o)), (2, .int (jI i))]) hx hb dX4_hasItemsOf_57 hl (k := 3) rfl (jI_add _ _) (by decide) rfl (fun ls hl => ?_)
            refine lv_goto (tgt := 19) hx hb dX4_hasItemsOf_60 (by decide) ?_
            exact ih19 (k + 1) _ _ _ (by omega) (by omega) (fun j a b => if hj : j = k then (by rw [hj, show 12 * i + k = i * 12 + k by omega]; omega) else hit j a (by omega)) hw hS (lv_sub hl [1, 2, 3, 0] rfl)
          · replace c9 := cz_eqF gz8 c9
            clear gz8
            refine lv_iconst (v := jI 0) hx hb dX4_hasItemsOf_55 rfl ?_
            rw [hQ9]
            refine ret_z (mc := 0) (ms := 0) hx hb hr hlocks hw hS (by first | exact Nat.le_of_ble_eq_true rfl | omega) (by first | exact Nat.le_of_ble_eq_true rfl | omega) dX4_hasItemsOf_56 (by omega) ?_
            exact ⟨rfl, by omega, Or.inr ⟨rfl, fun q => (by have h9 := q.2 k (by omega) (by omega); rw [show 12 * i + k = i * 12 + k by omega] at h9; omega)⟩⟩
    exact lp19 (12 - 0 : Int).toNat.succ 0 _ _ _ (by omega) (by omega) (fun j a b => by omega) hw hS (lv_sub hl [1, 2, 3, 0] rfl)
  · refine lv_iconst (v := jI 0) hx hb dX4_hasItemsOf_15 rfl ?_
    rw [hQ9]
    refine ret_z (mc := 0) (ms := 0) hx hb hr hlocks hw hS (by first | exact Nat.le_of_ble_eq_true rfl | omega) (by first | exact Nat.le_of_ble_eq_true rfl | omega) dX4_hasItemsOf_16 (by omega) ?_
    exact ⟨rfl, by omega, Or.inr ⟨rfl, fun q => (by have q1 := q.1; omega)⟩⟩

set_option maxHeartbeats 4000000 in
set_option maxRecDepth 100000 in
theorem c_X4_hasValueOf (l : Launch) (D : va_G) (tc : Nat → ClassId) (base : Nat) (ad : Nat → Int → Nat) (cnt : Nat → Int) (X : Nat → Int → Int → Int) (Y : Nat → Int → Int → Option Int) (ln : Int → Int) (hR : Rng X) (hFx : Fx cnt) (hLn : LnOK ln) (g o i : Int) (hg : 0 ≤ g ∧ g < 6) (ho : 0 ≤ o ∧ o < 6) (hi0 : 0 ≤ i ∧ i ≤ 149) (hv : 3 ≤ X 11 g i → -1 ≤ X 12 g i ∧ X 12 g i ≤ 149) : KI l D tc base yX4_hasValueOf wsX4_hasValueOf ({ frames := 1, cells := 0, slots := 0, locals := 23 } : Room) [.ref (ad 7 g), .ref (ad 7 o), .int (jI i)] (ad, cnt, X, Y, ln) 0 0 (fun z u => u = (ad, cnt, X, Y, ln) ∧ (0 ≤ z ∧ z ≤ 1) ∧ ((z = 1 ∧ vqC X g o i) ∨ (z = 0 ∧ ¬ vqC X g o i))) := by
  refine K_of (cc := cX4_hasValueOf) (maxL := 5) (ret := (some .boolean)) (by decide) rfl (Nat.le_of_ble_eq_true rfl) ?_
  intro p e s m below meth c ls hx hb hr hml hown hts hlocks hl hK hw hS
  have hown : s.vm.findClass RX4 = some m.cls := hown
  obtain ⟨av9, hav9⟩ : ∃ a9 : Array Value, a9 = ([.ref (ad 7 g), .ref (ad 7 o), .int (jI i)] : List Value).toArray := ⟨_, rfl⟩
  rw [← hav9] at hts ⊢
  obtain ⟨Q9, hQ9⟩ : ∃ q9Q : State → Prop, q9Q = MQ below (QI D tc base (fun z u => u = (ad, cnt, X, Y, ln) ∧ (0 ≤ z ∧ z ≤ 1) ∧ ((z = 1 ∧ vqC X g o i) ∨ (z = 0 ∧ ¬ vqC X g o i)))) av9 s 0 0 (frA base) := ⟨_, rfl⟩
  rw [← hQ9]
  have hi4 : ∀ w ∈ wsX40, w ∈ wsX4_hasValueOf := fun w h => List.mem_cons_of_mem _ (List.mem_append_right _ h)
  have hf4 : fctx s m _ RX4 wsX4_hasValueOf D tc RX4 TX4 9 4 := ⟨hts, hi4, hown, hK.1, rfl⟩
  have lk21 := hts (.fieldLink RX4 21 (TX4 4).1 (TX4 4).2.1 (TX4 4).2.2.1) (gj_X4_hasValueOf_0 _ (gp_1 gp_h))
  have lk24 := hts (.fieldLink RX4 24 (TX4 5).1 (TX4 5).2.1 (TX4 5).2.2.1) (gj_X4_hasValueOf_0 _ (gp_h))
  have hc7 : cnt 7 = 6 := hFx.at 7 6 (by decide)
  have hc11 : cnt 11 = 6 := hFx.at 11 6 (by decide)
  have hc12 : cnt 12 = 6 := hFx.at 12 6 (by decide)
  have hl : lv_has ls 5 [(0, .ref (ad 7 g)), (1, .ref (ad 7 o)), (2, .int (jI i))] := hl
  refine lv_aload_n hx hb dX4_hasValueOf_0 rfl (lv_at hl 0 rfl) ?_
  refine x_geto hx hb hf4 hw (by omega) (by omega) sl_7_5 lk24 dX4_hasValueOf_1 ?_
  refine lv_iload_n hx hb dX4_hasValueOf_4 rfl (lv_at hl 2 rfl) ?_
  refine x_lald hx hb hK.1 hw (by omega) (by omega) ar_12 (len_E ar_12 (by first | exact Nat.ne_of_beq_eq_false rfl | decide)) (by omega) (by omega) (by omega) dX4_hasValueOf_5 ?_
  have f1 : (-9223372036854775808) ≤ X 12 g i ∧ X 12 g i ≤ 9223372036854775807 := hR 12 g i
  refine lv_lstore_n (lv' := [(3, .long (jL (X 12 g i))), (0, .ref (ad 7 g)), (1, .ref (ad 7 o)), (2, .int (jI i))]) hx hb dX4_hasValueOf_6 rfl hl (by decide) rfl (fun ls hl => ?_)
  refine lv_lload_n hx hb dX4_hasValueOf_7 rfl (lv_at hl 0 rfl) ?_
  refine lv_aload_n hx hb dX4_hasValueOf_8 rfl (lv_at hl 2 rfl) ?_
  refine x_geto hx hb hf4 hw (by omega) (by omega) sl_7_5 lk24 dX4_hasValueOf_9 ?_
  refine lv_iload_n hx hb dX4_hasValueOf_12 rfl (lv_at hl 3 rfl) ?_
  refine x_lald hx hb hK.1 hw (by omega) (by omega) ar_12 (len_E ar_12 (by first | exact Nat.ne_of_beq_eq_false rfl | decide)) (by omega) (by omega) (by omega) dX4_hasValueOf_13 ?_
  have f2 : (-9223372036854775808) ≤ X 12 o i ∧ X 12 o i ≤ 9223372036854775807 := hR 12 o i
  refine x_lcmp hx hb (by omega) (by omega) dX4_hasValueOf_14 ?_
  obtain ⟨z3, ez3⟩ : ∃ y : Int, y = cmpZ (X 12 g i) (X 12 o i) := ⟨_, rfl⟩
  rw [← ez3]
  have gz3 : (z3 < 0 ↔ ((X 12 g i) : Int) < (X 12 o i)) ∧ (z3 = 0 ↔ ((X 12 g i) : Int) = (X 12 o i)) ∧ -1 ≤ z3 ∧ z3 ≤ 1 := by rw [ez3]; exact ⟨cmpZ_lt, cmpZ_eq, (cmpZ_r _ _).1, (cmpZ_r _ _).2⟩
  clear ez3
  refine x_if_eq (tgt := 20) hx hb (by omega) dX4_hasValueOf_15 (by decide) (fun c4 => ?_) (fun c4 => ?_)
  · replace c4 := cz_eqT gz3 c4
    clear gz3
    refine lv_aload_n hx hb dX4_hasValueOf_20 rfl (lv_at hl 1 rfl) ?_
    refine x_geto hx hb hf4 hw (by omega) (by omega) sl_7_4 lk21 dX4_hasValueOf_21 ?_
    refine lv_iload_n hx hb dX4_hasValueOf_24 rfl (lv_at hl 3 rfl) ?_
    refine x_iald hx hb hK.1 hw (by omega) (by omega) ar_11 (len_E ar_11 (by first | exact Nat.ne_of_beq_eq_false rfl | decide)) (by omega) (by omega) (by omega) dX4_hasValueOf_25 ?_
    have f5 : 0 ≤ X 11 g i ∧ X 11 g i ≤ 5 := hR 11 g i
    refine gos_i (run_SN (As := [.int (jI (X 11 g i))]) (rest := []) (host := RX8) hx hb hml hown hts (c_X8_isRowLane l D tc base ad cnt X Y ln (X 11 g i) (by omega)) ⟨va_cnB 1 hts gX4_hasValueOf_X8_isRowLane_n50 rfl rfl rfl hK.2.2.2.1 (hts (.initialized RX8) (by first | exact gj_X4_hasValueOf_0 _ (gp_4 gp_h) | decide +kernel)) (by decide +kernel) ⟨Nat.le_of_ble_eq_true rfl, Nat.le_of_ble_eq_true rfl⟩, hts (.static yX8_isRowLane) (by first | exact gj_X4_hasValueOf_0 _ (gp_1 (gp_1 (gp_1 gp_h))) | decide +kernel), trivial⟩ hK hw rfl hl.1 rfl (Nat.le_of_ble_eq_true rfl) dX4_hasValueOf_26 ⟨Nat.le_of_ble_eq_true rfl, Nat.le_of_ble_eq_true rfl⟩) hS (fun z6 u7 H locs p8 hw hS => ?_)
    obtain ⟨eu7, p8⟩ := p8
    subst eu7
    rcases p8 with ⟨ez6, p8⟩ | ⟨ez6, p8⟩
    · subst ez6
      refine x_if_eqF (tgt := 50) hx hb (by omega) (by decide) dX4_hasValueOf_29 (by decide) ?_
      refine lv_lload_n hx hb dX4_hasValueOf_32 rfl (lv_at hl 0 rfl) ?_
      refine lv_ldc2 (v := jL (-1)) hx hb hown (hts (.constantLong RX4 54 (-1)) (by first | exact gj_X4_hasValueOf_0 _ (gp_1 (gp_1 gp_h)) | decide +kernel)) dX4_hasValueOf_33 ?_
      refine x_lcmp hx hb (by omega) (by omega) dX4_hasValueOf_36 ?_
      obtain ⟨z9, ez9⟩ : ∃ y : Int, y = cmpZ (X 12 g i) (-1) := ⟨_, rfl⟩
      rw [← ez9]
      have gz9 : (z9 < 0 ↔ ((X 12 g i) : Int) < (-1)) ∧ (z9 = 0 ↔ ((X 12 g i) : Int) = (-1)) ∧ -1 ≤ z9 ∧ z9 ≤ 1 := by rw [ez9]; exact ⟨cmpZ_lt, cmpZ_eq, (cmpZ_r _ _).1, (cmpZ_r _ _).2⟩
      clear ez9
      refine x_if_eq (tgt := 50) hx hb (by omega) dX4_hasValueOf_37 (by decide) (fun c10 => ?_) (fun c10 => ?_)
      · replace c10 := cz_eqT gz9 c10
        clear gz9
        refine lv_iconst (v := jI 1) hx hb dX4_hasValueOf_50 rfl ?_
        refine lv_goto (tgt := 55) hx hb dX4_hasValueOf_51 (by decide) ?_
        rw [hQ9]
        refine ret_z (mc := 0) (ms := 0) hx hb hr hlocks hw hS (by first | exact Nat.le_of_ble_eq_true rfl | omega) (by first | exact Nat.le_of_ble_eq_true rfl | omega) dX4_hasValueOf_55 (by omega) ?_
        exact ⟨rfl, by omega, Or.inl ⟨rfl, by omega, fun a9 b9 => (by (try delta Hid at *); first | (exfalso; omega) | (rcases hit9 with ⟨e9, h9⟩ | ⟨e9, h9⟩; exact h9; exfalso; omega))⟩⟩
      · replace c10 := cz_eqF gz9 c10
        clear gz9
        refine lv_aload_n hx hb dX4_hasValueOf_40 rfl (lv_at hl 1 rfl) ?_
        refine lv_aload_n hx hb dX4_hasValueOf_41 rfl (lv_at hl 2 rfl) ?_
        refine lv_lload_n hx hb dX4_hasValueOf_42 rfl (lv_at hl 0 rfl) ?_
        refine x_l2i hx hb dX4_hasValueOf_43 ?_
        refine gos_i (run_V (As := [.ref (ad 7 o), .int (jI (X 12 g i))]) (rest := []) hx hb hml hown hts (c_X4_hasItemsOf l D tc base ad cnt X Y ln hR hFx hLn g o (X 12 g i) (by omega) (by omega) (by omega)) (cwV 2 hts gX4_hasValueOf_X4_hasItemsOf rfl rfl rfl (by first | exact hd_X4_hasItemsOf | decide +kernel) ⟨Nat.le_of_ble_eq_true rfl, Nat.le_of_ble_eq_true rfl⟩) hK hw (by first | exact Int.le_refl 0 | omega) (by first | exact zlt hc7 | omega) sl_7_0 rfl rfl hl.1 rfl (Nat.le_of_ble_eq_true rfl) dX4_hasValueOf_44 ⟨Nat.le_of_ble_eq_true rfl, Nat.le_of_ble_eq_true rfl⟩) hS (fun z11 u12 H locs p13 hw hS => ?_)
        obtain ⟨eu12, p13, hit9⟩ := p13
        subst eu12
        refine x_if_eq (tgt := 54) hx hb (by omega) dX4_hasValueOf_47 (by decide) (fun c14 => ?_) (fun c14 => ?_)
        · refine lv_iconst (v := jI 0) hx hb dX4_hasValueOf_54 rfl ?_
          rw [hQ9]
          refine ret_z (mc := 0) (ms := 0) hx hb hr hlocks hw hS (by first | exact Nat.le_of_ble_eq_true rfl | omega) (by first | exact Nat.le_of_ble_eq_true rfl | omega) dX4_hasValueOf_55 (by omega) ?_
          exact ⟨rfl, by omega, Or.inr ⟨rfl, fun q => (by (try delta Hid at *); first | (have q1 := q.1; omega) | (rcases hit9 with ⟨e9, h9⟩ | ⟨e9, h9⟩; exfalso; omega; exact h9 (q.2 (by omega) (by omega))))⟩⟩
        · refine lv_iconst (v := jI 1) hx hb dX4_hasValueOf_50 rfl ?_
          refine lv_goto (tgt := 55) hx hb dX4_hasValueOf_51 (by decide) ?_
          rw [hQ9]
          refine ret_z (mc := 0) (ms := 0) hx hb hr hlocks hw hS (by first | exact Nat.le_of_ble_eq_true rfl | omega) (by first | exact Nat.le_of_ble_eq_true rfl | omega) dX4_hasValueOf_55 (by omega) ?_
          exact ⟨rfl, by omega, Or.inl ⟨rfl, by omega, fun a9 b9 => (by (try delta Hid at *); first | (exfalso; omega) | (rcases hit9 with ⟨e9, h9⟩ | ⟨e9, h9⟩; exact h9; exfalso; omega))⟩⟩
    · subst ez6
      refine x_if_eqT (tgt := 50) hx hb (by omega) (by decide) dX4_hasValueOf_29 (by decide) ?_
      refine lv_iconst (v := jI 1) hx hb dX4_hasValueOf_50 rfl ?_
      refine lv_goto (tgt := 55) hx hb dX4_hasValueOf_51 (by decide) ?_
      rw [hQ9]
      refine ret_z (mc := 0) (ms := 0) hx hb hr hlocks hw hS (by first | exact Nat.le_of_ble_eq_true rfl | omega) (by first | exact Nat.le_of_ble_eq_true rfl | omega) dX4_hasValueOf_55 (by omega) ?_
      exact ⟨rfl, by omega, Or.inl ⟨rfl, by omega, fun a9 b9 => (by (try delta Hid at *); first | (exfalso; omega) | (rcases hit9 with ⟨e9, h9⟩ | ⟨e9, h9⟩; exact h9; exfalso; omega))⟩⟩
  · replace c4 := cz_eqF gz3 c4
    clear gz3
    refine lv_iconst (v := jI 0) hx hb dX4_hasValueOf_18 rfl ?_
    rw [hQ9]
    refine ret_z (mc := 0) (ms := 0) hx hb hr hlocks hw hS (by first | exact Nat.le_of_ble_eq_true rfl | omega) (by first | exact Nat.le_of_ble_eq_true rfl | omega) dX4_hasValueOf_19 (by omega) ?_
    exact ⟨rfl, by omega, Or.inr ⟨rfl, fun q => (by (try delta Hid at *); first | (have q1 := q.1; omega) | (rcases hit9 with ⟨e9, h9⟩ | ⟨e9, h9⟩; exfalso; omega; exact h9 (q.2 (by omega) (by omega))))⟩⟩

set_option maxHeartbeats 4000000 in
set_option maxRecDepth 100000 in
theorem c_X4_hasShapeOf (l : Launch) (D : va_G) (tc : Nat → ClassId) (base : Nat) (ad : Nat → Int → Nat) (cnt : Nat → Int) (X : Nat → Int → Int → Int) (Y : Nat → Int → Int → Option Int) (ln : Int → Int) (hR : Rng X) (hFx : Fx cnt) (hLn : LnOK ln) (g o r : Int) (hg : 0 ≤ g ∧ g < 6) (ho : 0 ≤ o ∧ o < 6) (hr0 : 0 ≤ r ∧ r ≤ 29) : KI l D tc base yX4_hasShapeOf wsX4_hasShapeOf ({ frames := 0, cells := 0, slots := 0, locals := 0 } : Room) [.ref (ad 7 g), .ref (ad 7 o), .int (jI r)] (ad, cnt, X, Y, ln) 0 0 (fun z u => u = (ad, cnt, X, Y, ln) ∧ ((z = 1 ∧ r < X 7 g 0 ∧ shC X g o r) ∨ (z = 0 ∧ Hid (¬ (shC X g o r))))) := by
  refine K_of (cc := cX4_hasShapeOf) (maxL := 5) (ret := (some .boolean)) (by decide) rfl (Nat.le_of_ble_eq_true rfl) ?_
  intro p e s m below meth c ls hx hb hr hml hown hts hlocks hl hK hw hS
  have hown : s.vm.findClass RX4 = some m.cls := hown
  obtain ⟨av9, hav9⟩ : ∃ a9 : Array Value, a9 = ([.ref (ad 7 g), .ref (ad 7 o), .int (jI r)] : List Value).toArray := ⟨_, rfl⟩
  rw [← hav9] at hts ⊢
  obtain ⟨Q9, hQ9⟩ : ∃ q9Q : State → Prop, q9Q = MQ below (QI D tc base (fun z u => u = (ad, cnt, X, Y, ln) ∧ ((z = 1 ∧ r < X 7 g 0 ∧ shC X g o r) ∨ (z = 0 ∧ Hid (¬ (shC X g o r)))))) av9 s 0 0 (frA base) := ⟨_, rfl⟩
  rw [← hQ9]
  have hi4 : ∀ w ∈ wsX40, w ∈ wsX4_hasShapeOf := fun w h => List.mem_cons_of_mem _ (List.mem_append_right _ h)
  have hf4 : fctx s m _ RX4 wsX4_hasShapeOf D tc RX4 TX4 9 4 := ⟨hts, hi4, hown, hK.1, rfl⟩
  have lk9 := hts (.fieldLink RX4 9 (TX4 1).1 (TX4 1).2.1 (TX4 1).2.2.1) (gj_X4_hasShapeOf_0 _ (gp_1 gp_h))
  have lk15 := hts (.fieldLink RX4 15 (TX4 2).1 (TX4 2).2.1 (TX4 2).2.2.1) (gj_X4_hasShapeOf_0 _ (gp_1 (gp_1 gp_h)))
  have lk18 := hts (.fieldLink RX4 18 (TX4 3).1 (TX4 3).2.1 (TX4 3).2.2.1) (gj_X4_hasShapeOf_0 _ (gp_1 (gp_1 (gp_1 gp_h))))
  have lk21 := hts (.fieldLink RX4 21 (TX4 4).1 (TX4 4).2.1 (TX4 4).2.2.1) (gj_X4_hasShapeOf_0 _ (gp_4 gp_h))
  have lk47 := hts (.fieldLink RX4 47 (TX4 0).1 (TX4 0).2.1 (TX4 0).2.2.1) (gj_X4_hasShapeOf_0 _ (gp_h))
  have hc7 : cnt 7 = 6 := hFx.at 7 6 (by decide)
  have hc8 : cnt 8 = 6 := hFx.at 8 6 (by decide)
  have hc9 : cnt 9 = 6 := hFx.at 9 6 (by decide)
  have hc10 : cnt 10 = 6 := hFx.at 10 6 (by decide)
  have hc11 : cnt 11 = 6 := hFx.at 11 6 (by decide)
  have hl : lv_has ls 5 [(0, .ref (ad 7 g)), (1, .ref (ad 7 o)), (2, .int (jI r))] := hl
  refine lv_iload_n hx hb dX4_hasShapeOf_0 rfl (lv_at hl 2 rfl) ?_
  refine lv_aload_n hx hb dX4_hasShapeOf_1 rfl (lv_at hl 0 rfl) ?_
  refine x_geti (jz := 0) hx hb hf4 hw (by omega) (by omega) sl_7_0 rfl lk47 dX4_hasShapeOf_2 ?_
  have f1 : 0 ≤ X 7 g 0 ∧ X 7 g 0 ≤ 30 := hR 7 g 0
  refine x_icmp_ge (tgt := 46) hx hb (by omega) (by omega) dX4_hasShapeOf_5 (by decide) (fun c2 => ?_) (fun c2 => ?_)
  · refine lv_iconst (v := jI 0) hx hb dX4_hasShapeOf_46 rfl ?_
    rw [hQ9]
    refine ret_z (mc := 0) (ms := 0) hx hb hr hlocks hw hS (by first | exact Nat.le_of_ble_eq_true rfl | omega) (by first | exact Nat.le_of_ble_eq_true rfl | omega) dX4_hasShapeOf_47 (by omega) ?_
    exact ⟨rfl, Or.inr ⟨rfl, fun q => (by obtain ⟨q1, q2, q3, q4, -⟩ := q; omega)⟩⟩
  · refine lv_iload_n hx hb dX4_hasShapeOf_8 rfl (lv_at hl 2 rfl) ?_
    refine lv_aload_n hx hb dX4_hasShapeOf_9 rfl (lv_at hl 1 rfl) ?_
    refine x_geti (jz := 0) hx hb hf4 hw (by omega) (by omega) sl_7_0 rfl lk47 dX4_hasShapeOf_10 ?_
    have f3 : 0 ≤ X 7 o 0 ∧ X 7 o 0 ≤ 30 := hR 7 o 0
    refine x_icmp_ge (tgt := 46) hx hb (by omega) (by omega) dX4_hasShapeOf_13 (by decide) (fun c4 => ?_) (fun c4 => ?_)
    · refine lv_iconst (v := jI 0) hx hb dX4_hasShapeOf_46 rfl ?_
      rw [hQ9]
      refine ret_z (mc := 0) (ms := 0) hx hb hr hlocks hw hS (by first | exact Nat.le_of_ble_eq_true rfl | omega) (by first | exact Nat.le_of_ble_eq_true rfl | omega) dX4_hasShapeOf_47 (by omega) ?_
      exact ⟨rfl, Or.inr ⟨rfl, fun q => (by obtain ⟨q1, q2, q3, q4, -⟩ := q; omega)⟩⟩
    · refine lv_aload_n hx hb dX4_hasShapeOf_16 rfl (lv_at hl 0 rfl) ?_
      refine x_geto hx hb hf4 hw (by omega) (by omega) sl_7_1 lk9 dX4_hasShapeOf_17 ?_
      refine lv_iload_n hx hb dX4_hasShapeOf_20 rfl (lv_at hl 2 rfl) ?_
      refine x_iald hx hb hK.1 hw (by omega) (by omega) ar_8 (len_E ar_8 (by first | exact Nat.ne_of_beq_eq_false rfl | decide)) (by omega) (by omega) (by omega) dX4_hasShapeOf_21 ?_
      have f5 : 0 ≤ X 8 g r ∧ X 8 g r ≤ 7 := hR 8 g r
      refine lv_aload_n hx hb dX4_hasShapeOf_22 rfl (lv_at hl 1 rfl) ?_
      refine x_geto hx hb hf4 hw (by omega) (by omega) sl_7_1 lk9 dX4_hasShapeOf_23 ?_
      refine lv_iload_n hx hb dX4_hasShapeOf_26 rfl (lv_at hl 2 rfl) ?_
      refine x_iald hx hb hK.1 hw (by omega) (by omega) ar_8 (len_E ar_8 (by first | exact Nat.ne_of_beq_eq_false rfl | decide)) (by omega) (by omega) (by omega) dX4_hasShapeOf_27 ?_
      have f6 : 0 ≤ X 8 o r ∧ X 8 o r ≤ 7 := hR 8 o r
      refine x_icmp_ne (tgt := 46) hx hb (by omega) (by omega) dX4_hasShapeOf_28 (by decide) (fun c7 => ?_) (fun c7 => ?_)
      · refine lv_iconst (v := jI 0) hx hb dX4_hasShapeOf_46 rfl ?_
        rw [hQ9]
        refine ret_z (mc := 0) (ms := 0) hx hb hr hlocks hw hS (by first | exact Nat.le_of_ble_eq_true rfl | omega) (by first | exact Nat.le_of_ble_eq_true rfl | omega) dX4_hasShapeOf_47 (by omega) ?_
        exact ⟨rfl, Or.inr ⟨rfl, fun q => (by obtain ⟨q1, q2, q3, q4, -⟩ := q; omega)⟩⟩
      · refine lv_aload_n hx hb dX4_hasShapeOf_31 rfl (lv_at hl 0 rfl) ?_
        refine x_geto hx hb hf4 hw (by omega) (by omega) sl_7_2 lk15 dX4_hasShapeOf_32 ?_
        refine lv_iload_n hx hb dX4_hasShapeOf_35 rfl (lv_at hl 2 rfl) ?_
        refine x_iald hx hb hK.1 hw (by omega) (by omega) ar_9 (len_E ar_9 (by first | exact Nat.ne_of_beq_eq_false rfl | decide)) (by omega) (by omega) (by omega) dX4_hasShapeOf_36 ?_
        have f8 : 0 ≤ X 9 g r ∧ X 9 g r ≤ 5 := hR 9 g r
        refine lv_aload_n hx hb dX4_hasShapeOf_37 rfl (lv_at hl 1 rfl) ?_
        refine x_geto hx hb hf4 hw (by omega) (by omega) sl_7_2 lk15 dX4_hasShapeOf_38 ?_
        refine lv_iload_n hx hb dX4_hasShapeOf_41 rfl (lv_at hl 2 rfl) ?_
        refine x_iald hx hb hK.1 hw (by omega) (by omega) ar_9 (len_E ar_9 (by first | exact Nat.ne_of_beq_eq_false rfl | decide)) (by omega) (by omega) (by omega) dX4_hasShapeOf_42 ?_
        have f9 : 0 ≤ X 9 o r ∧ X 9 o r ≤ 5 := hR 9 o r
        refine x_icmp_eq (tgt := 48) hx hb (by omega) (by omega) dX4_hasShapeOf_43 (by decide) (fun c10 => ?_) (fun c10 => ?_)
        · refine lv_iconst (v := jI 0) hx hb dX4_hasShapeOf_48 rfl ?_
          refine lv_istore_n (lv' := [(3, .int (jI 0)), (0, .ref (ad 7 g)), (1, .ref (ad 7 o)), (2, .int (jI r))]) hx hb dX4_hasShapeOf_49 rfl hl (by decide) rfl (fun ls hl => ?_)
          have lp50 : ∀ (nn : Nat) (k : Int) (H : Heap) (locs : List Loc) (ls : Array Slot), (5 - k) < (nn : Int) → (0 ≤ k ∧ k ≤ 5) → (∀ j, 0 ≤ j → j < k → X 10 g (5 * r + j) = X 10 o (5 * r + j) ∧ X 11 g (5 * r + j) = X 11 o (5 * r + j)) → wd D tc base (ad, cnt, X, Y, ln) H → va_S (frA base) s.heap H locs → lv_has ls 5 [(0, .ref (ad 7 g)), (1, .ref (ad 7 o)), (2, .int (jI r)), (3, .int (jI k))] → W p l e ({ frames := 0, cells := 0, slots := 0, locals := 0 } : Room) s m av9 below meth c H locs 0 0 Q9 (F0 m 50 ls []) := by
            intro nn
            induction nn with
            | zero => intro k H locs ls hm hk hsk hw hS hl; exfalso; omega
            | succ nn ih50 =>
              intro k H locs ls hm hk hsk hw hS hl
              refine lv_iload_n hx hb dX4_hasShapeOf_50 rfl (lv_at hl 3 rfl) ?_
              refine lv_aload_n hx hb dX4_hasShapeOf_51 rfl (lv_at hl 0 rfl) ?_
              refine x_geto hx hb hf4 hw (by omega) (by omega) sl_7_2 lk15 dX4_hasShapeOf_52 ?_
              refine lv_iload_n hx hb dX4_hasShapeOf_55 rfl (lv_at hl 2 rfl) ?_
              refine x_iald hx hb hK.1 hw (by omega) (by omega) ar_9 (len_E ar_9 (by first | exact Nat.ne_of_beq_eq_false rfl | decide)) (by omega) (by omega) (by omega) dX4_hasShapeOf_56 ?_
              have f11 : 0 ≤ X 9 g r ∧ X 9 g r ≤ 5 := hR 9 g r
              refine x_icmp_ge (tgt := 109) hx hb (by omega) (by omega) dX4_hasShapeOf_57 (by decide) (fun c12 => ?_) (fun c12 => ?_)
              · refine lv_iconst (v := jI 1) hx hb dX4_hasShapeOf_109 rfl ?_
                rw [hQ9]
                refine ret_z (mc := 0) (ms := 0) hx hb hr hlocks hw hS (by first | exact Nat.le_of_ble_eq_true rfl | omega) (by first | exact Nat.le_of_ble_eq_true rfl | omega) dX4_hasShapeOf_110 (by omega) ?_
                exact ⟨rfl, Or.inl ⟨rfl, by omega, by omega, by omega, by omega, by omega, fun k9 a b => hsk k9 a (by omega)⟩⟩
              · refine lv_iload_n hx hb dX4_hasShapeOf_60 rfl (lv_at hl 2 rfl) ?_
                refine lv_iconst (v := jI 5) hx hb dX4_hasShapeOf_61 rfl ?_
                refine x_imul hx hb dX4_hasShapeOf_62 ?_
                refine lv_iload_n hx hb dX4_hasShapeOf_63 rfl (lv_at hl 3 rfl) ?_
                refine x_iadd hx hb dX4_hasShapeOf_64 ?_
                refine lv_istore (lv' := [(4, .int (jI ((r * 5) + k))), (0, .ref (ad 7 g)), (1, .ref (ad 7 o)), (2, .int (jI r)), (3, .int (jI k))]) hx hb dX4_hasShapeOf_65 hl (by decide) rfl (fun ls hl => ?_)
                refine lv_aload_n hx hb dX4_hasShapeOf_67 rfl (lv_at hl 1 rfl) ?_
                refine x_geto hx hb hf4 hw (by omega) (by omega) sl_7_3 lk18 dX4_hasShapeOf_68 ?_
                refine lv_iload hx hb dX4_hasShapeOf_71 (lv_at hl 0 rfl) ?_
                refine x_iald hx hb hK.1 hw (by omega) (by omega) ar_10 (len_E ar_10 (by first | exact Nat.ne_of_beq_eq_false rfl | decide)) (by omega) (by omega) (by omega) dX4_hasShapeOf_73 ?_
                have f13 : 0 ≤ X 10 g ((r * 5) + k) ∧ X 10 g ((r * 5) + k) ≤ 19 := hR 10 g ((r * 5) + k)
                refine lv_aload_n hx hb dX4_hasShapeOf_74 rfl (lv_at hl 2 rfl) ?_
                refine x_geto hx hb hf4 hw (by omega) (by omega) sl_7_3 lk18 dX4_hasShapeOf_75 ?_
                refine lv_iload hx hb dX4_hasShapeOf_78 (lv_at hl 0 rfl) ?_
                refine x_iald hx hb hK.1 hw (by omega) (by omega) ar_10 (len_E ar_10 (by first | exact Nat.ne_of_beq_eq_false rfl | decide)) (by omega) (by omega) (by omega) dX4_hasShapeOf_80 ?_
                have f14 : 0 ≤ X 10 o ((r * 5) + k) ∧ X 10 o ((r * 5) + k) ≤ 19 := hR 10 o ((r * 5) + k)
                refine x_icmp_ne (tgt := 101) hx hb (by omega) (by omega) dX4_hasShapeOf_81 (by decide) (fun c15 => ?_) (fun c15 => ?_)
                · refine lv_iconst (v := jI 0) hx hb dX4_hasShapeOf_101 rfl ?_
                  rw [hQ9]
                  refine ret_z (mc := 0) (ms := 0) hx hb hr hlocks hw hS (by first | exact Nat.le_of_ble_eq_true rfl | omega) (by first | exact Nat.le_of_ble_eq_true rfl | omega) dX4_hasShapeOf_102 (by omega) ?_
                  exact ⟨rfl, Or.inr ⟨rfl, fun q => (by have h9 := q.2.2.2.2 k (by omega) (by omega); rw [show 5 * r + k = r * 5 + k by omega] at h9; omega)⟩⟩
                · refine lv_aload_n hx hb dX4_hasShapeOf_84 rfl (lv_at hl 1 rfl) ?_
                  refine x_geto hx hb hf4 hw (by omega) (by omega) sl_7_4 lk21 dX4_hasShapeOf_85 ?_
                  refine lv_iload hx hb dX4_hasShapeOf_88 (lv_at hl 0 rfl) ?_
                  refine x_iald hx hb hK.1 hw (by omega) (by omega) ar_11 (len_E ar_11 (by first | exact Nat.ne_of_beq_eq_false rfl | decide)) (by omega) (by omega) (by omega) dX4_hasShapeOf_90 ?_
                  have f16 : 0 ≤ X 11 g ((r * 5) + k) ∧ X 11 g ((r * 5) + k) ≤ 5 := hR 11 g ((r * 5) + k)
                  refine lv_aload_n hx hb dX4_hasShapeOf_91 rfl (lv_at hl 2 rfl) ?_
                  refine x_geto hx hb hf4 hw (by omega) (by omega) sl_7_4 lk21 dX4_hasShapeOf_92 ?_
                  refine lv_iload hx hb dX4_hasShapeOf_95 (lv_at hl 0 rfl) ?_
                  refine x_iald hx hb hK.1 hw (by omega) (by omega) ar_11 (len_E ar_11 (by first | exact Nat.ne_of_beq_eq_false rfl | decide)) (by omega) (by omega) (by omega) dX4_hasShapeOf_97 ?_
                  have f17 : 0 ≤ X 11 o ((r * 5) + k) ∧ X 11 o ((r * 5) + k) ≤ 5 := hR 11 o ((r * 5) + k)
                  refine x_icmp_eq (tgt := 103) hx hb (by omega) (by omega) dX4_hasShapeOf_98 (by decide) (fun c18 => ?_) (fun c18 => ?_)
                  · refine lv_iinc (v := jI (k + 1)) (lv' := [(3, .int (jI (k + 1))), (4, .int (jI ((r * 5) + k))), (0, .ref (ad 7 g)), (1, .ref (ad 7 o)), (2, .int (jI r))]) hx hb dX4_hasShapeOf_103 hl (k := 4) rfl (jI_add _ _) (by decide) rfl (fun ls hl => ?_)
                    refine lv_goto (tgt := 50) hx hb dX4_hasShapeOf_106 (by decide) ?_
                    exact ih50 (k + 1) _ _ _ (by omega) (by omega) (fun j a b => if hj : j = k then (by rw [hj, show 5 * r + k = r * 5 + k by omega]; exact ⟨by omega, by omega⟩) else hsk j a (by omega)) hw hS (lv_sub hl [2, 3, 4, 0] rfl)
                  · refine lv_iconst (v := jI 0) hx hb dX4_hasShapeOf_101 rfl ?_
                    rw [hQ9]
                    refine ret_z (mc := 0) (ms := 0) hx hb hr hlocks hw hS (by first | exact Nat.le_of_ble_eq_true rfl | omega) (by first | exact Nat.le_of_ble_eq_true rfl | omega) dX4_hasShapeOf_102 (by omega) ?_
                    exact ⟨rfl, Or.inr ⟨rfl, fun q => (by have h9 := q.2.2.2.2 k (by omega) (by omega); rw [show 5 * r + k = r * 5 + k by omega] at h9; omega)⟩⟩
          exact lp50 (5 - 0 : Int).toNat.succ 0 _ _ _ (by omega) (by omega) (fun j a b => by omega) hw hS (lv_sub hl [1, 2, 3, 0] rfl)
        · refine lv_iconst (v := jI 0) hx hb dX4_hasShapeOf_46 rfl ?_
          rw [hQ9]
          refine ret_z (mc := 0) (ms := 0) hx hb hr hlocks hw hS (by first | exact Nat.le_of_ble_eq_true rfl | omega) (by first | exact Nat.le_of_ble_eq_true rfl | omega) dX4_hasShapeOf_47 (by omega) ?_
          exact ⟨rfl, Or.inr ⟨rfl, fun q => (by obtain ⟨q1, q2, q3, q4, -⟩ := q; omega)⟩⟩

set_option maxHeartbeats 4000000 in
set_option maxRecDepth 100000 in
theorem c_X8_firstDifference (l : Launch) (D : va_G) (tc : Nat → ClassId) (base : Nat) (ad : Nat → Int → Nat) (cnt : Nat → Int) (X : Nat → Int → Int → Int) (Y : Nat → Int → Int → Option Int) (ln : Int → Int) (hR : Rng X) (hFx : Fx cnt) (hLn : LnOK ln) (hCI : CInv cnt X Y ln) (g o : Int) (hg : 0 ≤ g ∧ g < 6) (ho : 0 ≤ o ∧ o < 6) (hRv : cRv X) : KI l D tc base yX8_firstDifference wsX8_firstDifference ({ frames := 2, cells := 0, slots := 0, locals := 47 } : Room) [.ref (ad 7 g), .ref (ad 7 o)] (ad, cnt, X, Y, ln) 0 0 (fun z u => u = (ad, cnt, X, Y, ln) ∧ (-1 ≤ z ∧ z ≤ 3100) ∧ dfP (mxC X g o) (shC X g o) (fun r => X 9 g r) (fun r f => vqC X g o (5 * r + f)) (fun r f => X 10 g (5 * r + f)) z) := by
  refine K_of (cc := cX8_firstDifference) (maxL := 6) (ret := (some .int)) (by decide) rfl (Nat.le_of_ble_eq_true rfl) ?_
  intro p e s m below meth c ls hx hb hr hml hown hts hlocks hl hK hw hS
  have hown : s.vm.findClass RX8 = some m.cls := hown
  obtain ⟨av9, hav9⟩ : ∃ a9 : Array Value, a9 = ([.ref (ad 7 g), .ref (ad 7 o)] : List Value).toArray := ⟨_, rfl⟩
  rw [← hav9] at hts ⊢
  obtain ⟨Q9, hQ9⟩ : ∃ q9Q : State → Prop, q9Q = MQ below (QI D tc base (fun z u => u = (ad, cnt, X, Y, ln) ∧ (-1 ≤ z ∧ z ≤ 3100) ∧ dfP (mxC X g o) (shC X g o) (fun r => X 9 g r) (fun r f => vqC X g o (5 * r + f)) (fun r f => X 10 g (5 * r + f)) z)) av9 s 0 0 (frA base) := ⟨_, rfl⟩
  rw [← hQ9]
  have hi4 : ∀ w ∈ wsX40, w ∈ wsX8_firstDifference := fun w h => List.mem_cons_of_mem _ (List.mem_append_right _ h)
  have hf4 : fctx s m _ RX8 wsX8_firstDifference D tc RX4 TX4 9 4 := ⟨hts, hi4, hown, hK.1, rfl⟩
  have lk224 := hts (.fieldLink RX8 224 (TX4 3).1 (TX4 3).2.1 (TX4 3).2.2.1) (gj_X8_firstDifference_0 _ (gp_4 (gp_1 (gp_1 gp_h))))
  have lk231 := hts (.fieldLink RX8 231 (TX4 0).1 (TX4 0).2.1 (TX4 0).2.2.1) (gj_X8_firstDifference_0 _ (gp_h))
  have lk338 := hts (.fieldLink RX8 338 (TX4 2).1 (TX4 2).2.1 (TX4 2).2.2.1) (gj_X8_firstDifference_0 _ (gp_4 (gp_1 gp_h)))
  have hc7 : cnt 7 = 6 := hFx.at 7 6 (by decide)
  have hc9 : cnt 9 = 6 := hFx.at 9 6 (by decide)
  have hc10 : cnt 10 = 6 := hFx.at 10 6 (by decide)
  have hl : lv_has ls 6 [(0, .ref (ad 7 g)), (1, .ref (ad 7 o))] := hl
  have ftc : 0 ≤ X 0 0 3 ∧ X 0 0 3 ≤ 30 := hR 0 0 3
  have fty : 0 ≤ X 0 0 1 ∧ X 0 0 1 ≤ 8 := hR 0 0 1
  have hct : cnt 19 = X 0 0 1 := hCI.2.2.2.1.1
  have hfj : 0 ≤ X 29 0 3 ∧ X 29 0 3 ≤ 4 := hR 29 0 3
  have hfn : 0 ≤ X 29 0 1 ∧ X 29 0 1 ≤ 80 := hR 29 0 1
  refine lv_aload_n hx hb dX8_firstDifference_0 rfl (lv_at hl 0 rfl) ?_
  refine x_geti (jz := 0) hx hb hf4 hw (by omega) (by omega) sl_7_0 rfl lk231 dX8_firstDifference_1 ?_
  have f1 : 0 ≤ X 7 g 0 ∧ X 7 g 0 ≤ 30 := hR 7 g 0
  refine lv_aload_n hx hb dX8_firstDifference_4 rfl (lv_at hl 1 rfl) ?_
  refine x_geti (jz := 0) hx hb hf4 hw (by omega) (by omega) sl_7_0 rfl lk231 dX8_firstDifference_5 ?_
  have f2 : 0 ≤ X 7 o 0 ∧ X 7 o 0 ≤ 30 := hR 7 o 0
  refine va_mmax hx hb (hml.trans hl.1.symm) hown (hts (.methodLink RX8 351 Lib.Math.max.name) (by first | exact gj_X8_firstDifference_0 _ (gp_1 gp_h) | decide +kernel)) (hts (.static Lib.Math.max.name) (by first | exact gj_X8_firstDifference_0 _ (gp_1 (gp_1 gp_h)) | decide +kernel)) (hts (.initialized "java/lang/Math") (by first | exact gj_X8_firstDifference_0 _ (gp_1 (gp_1 (gp_1 gp_h))) | decide +kernel)) (hts (.code Lib.Math.max.name Lib.Math.max.code 2 (some .int)) (by first | exact gj_X8_firstDifference_0 _ (gp_4 gp_h) | decide +kernel)) (Nat.le_of_ble_eq_true rfl) (Nat.le_of_ble_eq_true rfl) (Nat.le_of_ble_eq_true rfl) (Nat.le_of_ble_eq_true rfl) dX8_firstDifference_8 ?_
  rw [mmaxZ (by omega) (by omega)]
  obtain ⟨z3, ez3⟩ : ∃ y : Int, y = if (X 7 g 0) < (X 7 o 0) then (X 7 o 0) else (X 7 g 0) := ⟨_, rfl⟩
  rw [← ez3]
  have gz3 : (X 7 g 0) ≤ z3 ∧ (X 7 o 0) ≤ z3 ∧ (z3 = (X 7 g 0) ∨ z3 = (X 7 o 0)) := by rw [ez3]; split <;> omega
  clear ez3
  refine lv_istore_n (lv' := [(2, .int (jI z3)), (0, .ref (ad 7 g)), (1, .ref (ad 7 o))]) hx hb dX8_firstDifference_11 rfl hl (by decide) rfl (fun ls hl => ?_)
  refine lv_iconst (v := jI 0) hx hb dX8_firstDifference_12 rfl ?_
  refine lv_istore_n (lv' := [(3, .int (jI 0)), (2, .int (jI z3)), (0, .ref (ad 7 g)), (1, .ref (ad 7 o))]) hx hb dX8_firstDifference_13 rfl hl (by decide) rfl (fun ls hl => ?_)
  have lp14 : ∀ (nn : Nat) (r : Int) (H : Heap) (locs : List Loc) (ls : Array Slot), (30 - r) < (nn : Int) → (0 ≤ r ∧ r ≤ 30) → (∀ r', 0 ≤ r' → r' < r → shC X g o r' ∧ ∀ f, 0 ≤ f → f < X 9 g r' → vqC X g o (5 * r' + f)) → wd D tc base (ad, cnt, X, Y, ln) H → va_S (frA base) s.heap H locs → lv_has ls 6 [(0, .ref (ad 7 g)), (1, .ref (ad 7 o)), (2, .int (jI z3)), (3, .int (jI r))] → W p l e ({ frames := 2, cells := 0, slots := 0, locals := 47 } : Room) s m av9 below meth c H locs 0 0 Q9 (F0 m 14 ls []) := by
    intro nn
    induction nn with
    | zero => intro r H locs ls hm hr0 hall hw hS hl; exfalso; omega
    | succ nn ih14 =>
      intro r H locs ls hm hr0 hall hw hS hl
      refine lv_iload_n hx hb dX8_firstDifference_14 rfl (lv_at hl 3 rfl) ?_
      refine lv_iload_n hx hb dX8_firstDifference_15 rfl (lv_at hl 2 rfl) ?_
      refine x_icmp_ge (tgt := 93) hx hb (by omega) (by omega) dX8_firstDifference_16 (by decide) (fun c4 => ?_) (fun c4 => ?_)
      · refine lv_iconst (v := jI (-1)) hx hb dX8_firstDifference_93 rfl ?_
        rw [hQ9]
        refine ret_i (mc := 0) (ms := 0) hx hb hr hlocks hw hS (by first | exact Nat.le_of_ble_eq_true rfl | omega) (by first | exact Nat.le_of_ble_eq_true rfl | omega) dX8_firstDifference_94 ?_
        have hmx5 : mxC X g o = z3 := by unfold mxC; split <;> omega
        exact ⟨rfl, by omega, Or.inl ⟨rfl, fun r9 a b => hall r9 a (by omega)⟩⟩
      · refine lv_aload_n hx hb dX8_firstDifference_19 rfl (lv_at hl 0 rfl) ?_
        refine lv_aload_n hx hb dX8_firstDifference_20 rfl (lv_at hl 1 rfl) ?_
        refine lv_iload_n hx hb dX8_firstDifference_21 rfl (lv_at hl 3 rfl) ?_
        refine gos_i (run_V (As := [.ref (ad 7 o), .int (jI r)]) (rest := []) hx hb hml hown hts (c_X4_hasShapeOf l D tc base ad cnt X Y ln hR hFx hLn g o r (by omega) (by omega) (by omega)) (cwV 2 hts gX8_firstDifference_X4_hasShapeOf rfl rfl rfl (by first | exact hd_X4_hasShapeOf | decide +kernel) ⟨Nat.le_of_ble_eq_true rfl, Nat.le_of_ble_eq_true rfl⟩) hK hw (by first | exact Int.le_refl 0 | omega) (by first | exact zlt hc7 | omega) sl_7_0 rfl rfl hl.1 rfl (Nat.le_of_ble_eq_true rfl) dX8_firstDifference_22 ⟨Nat.le_of_ble_eq_true rfl, Nat.le_of_ble_eq_true rfl⟩) hS (fun z6 u7 H locs p8 hw hS => ?_)
        obtain ⟨eu7, p8⟩ := p8
        subst eu7
        rcases p8 with ⟨ez6, p8⟩ | ⟨ez6, p8⟩
        · subst ez6
          refine x_if_neT (tgt := 36) hx hb (by omega) (by decide) dX8_firstDifference_25 (by decide) ?_
          refine lv_iconst (v := jI 0) hx hb dX8_firstDifference_36 rfl ?_
          refine lv_istore (lv' := [(4, .int (jI 0)), (0, .ref (ad 7 g)), (1, .ref (ad 7 o)), (2, .int (jI z3)), (3, .int (jI r))]) hx hb dX8_firstDifference_37 hl (by decide) rfl (fun ls hl => ?_)
          have lp39 : ∀ (nn : Nat) (k : Int) (H : Heap) (locs : List Loc) (ls : Array Slot), (5 - k) < (nn : Int) → (0 ≤ k ∧ k ≤ 5) → (shC X g o r) → (∀ f, 0 ≤ f → f < k → vqC X g o (5 * r + f)) → wd D tc base (ad, cnt, X, Y, ln) H → va_S (frA base) s.heap H locs → lv_has ls 6 [(0, .ref (ad 7 g)), (1, .ref (ad 7 o)), (2, .int (jI z3)), (3, .int (jI r)), (4, .int (jI k))] → W p l e ({ frames := 2, cells := 0, slots := 0, locals := 47 } : Room) s m av9 below meth c H locs 0 0 Q9 (F0 m 39 ls []) := by
            intro nn
            induction nn with
            | zero => intro k H locs ls hm hk hsh hvk hw hS hl; exfalso; omega
            | succ nn ih39 =>
              intro k H locs ls hm hk hsh hvk hw hS hl
              refine lv_iload hx hb dX8_firstDifference_39 (lv_at hl 4 rfl) ?_
              refine lv_aload_n hx hb dX8_firstDifference_41 rfl (lv_at hl 0 rfl) ?_
              refine x_geto hx hb hf4 hw (by omega) (by omega) sl_7_2 lk338 dX8_firstDifference_42 ?_
              refine lv_iload_n hx hb dX8_firstDifference_45 rfl (lv_at hl 3 rfl) ?_
              refine x_iald hx hb hK.1 hw (by omega) (by omega) ar_9 (len_E ar_9 (by first | exact Nat.ne_of_beq_eq_false rfl | decide)) (by omega) (by omega) (by omega) dX8_firstDifference_46 ?_
              have f9 : 0 ≤ X 9 g r ∧ X 9 g r ≤ 5 := hR 9 g r
              refine x_icmp_ge (tgt := 87) hx hb (by omega) (by omega) dX8_firstDifference_47 (by decide) (fun c10 => ?_) (fun c10 => ?_)
              · refine lv_iinc (v := jI (r + 1)) (lv' := [(3, .int (jI (r + 1))), (0, .ref (ad 7 g)), (1, .ref (ad 7 o)), (2, .int (jI z3)), (4, .int (jI k))]) hx hb dX8_firstDifference_87 hl (k := 3) rfl (jI_add _ _) (by decide) rfl (fun ls hl => ?_)
                refine lv_goto (tgt := 14) hx hb dX8_firstDifference_90 (by decide) ?_
                exact ih14 (r + 1) _ _ _ (by omega) (by omega) (fun r' a b => if hr9 : r' = r then (by rw [hr9]; exact ⟨hsh, fun f f0 f1 => hvk f f0 (by omega)⟩) else hall r' a (by omega)) hw hS (lv_sub hl [1, 2, 3, 0] rfl)
              · refine lv_iload_n hx hb dX8_firstDifference_50 rfl (lv_at hl 3 rfl) ?_
                refine lv_iconst (v := jI 5) hx hb dX8_firstDifference_51 rfl ?_
                refine x_imul hx hb dX8_firstDifference_52 ?_
                refine lv_iload hx hb dX8_firstDifference_53 (lv_at hl 4 rfl) ?_
                refine x_iadd hx hb dX8_firstDifference_55 ?_
                refine lv_istore (lv' := [(5, .int (jI ((r * 5) + k))), (0, .ref (ad 7 g)), (1, .ref (ad 7 o)), (2, .int (jI z3)), (3, .int (jI r)), (4, .int (jI k))]) hx hb dX8_firstDifference_56 hl (by decide) rfl (fun ls hl => ?_)
                refine lv_aload_n hx hb dX8_firstDifference_58 rfl (lv_at hl 1 rfl) ?_
                refine lv_aload_n hx hb dX8_firstDifference_59 rfl (lv_at hl 2 rfl) ?_
                refine lv_iload hx hb dX8_firstDifference_60 (lv_at hl 0 rfl) ?_
                have hv9 := hRv g ((r * 5) + k) (by omega) (by omega) (by omega) (by omega)
                refine gos_i (run_V (As := [.ref (ad 7 o), .int (jI ((r * 5) + k))]) (rest := []) hx hb hml hown hts (c_X4_hasValueOf l D tc base ad cnt X Y ln hR hFx hLn g o ((r * 5) + k) (by omega) (by omega) (by omega) (fun h9 => hv9 (by omega))) (cwV 2 hts gX8_firstDifference_X4_hasValueOf rfl rfl rfl (by first | exact hd_X4_hasValueOf | decide +kernel) ⟨Nat.le_of_ble_eq_true rfl, Nat.le_of_ble_eq_true rfl⟩) hK hw (by first | exact Int.le_refl 0 | omega) (by first | exact zlt hc7 | omega) sl_7_0 rfl rfl hl.1 rfl (Nat.le_of_ble_eq_true rfl) dX8_firstDifference_62 ⟨Nat.le_of_ble_eq_true rfl, Nat.le_of_ble_eq_true rfl⟩) hS (fun z11 u12 H locs p13 hw hS => ?_)
                obtain ⟨eu12, p13, hvq9⟩ := p13
                subst eu12
                refine x_if_ne (tgt := 81) hx hb (by omega) dX8_firstDifference_65 (by decide) (fun c14 => ?_) (fun c14 => ?_)
                · refine lv_iinc (v := jI (k + 1)) (lv' := [(4, .int (jI (k + 1))), (5, .int (jI ((r * 5) + k))), (0, .ref (ad 7 g)), (1, .ref (ad 7 o)), (2, .int (jI z3)), (3, .int (jI r))]) hx hb dX8_firstDifference_81 hl (k := 5) rfl (jI_add _ _) (by decide) rfl (fun ls hl => ?_)
                  refine lv_goto (tgt := 39) hx hb dX8_firstDifference_84 (by decide) ?_
                  exact ih39 (k + 1) _ _ _ (by omega) (by omega) (hsh) (fun f a b => if hf9 : f = k then (by rw [hf9, show 5 * r + k = r * 5 + k by omega]; rcases hvq9 with ⟨e9, h9⟩ | ⟨e9, h9⟩; exact h9; exfalso; omega) else hvk f a (by omega)) hw hS (lv_sub hl [2, 3, 4, 5, 0] rfl)
                · refine lv_iload_n hx hb dX8_firstDifference_68 rfl (lv_at hl 4 rfl) ?_
                  refine lv_bipush (v := jI 100) hx hb dX8_firstDifference_69 (by decide) ?_
                  refine x_imul hx hb dX8_firstDifference_71 ?_
                  refine lv_aload_n hx hb dX8_firstDifference_72 rfl (lv_at hl 1 rfl) ?_
                  refine x_geto hx hb hf4 hw (by omega) (by omega) sl_7_3 lk224 dX8_firstDifference_73 ?_
                  refine lv_iload hx hb dX8_firstDifference_76 (lv_at hl 0 rfl) ?_
                  refine x_iald hx hb hK.1 hw (by omega) (by omega) ar_10 (len_E ar_10 (by first | exact Nat.ne_of_beq_eq_false rfl | decide)) (by omega) (by omega) (by omega) dX8_firstDifference_78 ?_
                  have f15 : 0 ≤ X 10 g ((r * 5) + k) ∧ X 10 g ((r * 5) + k) ≤ 19 := hR 10 g ((r * 5) + k)
                  refine x_iadd hx hb dX8_firstDifference_79 ?_
                  rw [hQ9]
                  refine ret_i (mc := 0) (ms := 0) hx hb hr hlocks hw hS (by first | exact Nat.le_of_ble_eq_true rfl | omega) (by first | exact Nat.le_of_ble_eq_true rfl | omega) dX8_firstDifference_80 ?_
                  have hmx16 : mxC X g o = z3 := by unfold mxC; split <;> omega
                  exact ⟨rfl, by omega, Or.inr ⟨r, by omega, by omega, hall, Or.inr ⟨hsh, k, by omega, (show k < X 9 g r by omega), hvk, (by rcases hvq9 with ⟨e9, h9⟩ | ⟨e9, h9⟩; exfalso; omega; show ¬ vqC X g o (5 * r + k); rw [show 5 * r + k = r * 5 + k by omega]; exact h9), (by show _ = 100 * r + X 10 g (5 * r + k); rw [show 5 * r + k = r * 5 + k by omega]; omega)⟩⟩⟩
          exact lp39 (5 - 0 : Int).toNat.succ 0 _ _ _ (by omega) (by omega) (p8.2) (fun f a b => by omega) hw hS (lv_sub hl [1, 2, 3, 4, 0] rfl)
        · subst ez6
          refine x_if_neF (tgt := 36) hx hb (by omega) (by decide) dX8_firstDifference_25 (by decide) ?_
          refine lv_iload_n hx hb dX8_firstDifference_28 rfl (lv_at hl 3 rfl) ?_
          refine lv_bipush (v := jI 100) hx hb dX8_firstDifference_29 (by decide) ?_
          refine x_imul hx hb dX8_firstDifference_31 ?_
          refine lv_bipush (v := jI 99) hx hb dX8_firstDifference_32 (by decide) ?_
          refine x_iadd hx hb dX8_firstDifference_34 ?_
          rw [hQ9]
          refine ret_i (mc := 0) (ms := 0) hx hb hr hlocks hw hS (by first | exact Nat.le_of_ble_eq_true rfl | omega) (by first | exact Nat.le_of_ble_eq_true rfl | omega) dX8_firstDifference_35 ?_
          have hmx17 : mxC X g o = z3 := by unfold mxC; split <;> omega
          exact ⟨rfl, by omega, Or.inr ⟨r, by omega, by omega, hall, Or.inl ⟨p8, by omega⟩⟩⟩
  exact lp14 (30 - 0 : Int).toNat.succ 0 _ _ _ (by omega) (by omega) (fun r' a b => by omega) hw hS (lv_sub hl [2, 3, 1, 0] rfl)

set_option maxHeartbeats 4000000 in
set_option maxRecDepth 100000 in
theorem c_X8_save (l : Launch) (D : va_G) (tc : Nat → ClassId) (base : Nat) (ad : Nat → Int → Nat) (cnt : Nat → Int) (X : Nat → Int → Int → Int) (Y : Nat → Int → Int → Option Int) (ln : Int → Int) (hR : Rng X) (hFx : Fx cnt) (hLn : LnOK ln) (hCI : CInv cnt X Y ln) (hRv : cRv X) (sv x : Int) (hsv : -2147483648 ≤ sv ∧ sv ≤ 2147483647) (hx : -2147483648 ≤ x ∧ x ≤ 2147483647) : KI l D tc base yX8_save wsX8_save ({ frames := 4, cells := 0, slots := 0, locals := 95 } : Room) [.ref (ad 0 0), .int (jI sv), .int (jI x)] (ad, cnt, X, Y, ln) 0 0 (fun z u => ∃ (X1 : Nat → Int → Int → Int) (Y1 : Nat → Int → Int → Option Int), u = (ad, cnt, X1, Y1, ln) ∧ Rng X1 ∧ Frm [701, 707, 800, 900, 1000, 1100, 1200, 1300, 1400, 1504, 2602, 3201, 3202, 3203, 3204] X X1 ∧ Frm [500, 400, 7] Y Y1 ∧ CInv cnt X1 Y1 ln ∧ (-2147483648 ≤ z ∧ z ≤ 2147483647) ∧ cRv X1 ∧ ((¬ ((0 ≤ sv ∧ sv < 4) ∧ (0 ≤ x ∧ x < X 0 0 3)) ∧ z = -1 ∧ X1 = X ∧ Y1 = Y) ∨ (((0 ≤ sv ∧ sv < 4) ∧ (0 ≤ x ∧ x < X 0 0 3)) ∧ ∃ (q : Int) (W : Nat → Int → Int → Int) (V : Nat → Int → Int → Option Int) (zs : Int), Y 0 0 6 = some q ∧ (0 ≤ q ∧ q < 6) ∧ rcT W V q (recR (cFc X Y) (cLa X Y) (cVl X Y) (cRid Y) x 30) ∧ rcR W V ln q (recR (cFc X Y) (cLa X Y) (cVl X Y) (cRid Y) x 30) ∧ rcV W V q (recR (cFc X Y) (cLa X Y) (cVl X Y) (cRid Y) x 30) (recR (cFc X Y) (cLa X Y) (cVl X Y) (cRid Y) x 30 0 0) 0 ∧ gK q X W ∧ Frm [701, 707, 800, 900, 1000, 1100, 1200, 1300, 1400, 1504, 2602] X W ∧ Frm [500] Y V ∧ ((zs = -1 ∧ ∀ r x k, 0 ≤ r → r < W 7 q 0 → V 5 0 r = some x → 0 ≤ k → k < cFc W V x → W 23 (tyo (V 15 x 0)) k = 0) ∨ (0 ≤ zs ∧ ∃ r x k, 0 ≤ r ∧ r < W 7 q 0 ∧ V 5 0 r = some x ∧ 0 ≤ k ∧ k < cFc W V x ∧ W 23 (tyo (V 15 x 0)) k ≠ 0)) ∧ ((0 ≤ zs ∧ z = -20 ∧ Frm [3201, 3202, 3203, 3204] W X1 ∧ Y1 = V) ∨ (zs = -1 ∧ z = W 7 q 0 ∧ X1 = W ∧ ∃ q2, Y 4 0 sv = some q2 ∧ Y1 = u3 (u3 V 4 0 sv (some q)) 0 0 6 (some q2)))))) := by
  refine K_of (cc := cX8_save) (maxL := 6) (ret := (some .int)) (by decide) rfl (Nat.le_of_ble_eq_true rfl) ?_
  intro p e s m below meth c ls hx hb hr hml hown hts hlocks hl hK hw hS
  have hown : s.vm.findClass RX8 = some m.cls := hown
  obtain ⟨av9, hav9⟩ : ∃ a9 : Array Value, a9 = ([.ref (ad 0 0), .int (jI sv), .int (jI x)] : List Value).toArray := ⟨_, rfl⟩
  rw [← hav9] at hts ⊢
  obtain ⟨Q9, hQ9⟩ : ∃ q9Q : State → Prop, q9Q = MQ below (QI D tc base (fun z u => ∃ (X1 : Nat → Int → Int → Int) (Y1 : Nat → Int → Int → Option Int), u = (ad, cnt, X1, Y1, ln) ∧ Rng X1 ∧ Frm [701, 707, 800, 900, 1000, 1100, 1200, 1300, 1400, 1504, 2602, 3201, 3202, 3203, 3204] X X1 ∧ Frm [500, 400, 7] Y Y1 ∧ CInv cnt X1 Y1 ln ∧ (-2147483648 ≤ z ∧ z ≤ 2147483647) ∧ cRv X1 ∧ ((¬ ((0 ≤ sv ∧ sv < 4) ∧ (0 ≤ x ∧ x < X 0 0 3)) ∧ z = -1 ∧ X1 = X ∧ Y1 = Y) ∨ (((0 ≤ sv ∧ sv < 4) ∧ (0 ≤ x ∧ x < X 0 0 3)) ∧ ∃ (q : Int) (W : Nat → Int → Int → Int) (V : Nat → Int → Int → Option Int) (zs : Int), Y 0 0 6 = some q ∧ (0 ≤ q ∧ q < 6) ∧ rcT W V q (recR (cFc X Y) (cLa X Y) (cVl X Y) (cRid Y) x 30) ∧ rcR W V ln q (recR (cFc X Y) (cLa X Y) (cVl X Y) (cRid Y) x 30) ∧ rcV W V q (recR (cFc X Y) (cLa X Y) (cVl X Y) (cRid Y) x 30) (recR (cFc X Y) (cLa X Y) (cVl X Y) (cRid Y) x 30 0 0) 0 ∧ gK q X W ∧ Frm [701, 707, 800, 900, 1000, 1100, 1200, 1300, 1400, 1504, 2602] X W ∧ Frm [500] Y V ∧ ((zs = -1 ∧ ∀ r x k, 0 ≤ r → r < W 7 q 0 → V 5 0 r = some x → 0 ≤ k → k < cFc W V x → W 23 (tyo (V 15 x 0)) k = 0) ∨ (0 ≤ zs ∧ ∃ r x k, 0 ≤ r ∧ r < W 7 q 0 ∧ V 5 0 r = some x ∧ 0 ≤ k ∧ k < cFc W V x ∧ W 23 (tyo (V 15 x 0)) k ≠ 0)) ∧ ((0 ≤ zs ∧ z = -20 ∧ Frm [3201, 3202, 3203, 3204] W X1 ∧ Y1 = V) ∨ (zs = -1 ∧ z = W 7 q 0 ∧ X1 = W ∧ ∃ q2, Y 4 0 sv = some q2 ∧ Y1 = u3 (u3 V 4 0 sv (some q)) 0 0 6 (some q2))))))) av9 s 0 0 (frA base) := ⟨_, rfl⟩
  rw [← hQ9]
  have hi4 : ∀ w ∈ wsX40, w ∈ wsX8_save := fun w h => List.mem_cons_of_mem _ (List.mem_append_left _ (List.mem_append_left _ (List.mem_append_left _ (List.mem_append_left _ (List.mem_append_right _ h)))))
  have hf4 : fctx s m _ RX8 wsX8_save D tc RX4 TX4 9 4 := ⟨hts, hi4, hown, hK.1, rfl⟩
  have hi8 : ∀ w ∈ wsX80, w ∈ wsX8_save := fun w h => List.mem_cons_of_mem _ (List.mem_append_left _ (List.mem_append_left _ (List.mem_append_left _ (List.mem_append_left _ (List.mem_append_left _ (List.mem_append_right _ h))))))
  have hf8 : fctx s m _ RX8 wsX8_save D tc RX8 TX8 12 8 := ⟨hts, hi8, hown, hK.1, rfl⟩
  have lk27 := hts (.fieldLink RX8 27 (TX8 5).1 (TX8 5).2.1 (TX8 5).2.2.1) (gj_X8_save_0 _ (gp_1 (gp_1 (gp_1 gp_h))))
  have lk32 := hts (.fieldLink RX8 32 (TX8 6).1 (TX8 6).2.1 (TX8 6).2.2.1) (gj_X8_save_0 _ (gp_h))
  have lk58 := hts (.fieldLink RX8 58 (TX8 11).1 (TX8 11).2.1 (TX8 11).2.2.1) (gj_X8_save_0 _ (gp_1 gp_h))
  have lk224 := hts (.fieldLink RX8 224 (TX4 3).1 (TX4 3).2.1 (TX4 3).2.2.1) (gj_X8_save_0 _ (gp_1 (gp_1 gp_h)))
  have lk231 := hts (.fieldLink RX8 231 (TX4 0).1 (TX4 0).2.1 (TX4 0).2.2.1) (gj_X8_save_0 _ (gp_4 gp_h))
  have hc0 : cnt 0 = 1 := hFx.at 0 1 (by decide)
  have hc4 : cnt 4 = 1 := hFx.at 4 1 (by decide)
  have hc7 : cnt 7 = 6 := hFx.at 7 6 (by decide)
  have hc10 : cnt 10 = 6 := hFx.at 10 6 (by decide)
  have hc32 : cnt 32 = 1 := hFx.at 32 1 (by decide)
  have hl : lv_has ls 6 [(0, .ref (ad 0 0)), (1, .int (jI sv)), (2, .int (jI x))] := hl
  have ftc : 0 ≤ X 0 0 3 ∧ X 0 0 3 ≤ 30 := hR 0 0 3
  have fty : 0 ≤ X 0 0 1 ∧ X 0 0 1 ≤ 8 := hR 0 0 1
  have hct : cnt 19 = X 0 0 1 := hCI.2.2.2.1.1
  have hfj : 0 ≤ X 29 0 3 ∧ X 29 0 3 ≤ 4 := hR 29 0 3
  have hfn : 0 ≤ X 29 0 1 ∧ X 29 0 1 ≤ 80 := hR 29 0 1
  refine lv_aload_n hx hb dX8_save_0 rfl (lv_at hl 0 rfl) ?_
  refine lv_iload_n hx hb dX8_save_1 rfl (lv_at hl 2 rfl) ?_
  refine x_i2l hx hb (by omega) dX8_save_2 ?_
  refine gos_r (run_V (As := [.long (jL x)]) (rest := []) hx hb hml hown hts (c_X8_thingNumbered l D tc base ad cnt X Y ln hR hFx hLn hCI x (by omega)) (cwV 1 hts gX8_save_X8_thingNumbered rfl rfl rfl (by first | exact hd_X8_thingNumbered | decide +kernel) ⟨Nat.le_of_ble_eq_true rfl, Nat.le_of_ble_eq_true rfl⟩) hK hw (by first | exact Int.le_refl 0 | omega) (by first | exact zlt hc0 | omega) sl_0_0 rfl rfl hl.1 rfl (Nat.le_of_ble_eq_true rfl) dX8_save_3 ⟨Nat.le_of_ble_eq_true rfl, Nat.le_of_ble_eq_true rfl⟩) hS (fun u2 H locs p3 hw hS => ?_) (fun z1 u2 H locs p3 hw hS => ?_)
  · obtain ⟨eu2, hsp3, hnp3⟩ := p3
    subst eu2
    refine lv_astore_nN (lv' := [(3, .null), (0, .ref (ad 0 0)), (1, .int (jI sv)), (2, .int (jI x))]) hx hb dX8_save_6 rfl hl (by decide) rfl (fun ls hl => ?_)
    refine lv_iload_n hx hb dX8_save_7 rfl (lv_at hl 2 rfl) ?_
    refine lv_iconst (v := jI 4) hx hb dX8_save_8 rfl ?_
    refine gos_i (run_S (As := [.int (jI sv), .int (jI 4)]) (rest := []) hx hb hml hown hts (c_X8_isBelow l D tc base ad cnt X Y ln sv 4 (by omega) (by omega)) (cwS 2 hts gX8_save_X8_isBelow rfl rfl rfl (by first | exact hd_X8_isBelow | decide +kernel) ⟨Nat.le_of_ble_eq_true rfl, Nat.le_of_ble_eq_true rfl⟩) hK hw rfl hl.1 rfl (Nat.le_of_ble_eq_true rfl) dX8_save_9 ⟨Nat.le_of_ble_eq_true rfl, Nat.le_of_ble_eq_true rfl⟩) hS (fun z4 u5 H locs p6 hw hS => ?_)
    obtain ⟨eu5, p6⟩ := p6
    subst eu5
    rcases p6 with ⟨ez4, p6⟩ | ⟨ez4, p6⟩
    · subst ez4
      refine x_if_eqF (tgt := 19) hx hb (by omega) (by decide) dX8_save_12 (by decide) ?_
      refine lv_aload_nN hx hb dX8_save_15 rfl (lv_at hl 0 rfl) ?_
      refine lv_ifnonnullN hx hb dX8_save_16 ?_
      refine lv_iconst (v := jI (-1)) hx hb dX8_save_19 rfl ?_
      rw [hQ9]
      refine ret_i (mc := 0) (ms := 0) hx hb hr hlocks hw hS (by first | exact Nat.le_of_ble_eq_true rfl | omega) (by first | exact Nat.le_of_ble_eq_true rfl | omega) dX8_save_20 ?_
      exact ⟨X, Y, rfl, hR, Frm.rf, Frm.rf, hCI, by omega, hRv, Or.inl ⟨(by have h9n : ¬ (0 ≤ x ∧ x < X 0 0 3) := hnp3 rfl; exact (fun q9 => by (try delta Hid at *); omega)), by omega, rfl, rfl⟩⟩
    · subst ez4
      refine x_if_eqT (tgt := 19) hx hb (by omega) (by decide) dX8_save_12 (by decide) ?_
      refine lv_iconst (v := jI (-1)) hx hb dX8_save_19 rfl ?_
      rw [hQ9]
      refine ret_i (mc := 0) (ms := 0) hx hb hr hlocks hw hS (by first | exact Nat.le_of_ble_eq_true rfl | omega) (by first | exact Nat.le_of_ble_eq_true rfl | omega) dX8_save_20 ?_
      exact ⟨X, Y, rfl, hR, Frm.rf, Frm.rf, hCI, by omega, hRv, Or.inl ⟨(by have h9n : ¬ (0 ≤ x ∧ x < X 0 0 3) := hnp3 rfl; exact (fun q9 => by (try delta Hid at *); omega)), by omega, rfl, rfl⟩⟩
  · obtain ⟨eu2, hsp3, hnp3⟩ := p3
    subst eu2
    obtain ⟨ezz1, p3⟩ := hsp3 z1 rfl
    refine lv_astore_n (lv' := [(3, .ref (ad 15 z1)), (0, .ref (ad 0 0)), (1, .int (jI sv)), (2, .int (jI x))]) hx hb dX8_save_6 rfl hl (by decide) rfl (fun ls hl => ?_)
    refine lv_iload_n hx hb dX8_save_7 rfl (lv_at hl 2 rfl) ?_
    refine lv_iconst (v := jI 4) hx hb dX8_save_8 rfl ?_
    refine gos_i (run_S (As := [.int (jI sv), .int (jI 4)]) (rest := []) hx hb hml hown hts (c_X8_isBelow l D tc base ad cnt X Y ln sv 4 (by omega) (by omega)) (cwS 2 hts gX8_save_X8_isBelow rfl rfl rfl (by first | exact hd_X8_isBelow | decide +kernel) ⟨Nat.le_of_ble_eq_true rfl, Nat.le_of_ble_eq_true rfl⟩) hK hw rfl hl.1 rfl (Nat.le_of_ble_eq_true rfl) dX8_save_9 ⟨Nat.le_of_ble_eq_true rfl, Nat.le_of_ble_eq_true rfl⟩) hS (fun z7 u8 H locs p9 hw hS => ?_)
    obtain ⟨eu8, p9⟩ := p9
    subst eu8
    rcases p9 with ⟨ez7, p9⟩ | ⟨ez7, p9⟩
    · subst ez7
      refine x_if_eqF (tgt := 19) hx hb (by omega) (by decide) dX8_save_12 (by decide) ?_
      refine lv_aload_n hx hb dX8_save_15 rfl (lv_at hl 0 rfl) ?_
      refine lv_ifnonnull (tgt := 21) hx hb dX8_save_16 (by decide) ?_
      refine lv_aload_n hx hb dX8_save_21 rfl (lv_at hl 1 rfl) ?_
      refine lv_aload_n hx hb dX8_save_22 rfl (lv_at hl 0 rfl) ?_
      refine lv_aload_n hx hb dX8_save_23 rfl (lv_at hl 1 rfl) ?_
      refine x_getr (jz := 6) hx hb hf8 hw (by first | exact Int.le_refl 0 | omega) (by first | exact zlt hc0 | omega) sl_0_6 rfl lk32 dX8_save_24 (fun y10 => ?_) (fun r11 y10 gr11 lr11 => ?_)
      · exfalso
        exact absurd y10 hCI.2.2.1.2.1
      · refine gos_v (run_V (As := [.ref (ad 15 z1), .ref (ad 7 r11)]) (rest := []) hx hb hml hown hts (c_X8_recordFrom l D tc base ad cnt X Y ln hR hFx hLn hCI z1 r11 (by omega) (by omega) (by omega) hRv) (cwV 2 hts gX8_save_X8_recordFrom rfl rfl rfl (by first | exact hd_X8_recordFrom | decide +kernel) ⟨Nat.le_of_ble_eq_true rfl, Nat.le_of_ble_eq_true rfl⟩) hK hw (by first | exact Int.le_refl 0 | omega) (by first | exact zlt hc0 | omega) sl_0_0 rfl rfl hl.1 rfl (Nat.le_of_ble_eq_true rfl) dX8_save_27 ⟨Nat.le_of_ble_eq_true rfl, Nat.le_of_ble_eq_true rfl⟩) hS (fun u13 H locs p14 hw hS => ?_)
        obtain ⟨X15, Y16, eu13, hRX15, hG17, hJ18, hCIX15, p14, hOX15, hRvX15, hTfX15, hRfX15, hVfX15, hgkX15⟩ := p14
        subst eu13
        have hFX15 : Frm [701, 707, 800, 900, 1000, 1100, 1200, 1300, 1400, 1504, 2602, 3201, 3202, 3203, 3204] X X15 := Frm.tr Frm.rf (Frm.mono hG17 (by first | exact nls_of rfl | decide))
        have hHY16 : Frm [500, 400, 7] Y Y16 := Frm.tr Frm.rf (Frm.mono hJ18 (by first | exact nls_of rfl | decide))
        refine lv_aload_n hx hb dX8_save_30 rfl (lv_at hl 1 rfl) ?_
        refine lv_aload_n hx hb dX8_save_31 rfl (lv_at hl 1 rfl) ?_
        refine x_getr (jz := 6) hx hb hf8 hw (by first | exact Int.le_refl 0 | omega) (by first | exact zlt hc0 | omega) sl_0_6 rfl lk32 dX8_save_32 (fun y19 => ?_) (fun r20 y19 gr20 lr20 => ?_)
        · exfalso
          have e21 : Y16 0 0 6 = Y 0 0 6 := by rw [hJ18 0 0 6 (show 7 ∉ [500] by first | exact nlm_ni rfl | decide)]
          rw [e21] at y19
          rw [y10] at y19; cases y19
        · have e22 : Y16 0 0 6 = Y 0 0 6 := by rw [hJ18 0 0 6 (show 7 ∉ [500] by first | exact nlm_ni rfl | decide)]
          rw [e22] at y19
          have er20 : r20 = r11 := by rw [y10] at y19; cases y19; rfl
          rw [er20]
          refine gos_i (run_V (As := [.ref (ad 7 r11)]) (rest := []) hx hb hml hown hts (c_X8_firstShutSlot l D tc base ad cnt X15 Y16 ln hRX15 hFx hLn hCIX15 r11 (by omega) hOX15) (cwV 1 hts gX8_save_X8_firstShutSlot rfl rfl rfl (by first | exact hd_X8_firstShutSlot | decide +kernel) ⟨Nat.le_of_ble_eq_true rfl, Nat.le_of_ble_eq_true rfl⟩) hK hw (by first | exact Int.le_refl 0 | omega) (by first | exact zlt hc0 | omega) sl_0_0 rfl rfl hl.1 rfl (Nat.le_of_ble_eq_true rfl) dX8_save_35 ⟨Nat.le_of_ble_eq_true rfl, Nat.le_of_ble_eq_true rfl⟩) hS (fun z23 u24 H locs p25 hw hS => ?_)
          obtain ⟨eu24, p25, hshz23⟩ := p25
          subst eu24
          refine lv_istore (lv' := [(4, .int (jI z23)), (3, .ref (ad 15 z1)), (0, .ref (ad 0 0)), (1, .int (jI sv)), (2, .int (jI x))]) hx hb dX8_save_38 hl (by decide) rfl (fun ls hl => ?_)
          refine lv_iload hx hb dX8_save_40 (lv_at hl 0 rfl) ?_
          refine lv_iconst (v := jI (-1)) hx hb dX8_save_42 rfl ?_
          refine x_icmp_eq (tgt := 74) hx hb (by omega) (by omega) dX8_save_43 (by decide) (fun c26 => ?_) (fun c26 => ?_)
          · refine lv_aload_n hx hb dX8_save_74 rfl (lv_at hl 2 rfl) ?_
            refine x_geto hx hb hf8 hw (by first | exact Int.le_refl 0 | omega) (by first | exact zlt hc0 | omega) sl_0_5 lk27 dX8_save_75 ?_
            refine lv_iload_n hx hb dX8_save_78 rfl (lv_at hl 3 rfl) ?_
            refine x_aald hx hb hK.1 hw (by first | exact Int.le_refl 0 | omega) (by first | exact zlt hc4 | omega) ar_4 rfl (len_E ar_4 (by first | exact Nat.ne_of_beq_eq_false rfl | decide)) (by omega) (by omega) (by omega) dX8_save_79 (fun y27 => ?_) (fun r28 y27 gr28 lr28 => ?_)
            · exfalso
              have e29 : ∀ p9 q9 : Int, Y16 4 p9 q9 = Y 4 p9 q9 := fun p9 q9 => by rw [hJ18 4 p9 q9 (show 400 ∉ [500] by first | exact nlm_ni rfl | decide)]
              rw [e29] at y27
              exact absurd y27 (hCI.2.2.1.1 sv (by omega) (by omega))
            · have e30 : ∀ p9 q9 : Int, Y16 4 p9 q9 = Y 4 p9 q9 := fun p9 q9 => by rw [hJ18 4 p9 q9 (show 400 ∉ [500] by first | exact nlm_ni rfl | decide)]
              rw [e30] at y27
              refine lv_astore (lv' := [(5, .ref (ad 7 r28)), (4, .int (jI z23)), (3, .ref (ad 15 z1)), (0, .ref (ad 0 0)), (1, .int (jI sv)), (2, .int (jI x))]) hx hb dX8_save_80 hl (by decide) rfl (fun ls hl => ?_)
              refine lv_aload_n hx hb dX8_save_82 rfl (lv_at hl 3 rfl) ?_
              refine x_geto hx hb hf8 hw (by first | exact Int.le_refl 0 | omega) (by first | exact zlt hc0 | omega) sl_0_5 lk27 dX8_save_83 ?_
              refine lv_iload_n hx hb dX8_save_86 rfl (lv_at hl 4 rfl) ?_
              refine lv_aload_n hx hb dX8_save_87 rfl (lv_at hl 3 rfl) ?_
              refine x_getr (jz := 6) hx hb hf8 hw (by first | exact Int.le_refl 0 | omega) (by first | exact zlt hc0 | omega) sl_0_6 rfl lk32 dX8_save_88 (fun y31 => ?_) (fun r32 y31 gr32 lr32 => ?_)
              · exfalso
                have e33 : Y16 0 0 6 = Y 0 0 6 := by rw [hJ18 0 0 6 (show 7 ∉ [500] by first | exact nlm_ni rfl | decide)]
                rw [e33] at y31
                rw [y10] at y31; cases y31
              · have e34 : Y16 0 0 6 = Y 0 0 6 := by rw [hJ18 0 0 6 (show 7 ∉ [500] by first | exact nlm_ni rfl | decide)]
                rw [e34] at y31
                have er32 : r32 = r11 := by rw [y10] at y31; cases y31; rfl
                rw [er32]
                refine x_aast hx hb hK.1 hw hS (by first | exact Int.le_refl 0 | omega) (by first | exact zlt hc4 | omega) ar_4 rfl rfl sl_7_0 (len_E ar_4 (by first | exact Nat.ne_of_beq_eq_false rfl | decide)) (by omega) (by omega) (by omega) (by omega) (by omega) dX8_save_91 (fun H locs hw hS => ?_)
                obtain ⟨Y35, hY35⟩ : ∃ Yq, Yq = u3 Y16 4 0 sv (some r11) := ⟨_, rfl⟩
                rw [← hY35] at hw
                have hVY35 : Y35 4 0 sv = (some r11) := by rw [hY35]; exact u3_s _ _ _ _ _
                have hHY35 : Frm [500, 400, 7] Y Y35 := by rw [hY35]; exact Frm.set hHY16 (show 400 ∈ [500, 400, 7] by first | exact nlm_in rfl | decide)
                refine lv_aload_n hx hb dX8_save_92 rfl (lv_at hl 3 rfl) ?_
                refine lv_aload hx hb dX8_save_93 (lv_at hl 0 rfl) ?_
                refine x_putr (jz := 6) hx hb hf8 ⟨tyX8_ok, nmX8⟩ hw hS (by first | exact Int.le_refl 0 | omega) (by first | exact zlt hc0 | omega) sl_0_6 rfl lk32 rfl (by omega) (by omega) (tyX8_ok 6 (by decide)) dX8_save_95 (fun H locs hw hS => ?_)
                obtain ⟨Y36, hY36⟩ : ∃ Yq, Yq = u3 Y35 0 0 6 (some r28) := ⟨_, rfl⟩
                rw [← hY36] at hw
                have hVY36 : Y36 0 0 6 = (some r28) := by rw [hY36]; exact u3_s _ _ _ _ _
                have hHY36 : Frm [500, 400, 7] Y Y36 := by rw [hY36]; exact Frm.set hHY35 (show 7 ∈ [500, 400, 7] by first | exact nlm_in rfl | decide)
                refine lv_aload_n hx hb dX8_save_98 rfl (lv_at hl 3 rfl) ?_
                refine x_geto hx hb hf8 hw (by first | exact Int.le_refl 0 | omega) (by first | exact zlt hc0 | omega) sl_0_5 lk27 dX8_save_99 ?_
                refine lv_iload_n hx hb dX8_save_102 rfl (lv_at hl 4 rfl) ?_
                refine x_aald hx hb hK.1 hw (by first | exact Int.le_refl 0 | omega) (by first | exact zlt hc4 | omega) ar_4 rfl (len_E ar_4 (by first | exact Nat.ne_of_beq_eq_false rfl | decide)) (by omega) (by omega) (by omega) dX8_save_103 (fun y37 => ?_) (fun r38 y37 gr38 lr38 => ?_)
                · exfalso
                  have e39 : ∀ p9 q9 : Int, Y36 4 p9 q9 = Y35 4 p9 q9 := fun p9 q9 => by rw [hY36, u3_k _ _ _ _ (by first | exact Nat.ne_of_beq_eq_false rfl | decide)]
                  rw [e39] at y37
                  rw [hVY35] at y37; cases y37
                · have e40 : ∀ p9 q9 : Int, Y36 4 p9 q9 = Y35 4 p9 q9 := fun p9 q9 => by rw [hY36, u3_k _ _ _ _ (by first | exact Nat.ne_of_beq_eq_false rfl | decide)]
                  rw [e40] at y37
                  have er38 : r38 = r11 := by rw [hVY35] at y37; cases y37; rfl
                  rw [er38]
                  refine x_geti (jz := 0) hx hb hf4 hw (by omega) (by omega) sl_7_0 rfl lk231 dX8_save_104 ?_
                  have f41 : 0 ≤ X15 7 r11 0 ∧ X15 7 r11 0 ≤ 30 := hRX15 7 r11 0
                  rw [hQ9]
                  refine ret_i (mc := 0) (ms := 0) hx hb hr hlocks hw hS (by first | exact Nat.le_of_ble_eq_true rfl | omega) (by first | exact Nat.le_of_ble_eq_true rfl | omega) dX8_save_107 ?_
                  exact ⟨X15, Y36, rfl, hRX15, hFX15, hHY36, (by rw [hY36, hY35]; exact cinv_swap hCIX15), by omega, hRvX15, Or.inr ⟨(by (try delta Hid at *); omega), r11, X15, Y16, z23, y10, ⟨by omega, by omega⟩, (by rw [← ezz1]; exact hTfX15), (by rw [← ezz1]; exact hRfX15), (by rw [← ezz1]; exact hVfX15), hgkX15, hG17, hJ18, hshz23, Or.inr ⟨by omega, by omega, rfl, r28, y27, (by rw [hY36, hY35])⟩⟩⟩
          · refine lv_aload_n hx hb dX8_save_46 rfl (lv_at hl 2 rfl) ?_
            refine x_geto hx hb hf8 hw (by first | exact Int.le_refl 0 | omega) (by first | exact zlt hc0 | omega) sl_0_11 lk58 dX8_save_47 ?_
            refine lv_iload hx hb dX8_save_50 (lv_at hl 0 rfl) ?_
            refine lv_iconst (v := jI 5) hx hb dX8_save_52 rfl ?_
            refine lv_idiv hx hb dX8_save_53 (by decide) ?_
            refine x_anyi (fun z42 hz42 => ?_)
            refine lv_aload_n hx hb dX8_save_54 rfl (lv_at hl 2 rfl) ?_
            refine x_getr (jz := 6) hx hb hf8 hw (by first | exact Int.le_refl 0 | omega) (by first | exact zlt hc0 | omega) sl_0_6 rfl lk32 dX8_save_55 (fun y43 => ?_) (fun r44 y43 gr44 lr44 => ?_)
            · exfalso
              have e45 : Y16 0 0 6 = Y 0 0 6 := by rw [hJ18 0 0 6 (show 7 ∉ [500] by first | exact nlm_ni rfl | decide)]
              rw [e45] at y43
              rw [y10] at y43; cases y43
            · have e46 : Y16 0 0 6 = Y 0 0 6 := by rw [hJ18 0 0 6 (show 7 ∉ [500] by first | exact nlm_ni rfl | decide)]
              rw [e46] at y43
              have er44 : r44 = r11 := by rw [y10] at y43; cases y43; rfl
              rw [er44]
              refine x_geto hx hb hf4 hw (by omega) (by omega) sl_7_3 lk224 dX8_save_58 ?_
              refine lv_iload hx hb dX8_save_61 (lv_at hl 0 rfl) ?_
              refine x_iald hx hb hK.1 hw (by omega) (by omega) ar_10 (len_E ar_10 (by first | exact Nat.ne_of_beq_eq_false rfl | decide)) (by omega) (by omega) (by omega) dX8_save_63 ?_
              have f47 : 0 ≤ X15 10 r11 z23 ∧ X15 10 r11 z23 ≤ 19 := hRX15 10 r11 z23
              refine lv_iconst (v := jI (-1)) hx hb dX8_save_64 rfl ?_
              refine gos_v (run_V (As := [.int (jI z42), .int (jI (X15 10 r11 z23)), .int (jI (-1))]) (rest := []) hx hb hml hown hts (c_X1_tell l D tc base ad cnt X15 Y16 ln hRX15 hFx hLn hCIX15 z42 (X15 10 r11 z23) (-1) (by omega) (by omega) (by omega)) (cwV 3 hts gX8_save_X1_tell rfl rfl rfl (by first | exact hd_X1_tell | decide +kernel) ⟨Nat.le_of_ble_eq_true rfl, Nat.le_of_ble_eq_true rfl⟩) hK hw (by first | exact Int.le_refl 0 | omega) (by first | exact zlt hc32 | omega) sl_32_0 rfl rfl hl.1 rfl (Nat.le_of_ble_eq_true rfl) dX8_save_65 ⟨Nat.le_of_ble_eq_true rfl, Nat.le_of_ble_eq_true rfl⟩) hS (fun u49 H locs p50 hw hS => ?_)
              obtain ⟨X51, eu49, hRX51, hG52, hCIX51, p50⟩ := p50
              subst eu49
              have hFX51 : Frm [701, 707, 800, 900, 1000, 1100, 1200, 1300, 1400, 1504, 2602, 3201, 3202, 3203, 3204] X X51 := Frm.tr hFX15 (Frm.mono hG52 (by first | exact nls_of rfl | decide))
              refine lv_bipush (v := jI 10) hx hb dX8_save_68 (by decide) ?_
              refine gos_i (run_S (As := [.int (jI 10)]) (rest := []) hx hb hml hown hts (c_X8_failed l D tc base ad cnt X51 Y16 ln 10 (by omega)) (cwS 1 hts gX8_save_X8_failed rfl rfl rfl (by first | exact hd_X8_failed | decide +kernel) ⟨Nat.le_of_ble_eq_true rfl, Nat.le_of_ble_eq_true rfl⟩) hK hw rfl hl.1 rfl (Nat.le_of_ble_eq_true rfl) dX8_save_70 ⟨Nat.le_of_ble_eq_true rfl, Nat.le_of_ble_eq_true rfl⟩) hS (fun z53 u54 H locs p55 hw hS => ?_)
              obtain ⟨eu54, p55⟩ := p55
              subst eu54
              rw [hQ9]
              refine ret_i (mc := 0) (ms := 0) hx hb hr hlocks hw hS (by first | exact Nat.le_of_ble_eq_true rfl | omega) (by first | exact Nat.le_of_ble_eq_true rfl | omega) dX8_save_73 ?_
              have q57 : Frm [3201, 3202, 3203, 3204] X15 X51 := Frm.tr Frm.rf (Frm.mono hG52 (by first | exact nls_of rfl | decide))
              have hRq56 : cRv X51 := hRvX15.frm q57 (by decide)
              exact ⟨X51, Y16, rfl, hRX51, hFX51, hHY16, hCIX51, by omega, hRq56, Or.inr ⟨(by (try delta Hid at *); omega), r11, X15, Y16, z23, y10, ⟨by omega, by omega⟩, (by rw [← ezz1]; exact hTfX15), (by rw [← ezz1]; exact hRfX15), (by rw [← ezz1]; exact hVfX15), hgkX15, hG17, hJ18, hshz23, Or.inl ⟨by omega, by omega, q57, rfl⟩⟩⟩
    · subst ez7
      refine x_if_eqT (tgt := 19) hx hb (by omega) (by decide) dX8_save_12 (by decide) ?_
      refine lv_iconst (v := jI (-1)) hx hb dX8_save_19 rfl ?_
      rw [hQ9]
      refine ret_i (mc := 0) (ms := 0) hx hb hr hlocks hw hS (by first | exact Nat.le_of_ble_eq_true rfl | omega) (by first | exact Nat.le_of_ble_eq_true rfl | omega) dX8_save_20 ?_
      exact ⟨X, Y, rfl, hR, Frm.rf, Frm.rf, hCI, by omega, hRv, Or.inl ⟨(by exact (fun q9 => by (try delta Hid at *); omega)), by omega, rfl, rfl⟩⟩

set_option maxHeartbeats 4000000 in
set_option maxRecDepth 100000 in
theorem c_X8_like (l : Launch) (D : va_G) (tc : Nat → ClassId) (base : Nat) (ad : Nat → Int → Nat) (cnt : Nat → Int) (X : Nat → Int → Int → Int) (Y : Nat → Int → Int → Option Int) (ln : Int → Int) (hR : Rng X) (hFx : Fx cnt) (hLn : LnOK ln) (hCI : CInv cnt X Y ln) (hRv : cRv X) (x y : Int) (hx : -2147483648 ≤ x ∧ x ≤ 2147483647) (hy : -2147483648 ≤ y ∧ y ≤ 2147483647) : KI l D tc base yX8_like wsX8_like ({ frames := 4, cells := 0, slots := 0, locals := 95 } : Room) [.ref (ad 0 0), .int (jI x), .int (jI y)] (ad, cnt, X, Y, ln) 0 0 (fun z u => ∃ (X1 : Nat → Int → Int → Int) (Y1 : Nat → Int → Int → Option Int), u = (ad, cnt, X1, Y1, ln) ∧ Rng X1 ∧ Frm [701, 707, 800, 900, 1000, 1100, 1200, 1300, 1400, 1504, 2602] X X1 ∧ Frm [500] Y Y1 ∧ CInv cnt X1 Y1 ln ∧ (-2147483648 ≤ z ∧ z ≤ 2147483647) ∧ cRv X1 ∧ ((X1 = X ∧ Y1 = Y) ∨ ∃ (q q2 : Int) (W : Nat → Int → Int → Int), Y 0 0 6 = some q ∧ Y 0 0 7 = some q2 ∧ gK q X W ∧ gK q2 W X1)) := by
  refine K_of (cc := cX8_like) (maxL := 5) (ret := (some .int)) (by decide) rfl (Nat.le_of_ble_eq_true rfl) ?_
  intro p e s m below meth c ls hx hb hr hml hown hts hlocks hl hK hw hS
  have hown : s.vm.findClass RX8 = some m.cls := hown
  obtain ⟨av9, hav9⟩ : ∃ a9 : Array Value, a9 = ([.ref (ad 0 0), .int (jI x), .int (jI y)] : List Value).toArray := ⟨_, rfl⟩
  rw [← hav9] at hts ⊢
  obtain ⟨Q9, hQ9⟩ : ∃ q9Q : State → Prop, q9Q = MQ below (QI D tc base (fun z u => ∃ (X1 : Nat → Int → Int → Int) (Y1 : Nat → Int → Int → Option Int), u = (ad, cnt, X1, Y1, ln) ∧ Rng X1 ∧ Frm [701, 707, 800, 900, 1000, 1100, 1200, 1300, 1400, 1504, 2602] X X1 ∧ Frm [500] Y Y1 ∧ CInv cnt X1 Y1 ln ∧ (-2147483648 ≤ z ∧ z ≤ 2147483647) ∧ cRv X1 ∧ ((X1 = X ∧ Y1 = Y) ∨ ∃ (q q2 : Int) (W : Nat → Int → Int → Int), Y 0 0 6 = some q ∧ Y 0 0 7 = some q2 ∧ gK q X W ∧ gK q2 W X1))) av9 s 0 0 (frA base) := ⟨_, rfl⟩
  rw [← hQ9]
  have hi8 : ∀ w ∈ wsX80, w ∈ wsX8_like := fun w h => List.mem_cons_of_mem _ (List.mem_append_left _ (List.mem_append_left _ (List.mem_append_left _ (List.mem_append_left _ (List.mem_append_right _ h)))))
  have hf8 : fctx s m _ RX8 wsX8_like D tc RX8 TX8 12 8 := ⟨hts, hi8, hown, hK.1, rfl⟩
  have lk32 := hts (.fieldLink RX8 32 (TX8 6).1 (TX8 6).2.1 (TX8 6).2.2.1) (gj_X8_like_0 _ (gp_h))
  have lk36 := hts (.fieldLink RX8 36 (TX8 7).1 (TX8 7).2.1 (TX8 7).2.2.1) (gj_X8_like_0 _ (gp_1 gp_h))
  have hc0 : cnt 0 = 1 := hFx.at 0 1 (by decide)
  have hc7 : cnt 7 = 6 := hFx.at 7 6 (by decide)
  have hl : lv_has ls 5 [(0, .ref (ad 0 0)), (1, .int (jI x)), (2, .int (jI y))] := hl
  have ftc : 0 ≤ X 0 0 3 ∧ X 0 0 3 ≤ 30 := hR 0 0 3
  have fty : 0 ≤ X 0 0 1 ∧ X 0 0 1 ≤ 8 := hR 0 0 1
  have hct : cnt 19 = X 0 0 1 := hCI.2.2.2.1.1
  have hfj : 0 ≤ X 29 0 3 ∧ X 29 0 3 ≤ 4 := hR 29 0 3
  have hfn : 0 ≤ X 29 0 1 ∧ X 29 0 1 ≤ 80 := hR 29 0 1
  refine lv_aload_n hx hb dX8_like_0 rfl (lv_at hl 0 rfl) ?_
  refine lv_iload_n hx hb dX8_like_1 rfl (lv_at hl 1 rfl) ?_
  refine x_i2l hx hb (by omega) dX8_like_2 ?_
  refine gos_r (run_V (As := [.long (jL x)]) (rest := []) hx hb hml hown hts (c_X8_thingNumbered l D tc base ad cnt X Y ln hR hFx hLn hCI x (by omega)) (cwV 1 hts gX8_like_X8_thingNumbered rfl rfl rfl (by first | exact hd_X8_thingNumbered | decide +kernel) ⟨Nat.le_of_ble_eq_true rfl, Nat.le_of_ble_eq_true rfl⟩) hK hw (by first | exact Int.le_refl 0 | omega) (by first | exact zlt hc0 | omega) sl_0_0 rfl rfl hl.1 rfl (Nat.le_of_ble_eq_true rfl) dX8_like_3 ⟨Nat.le_of_ble_eq_true rfl, Nat.le_of_ble_eq_true rfl⟩) hS (fun u2 H locs p3 hw hS => ?_) (fun z1 u2 H locs p3 hw hS => ?_)
  · obtain ⟨eu2, hsp3, hnp3⟩ := p3
    subst eu2
    refine lv_astore_nN (lv' := [(3, .null), (0, .ref (ad 0 0)), (1, .int (jI x)), (2, .int (jI y))]) hx hb dX8_like_6 rfl hl (by decide) rfl (fun ls hl => ?_)
    refine lv_aload_n hx hb dX8_like_7 rfl (lv_at hl 1 rfl) ?_
    refine lv_iload_n hx hb dX8_like_8 rfl (lv_at hl 3 rfl) ?_
    refine x_i2l hx hb (by omega) dX8_like_9 ?_
    refine gos_r (run_V (As := [.long (jL y)]) (rest := []) hx hb hml hown hts (c_X8_thingNumbered l D tc base ad cnt X Y ln hR hFx hLn hCI y (by omega)) (cwV 1 hts gX8_like_X8_thingNumbered rfl rfl rfl (by first | exact hd_X8_thingNumbered | decide +kernel) ⟨Nat.le_of_ble_eq_true rfl, Nat.le_of_ble_eq_true rfl⟩) hK hw (by first | exact Int.le_refl 0 | omega) (by first | exact zlt hc0 | omega) sl_0_0 rfl rfl hl.1 rfl (Nat.le_of_ble_eq_true rfl) dX8_like_10 ⟨Nat.le_of_ble_eq_true rfl, Nat.le_of_ble_eq_true rfl⟩) hS (fun u5 H locs p6 hw hS => ?_) (fun z4 u5 H locs p6 hw hS => ?_)
    · obtain ⟨eu5, hsp6, hnp6⟩ := p6
      subst eu5
      refine lv_astoreN (lv' := [(4, .null), (3, .null), (0, .ref (ad 0 0)), (1, .int (jI x)), (2, .int (jI y))]) hx hb dX8_like_13 hl (by decide) rfl (fun ls hl => ?_)
      refine lv_aload_nN hx hb dX8_like_15 rfl (lv_at hl 1 rfl) ?_
      refine lv_ifnullN (tgt := 24) hx hb dX8_like_16 (by decide) ?_
      refine lv_iconst (v := jI (-1)) hx hb dX8_like_24 rfl ?_
      rw [hQ9]
      refine ret_i (mc := 0) (ms := 0) hx hb hr hlocks hw hS (by first | exact Nat.le_of_ble_eq_true rfl | omega) (by first | exact Nat.le_of_ble_eq_true rfl | omega) dX8_like_25 ?_
      exact ⟨X, Y, rfl, hR, Frm.rf, Frm.rf, hCI, by omega, hRv, Or.inl ⟨rfl, rfl⟩⟩
    · obtain ⟨eu5, hsp6, hnp6⟩ := p6
      subst eu5
      obtain ⟨ezz4, p6⟩ := hsp6 z4 rfl
      refine lv_astore (lv' := [(4, .ref (ad 15 z4)), (3, .null), (0, .ref (ad 0 0)), (1, .int (jI x)), (2, .int (jI y))]) hx hb dX8_like_13 hl (by decide) rfl (fun ls hl => ?_)
      refine lv_aload_nN hx hb dX8_like_15 rfl (lv_at hl 1 rfl) ?_
      refine lv_ifnullN (tgt := 24) hx hb dX8_like_16 (by decide) ?_
      refine lv_iconst (v := jI (-1)) hx hb dX8_like_24 rfl ?_
      rw [hQ9]
      refine ret_i (mc := 0) (ms := 0) hx hb hr hlocks hw hS (by first | exact Nat.le_of_ble_eq_true rfl | omega) (by first | exact Nat.le_of_ble_eq_true rfl | omega) dX8_like_25 ?_
      exact ⟨X, Y, rfl, hR, Frm.rf, Frm.rf, hCI, by omega, hRv, Or.inl ⟨rfl, rfl⟩⟩
  · obtain ⟨eu2, hsp3, hnp3⟩ := p3
    subst eu2
    obtain ⟨ezz1, p3⟩ := hsp3 z1 rfl
    refine lv_astore_n (lv' := [(3, .ref (ad 15 z1)), (0, .ref (ad 0 0)), (1, .int (jI x)), (2, .int (jI y))]) hx hb dX8_like_6 rfl hl (by decide) rfl (fun ls hl => ?_)
    refine lv_aload_n hx hb dX8_like_7 rfl (lv_at hl 1 rfl) ?_
    refine lv_iload_n hx hb dX8_like_8 rfl (lv_at hl 3 rfl) ?_
    refine x_i2l hx hb (by omega) dX8_like_9 ?_
    refine gos_r (run_V (As := [.long (jL y)]) (rest := []) hx hb hml hown hts (c_X8_thingNumbered l D tc base ad cnt X Y ln hR hFx hLn hCI y (by omega)) (cwV 1 hts gX8_like_X8_thingNumbered rfl rfl rfl (by first | exact hd_X8_thingNumbered | decide +kernel) ⟨Nat.le_of_ble_eq_true rfl, Nat.le_of_ble_eq_true rfl⟩) hK hw (by first | exact Int.le_refl 0 | omega) (by first | exact zlt hc0 | omega) sl_0_0 rfl rfl hl.1 rfl (Nat.le_of_ble_eq_true rfl) dX8_like_10 ⟨Nat.le_of_ble_eq_true rfl, Nat.le_of_ble_eq_true rfl⟩) hS (fun u8 H locs p9 hw hS => ?_) (fun z7 u8 H locs p9 hw hS => ?_)
    · obtain ⟨eu8, hsp9, hnp9⟩ := p9
      subst eu8
      refine lv_astoreN (lv' := [(4, .null), (3, .ref (ad 15 z1)), (0, .ref (ad 0 0)), (1, .int (jI x)), (2, .int (jI y))]) hx hb dX8_like_13 hl (by decide) rfl (fun ls hl => ?_)
      refine lv_aload_n hx hb dX8_like_15 rfl (lv_at hl 1 rfl) ?_
      refine lv_ifnull hx hb dX8_like_16 ?_
      refine lv_aloadN hx hb dX8_like_19 (lv_at hl 0 rfl) ?_
      refine lv_ifnonnullN hx hb dX8_like_21 ?_
      refine lv_iconst (v := jI (-1)) hx hb dX8_like_24 rfl ?_
      rw [hQ9]
      refine ret_i (mc := 0) (ms := 0) hx hb hr hlocks hw hS (by first | exact Nat.le_of_ble_eq_true rfl | omega) (by first | exact Nat.le_of_ble_eq_true rfl | omega) dX8_like_25 ?_
      exact ⟨X, Y, rfl, hR, Frm.rf, Frm.rf, hCI, by omega, hRv, Or.inl ⟨rfl, rfl⟩⟩
    · obtain ⟨eu8, hsp9, hnp9⟩ := p9
      subst eu8
      obtain ⟨ezz7, p9⟩ := hsp9 z7 rfl
      refine lv_astore (lv' := [(4, .ref (ad 15 z7)), (3, .ref (ad 15 z1)), (0, .ref (ad 0 0)), (1, .int (jI x)), (2, .int (jI y))]) hx hb dX8_like_13 hl (by decide) rfl (fun ls hl => ?_)
      refine lv_aload_n hx hb dX8_like_15 rfl (lv_at hl 1 rfl) ?_
      refine lv_ifnull hx hb dX8_like_16 ?_
      refine lv_aload hx hb dX8_like_19 (lv_at hl 0 rfl) ?_
      refine lv_ifnonnull (tgt := 26) hx hb dX8_like_21 (by decide) ?_
      refine lv_aload_n hx hb dX8_like_26 rfl (lv_at hl 2 rfl) ?_
      refine lv_aload_n hx hb dX8_like_27 rfl (lv_at hl 1 rfl) ?_
      refine lv_aload_n hx hb dX8_like_28 rfl (lv_at hl 2 rfl) ?_
      refine x_getr (jz := 6) hx hb hf8 hw (by first | exact Int.le_refl 0 | omega) (by first | exact zlt hc0 | omega) sl_0_6 rfl lk32 dX8_like_29 (fun y10 => ?_) (fun r11 y10 gr11 lr11 => ?_)
      · exfalso
        exact absurd y10 hCI.2.2.1.2.1
      · refine gos_v (run_V (As := [.ref (ad 15 z1), .ref (ad 7 r11)]) (rest := []) hx hb hml hown hts (c_X8_recordFrom l D tc base ad cnt X Y ln hR hFx hLn hCI z1 r11 (by omega) (by omega) (by omega) hRv) (cwV 2 hts gX8_like_X8_recordFrom rfl rfl rfl (by first | exact hd_X8_recordFrom | decide +kernel) ⟨Nat.le_of_ble_eq_true rfl, Nat.le_of_ble_eq_true rfl⟩) hK hw (by first | exact Int.le_refl 0 | omega) (by first | exact zlt hc0 | omega) sl_0_0 rfl rfl hl.1 rfl (Nat.le_of_ble_eq_true rfl) dX8_like_32 ⟨Nat.le_of_ble_eq_true rfl, Nat.le_of_ble_eq_true rfl⟩) hS (fun u13 H locs p14 hw hS => ?_)
        obtain ⟨X15, Y16, eu13, hRX15, hG17, hJ18, hCIX15, p14, hOX15, hRvX15, hTfX15, hRfX15, hVfX15, hgkX15⟩ := p14
        subst eu13
        have hFX15 : Frm [701, 707, 800, 900, 1000, 1100, 1200, 1300, 1400, 1504, 2602] X X15 := Frm.tr Frm.rf (Frm.mono hG17 (by first | exact nls_of rfl | decide))
        have hHY16 : Frm [500] Y Y16 := Frm.tr Frm.rf (Frm.mono hJ18 (by first | exact nls_of rfl | decide))
        refine lv_aload_n hx hb dX8_like_35 rfl (lv_at hl 2 rfl) ?_
        refine lv_aload hx hb dX8_like_36 (lv_at hl 0 rfl) ?_
        refine lv_aload_n hx hb dX8_like_38 rfl (lv_at hl 2 rfl) ?_
        refine x_getr (jz := 7) hx hb hf8 hw (by first | exact Int.le_refl 0 | omega) (by first | exact zlt hc0 | omega) sl_0_7 rfl lk36 dX8_like_39 (fun y19 => ?_) (fun r20 y19 gr20 lr20 => ?_)
        · exfalso
          have e21 : Y16 0 0 7 = Y 0 0 7 := by rw [hJ18 0 0 7 (show 8 ∉ [500] by first | exact nlm_ni rfl | decide)]
          rw [e21] at y19
          exact absurd y19 hCI.2.2.1.2.2
        · have e22 : Y16 0 0 7 = Y 0 0 7 := by rw [hJ18 0 0 7 (show 8 ∉ [500] by first | exact nlm_ni rfl | decide)]
          rw [e22] at y19
          have e23 : X15 0 0 3 = X 0 0 3 := by rw [hG17 0 0 3 (show 4 ∉ [701, 707, 800, 900, 1000, 1100, 1200, 1300, 1400, 1504, 2602] by first | exact nlm_ni rfl | decide)]
          refine gos_v (run_V (As := [.ref (ad 15 z7), .ref (ad 7 r20)]) (rest := []) hx hb hml hown hts (c_X8_recordFrom l D tc base ad cnt X15 Y16 ln hRX15 hFx hLn hCIX15 z7 r20 (by omega) (by simp only [e23]; omega) (by omega) hRvX15) (cwV 2 hts gX8_like_X8_recordFrom rfl rfl rfl (by first | exact hd_X8_recordFrom | decide +kernel) ⟨Nat.le_of_ble_eq_true rfl, Nat.le_of_ble_eq_true rfl⟩) hK hw (by first | exact Int.le_refl 0 | omega) (by first | exact zlt hc0 | omega) sl_0_0 rfl rfl hl.1 rfl (Nat.le_of_ble_eq_true rfl) dX8_like_42 ⟨Nat.le_of_ble_eq_true rfl, Nat.le_of_ble_eq_true rfl⟩) hS (fun u25 H locs p26 hw hS => ?_)
          obtain ⟨X27, Y28, eu25, hRX27, hG29, hJ30, hCIX27, p26, hOX27, hRvX27, hTfX27, hRfX27, hVfX27, hgkX27⟩ := p26
          subst eu25
          have hFX27 : Frm [701, 707, 800, 900, 1000, 1100, 1200, 1300, 1400, 1504, 2602] X X27 := Frm.tr hFX15 (Frm.mono hG29 (by first | exact nls_of rfl | decide))
          have hHY28 : Frm [500] Y Y28 := Frm.tr hHY16 (Frm.mono hJ30 (by first | exact nls_of rfl | decide))
          refine lv_aload_n hx hb dX8_like_45 rfl (lv_at hl 2 rfl) ?_
          refine x_getr (jz := 6) hx hb hf8 hw (by first | exact Int.le_refl 0 | omega) (by first | exact zlt hc0 | omega) sl_0_6 rfl lk32 dX8_like_46 (fun y31 => ?_) (fun r32 y31 gr32 lr32 => ?_)
          · exfalso
            have e33 : Y28 0 0 6 = Y 0 0 6 := by rw [hJ30 0 0 6 (show 7 ∉ [500] by first | exact nlm_ni rfl | decide), hJ18 0 0 6 (show 7 ∉ [500] by first | exact nlm_ni rfl | decide)]
            rw [e33] at y31
            rw [y10] at y31; cases y31
          · have e34 : Y28 0 0 6 = Y 0 0 6 := by rw [hJ30 0 0 6 (show 7 ∉ [500] by first | exact nlm_ni rfl | decide), hJ18 0 0 6 (show 7 ∉ [500] by first | exact nlm_ni rfl | decide)]
            rw [e34] at y31
            have er32 : r32 = r11 := by rw [y10] at y31; cases y31; rfl
            rw [er32]
            refine lv_aload_n hx hb dX8_like_49 rfl (lv_at hl 2 rfl) ?_
            refine x_getr (jz := 7) hx hb hf8 hw (by first | exact Int.le_refl 0 | omega) (by first | exact zlt hc0 | omega) sl_0_7 rfl lk36 dX8_like_50 (fun y35 => ?_) (fun r36 y35 gr36 lr36 => ?_)
            · exfalso
              have e37 : Y28 0 0 7 = Y 0 0 7 := by rw [hJ30 0 0 7 (show 8 ∉ [500] by first | exact nlm_ni rfl | decide), hJ18 0 0 7 (show 8 ∉ [500] by first | exact nlm_ni rfl | decide)]
              rw [e37] at y35
              rw [y19] at y35; cases y35
            · have e38 : Y28 0 0 7 = Y 0 0 7 := by rw [hJ30 0 0 7 (show 8 ∉ [500] by first | exact nlm_ni rfl | decide), hJ18 0 0 7 (show 8 ∉ [500] by first | exact nlm_ni rfl | decide)]
              rw [e38] at y35
              have er36 : r36 = r20 := by rw [y19] at y35; cases y35; rfl
              rw [er36]
              refine gos_i (run_S (As := [.ref (ad 7 r11), .ref (ad 7 r20)]) (rest := []) hx hb hml hown hts (c_X8_firstDifference l D tc base ad cnt X27 Y28 ln hRX27 hFx hLn hCIX27 r11 r20 (by omega) (by omega) hRvX27) (cwS 2 hts gX8_like_X8_firstDifference rfl rfl rfl (by first | exact hd_X8_firstDifference | decide +kernel) ⟨Nat.le_of_ble_eq_true rfl, Nat.le_of_ble_eq_true rfl⟩) hK hw rfl hl.1 rfl (Nat.le_of_ble_eq_true rfl) dX8_like_53 ⟨Nat.le_of_ble_eq_true rfl, Nat.le_of_ble_eq_true rfl⟩) hS (fun z39 u40 H locs p41 hw hS => ?_)
              obtain ⟨eu40, p41, hdfz39⟩ := p41
              subst eu40
              refine lv_iconst (v := jI (-1)) hx hb dX8_like_56 rfl ?_
              refine x_icmp_ne (tgt := 64) hx hb (by omega) (by omega) dX8_like_57 (by decide) (fun c42 => ?_) (fun c42 => ?_)
              · refine lv_iconst (v := jI 0) hx hb dX8_like_64 rfl ?_
                rw [hQ9]
                refine ret_i (mc := 0) (ms := 0) hx hb hr hlocks hw hS (by first | exact Nat.le_of_ble_eq_true rfl | omega) (by first | exact Nat.le_of_ble_eq_true rfl | omega) dX8_like_65 ?_
                exact ⟨X27, Y28, rfl, hRX27, hFX27, hHY28, hCIX27, by omega, hRvX27, Or.inr ⟨r11, r20, X15, y10, y19, hgkX15, hgkX27⟩⟩
              · refine lv_iconst (v := jI 1) hx hb dX8_like_60 rfl ?_
                refine lv_goto (tgt := 65) hx hb dX8_like_61 (by decide) ?_
                rw [hQ9]
                refine ret_i (mc := 0) (ms := 0) hx hb hr hlocks hw hS (by first | exact Nat.le_of_ble_eq_true rfl | omega) (by first | exact Nat.le_of_ble_eq_true rfl | omega) dX8_like_65 ?_
                exact ⟨X27, Y28, rfl, hRX27, hFX27, hHY28, hCIX27, by omega, hRvX27, Or.inr ⟨r11, r20, X15, y10, y19, hgkX15, hgkX27⟩⟩

set_option maxHeartbeats 4000000 in
set_option maxRecDepth 100000 in
theorem c_X8_differs (l : Launch) (D : va_G) (tc : Nat → ClassId) (base : Nat) (ad : Nat → Int → Nat) (cnt : Nat → Int) (X : Nat → Int → Int → Int) (Y : Nat → Int → Int → Option Int) (ln : Int → Int) (hR : Rng X) (hFx : Fx cnt) (hLn : LnOK ln) (hCI : CInv cnt X Y ln) (hRv : cRv X) (sv x : Int) (hsv : -2147483648 ≤ sv ∧ sv ≤ 2147483647) (hx : -2147483648 ≤ x ∧ x ≤ 2147483647) : KI l D tc base yX8_differs wsX8_differs ({ frames := 4, cells := 0, slots := 0, locals := 95 } : Room) [.ref (ad 0 0), .int (jI sv), .int (jI x)] (ad, cnt, X, Y, ln) 0 0 (fun z u => ∃ (X1 : Nat → Int → Int → Int) (Y1 : Nat → Int → Int → Option Int), u = (ad, cnt, X1, Y1, ln) ∧ Rng X1 ∧ Frm [701, 707, 800, 900, 1000, 1100, 1200, 1300, 1400, 1504, 2602] X X1 ∧ Frm [500] Y Y1 ∧ CInv cnt X1 Y1 ln ∧ (-2147483648 ≤ z ∧ z ≤ 2147483647) ∧ cRv X1 ∧ ((¬ ((0 ≤ sv ∧ sv < 4) ∧ X 7 (tyo (Y 4 0 sv)) 0 ≠ 0 ∧ (0 ≤ x ∧ x < X 0 0 3)) ∧ z = -2 ∧ X1 = X ∧ Y1 = Y) ∨ (((0 ≤ sv ∧ sv < 4) ∧ X 7 (tyo (Y 4 0 sv)) 0 ≠ 0 ∧ (0 ≤ x ∧ x < X 0 0 3)) ∧ ∃ (q q2 : Int), Y 0 0 6 = some q ∧ Y 4 0 sv = some q2 ∧ (rcT X1 Y1 q (recR (cFc X Y) (cLa X Y) (cVl X Y) (cRid Y) x 30) ∧ rcR X1 Y1 ln q (recR (cFc X Y) (cLa X Y) (cVl X Y) (cRid Y) x 30) ∧ rcV X1 Y1 q (recR (cFc X Y) (cLa X Y) (cVl X Y) (cRid Y) x 30) (recR (cFc X Y) (cLa X Y) (cVl X Y) (cRid Y) x 30 0 0) 0) ∧ gK q X X1 ∧ dfP (mxC X1 q2 q) (shC X1 q2 q) (fun r => X1 9 q2 r) (fun r f => vqC X1 q2 q (5 * r + f)) (fun r f => X1 10 q2 (5 * r + f)) z))) := by
  refine K_of (cc := cX8_differs) (maxL := 4) (ret := (some .int)) (by decide) rfl (Nat.le_of_ble_eq_true rfl) ?_
  intro p e s m below meth c ls hx hb hr hml hown hts hlocks hl hK hw hS
  have hown : s.vm.findClass RX8 = some m.cls := hown
  obtain ⟨av9, hav9⟩ : ∃ a9 : Array Value, a9 = ([.ref (ad 0 0), .int (jI sv), .int (jI x)] : List Value).toArray := ⟨_, rfl⟩
  rw [← hav9] at hts ⊢
  obtain ⟨Q9, hQ9⟩ : ∃ q9Q : State → Prop, q9Q = MQ below (QI D tc base (fun z u => ∃ (X1 : Nat → Int → Int → Int) (Y1 : Nat → Int → Int → Option Int), u = (ad, cnt, X1, Y1, ln) ∧ Rng X1 ∧ Frm [701, 707, 800, 900, 1000, 1100, 1200, 1300, 1400, 1504, 2602] X X1 ∧ Frm [500] Y Y1 ∧ CInv cnt X1 Y1 ln ∧ (-2147483648 ≤ z ∧ z ≤ 2147483647) ∧ cRv X1 ∧ ((¬ ((0 ≤ sv ∧ sv < 4) ∧ X 7 (tyo (Y 4 0 sv)) 0 ≠ 0 ∧ (0 ≤ x ∧ x < X 0 0 3)) ∧ z = -2 ∧ X1 = X ∧ Y1 = Y) ∨ (((0 ≤ sv ∧ sv < 4) ∧ X 7 (tyo (Y 4 0 sv)) 0 ≠ 0 ∧ (0 ≤ x ∧ x < X 0 0 3)) ∧ ∃ (q q2 : Int), Y 0 0 6 = some q ∧ Y 4 0 sv = some q2 ∧ (rcT X1 Y1 q (recR (cFc X Y) (cLa X Y) (cVl X Y) (cRid Y) x 30) ∧ rcR X1 Y1 ln q (recR (cFc X Y) (cLa X Y) (cVl X Y) (cRid Y) x 30) ∧ rcV X1 Y1 q (recR (cFc X Y) (cLa X Y) (cVl X Y) (cRid Y) x 30) (recR (cFc X Y) (cLa X Y) (cVl X Y) (cRid Y) x 30 0 0) 0) ∧ gK q X X1 ∧ dfP (mxC X1 q2 q) (shC X1 q2 q) (fun r => X1 9 q2 r) (fun r f => vqC X1 q2 q (5 * r + f)) (fun r f => X1 10 q2 (5 * r + f)) z)))) av9 s 0 0 (frA base) := ⟨_, rfl⟩
  rw [← hQ9]
  have hi4 : ∀ w ∈ wsX40, w ∈ wsX8_differs := fun w h => List.mem_cons_of_mem _ (List.mem_append_left _ (List.mem_append_left _ (List.mem_append_left _ (List.mem_append_right _ h))))
  have hf4 : fctx s m _ RX8 wsX8_differs D tc RX4 TX4 9 4 := ⟨hts, hi4, hown, hK.1, rfl⟩
  have hi8 : ∀ w ∈ wsX80, w ∈ wsX8_differs := fun w h => List.mem_cons_of_mem _ (List.mem_append_left _ (List.mem_append_left _ (List.mem_append_left _ (List.mem_append_left _ (List.mem_append_right _ h)))))
  have hf8 : fctx s m _ RX8 wsX8_differs D tc RX8 TX8 12 8 := ⟨hts, hi8, hown, hK.1, rfl⟩
  have lk27 := hts (.fieldLink RX8 27 (TX8 5).1 (TX8 5).2.1 (TX8 5).2.2.1) (gj_X8_differs_0 _ (gp_h))
  have lk32 := hts (.fieldLink RX8 32 (TX8 6).1 (TX8 6).2.1 (TX8 6).2.2.1) (gj_X8_differs_0 _ (gp_1 (gp_1 gp_h)))
  have lk231 := hts (.fieldLink RX8 231 (TX4 0).1 (TX4 0).2.1 (TX4 0).2.2.1) (gj_X8_differs_0 _ (gp_1 gp_h))
  have hc0 : cnt 0 = 1 := hFx.at 0 1 (by decide)
  have hc4 : cnt 4 = 1 := hFx.at 4 1 (by decide)
  have hc7 : cnt 7 = 6 := hFx.at 7 6 (by decide)
  have hl : lv_has ls 4 [(0, .ref (ad 0 0)), (1, .int (jI sv)), (2, .int (jI x))] := hl
  have ftc : 0 ≤ X 0 0 3 ∧ X 0 0 3 ≤ 30 := hR 0 0 3
  have fty : 0 ≤ X 0 0 1 ∧ X 0 0 1 ≤ 8 := hR 0 0 1
  have hct : cnt 19 = X 0 0 1 := hCI.2.2.2.1.1
  have hfj : 0 ≤ X 29 0 3 ∧ X 29 0 3 ≤ 4 := hR 29 0 3
  have hfn : 0 ≤ X 29 0 1 ∧ X 29 0 1 ≤ 80 := hR 29 0 1
  refine lv_aload_n hx hb dX8_differs_0 rfl (lv_at hl 0 rfl) ?_
  refine lv_iload_n hx hb dX8_differs_1 rfl (lv_at hl 2 rfl) ?_
  refine x_i2l hx hb (by omega) dX8_differs_2 ?_
  refine gos_r (run_V (As := [.long (jL x)]) (rest := []) hx hb hml hown hts (c_X8_thingNumbered l D tc base ad cnt X Y ln hR hFx hLn hCI x (by omega)) (cwV 1 hts gX8_differs_X8_thingNumbered rfl rfl rfl (by first | exact hd_X8_thingNumbered | decide +kernel) ⟨Nat.le_of_ble_eq_true rfl, Nat.le_of_ble_eq_true rfl⟩) hK hw (by first | exact Int.le_refl 0 | omega) (by first | exact zlt hc0 | omega) sl_0_0 rfl rfl hl.1 rfl (Nat.le_of_ble_eq_true rfl) dX8_differs_3 ⟨Nat.le_of_ble_eq_true rfl, Nat.le_of_ble_eq_true rfl⟩) hS (fun u2 H locs p3 hw hS => ?_) (fun z1 u2 H locs p3 hw hS => ?_)
  · obtain ⟨eu2, hsp3, hnp3⟩ := p3
    subst eu2
    refine lv_astore_nN (lv' := [(3, .null), (0, .ref (ad 0 0)), (1, .int (jI sv)), (2, .int (jI x))]) hx hb dX8_differs_6 rfl hl (by decide) rfl (fun ls hl => ?_)
    refine lv_iload_n hx hb dX8_differs_7 rfl (lv_at hl 2 rfl) ?_
    refine lv_iconst (v := jI 4) hx hb dX8_differs_8 rfl ?_
    refine gos_i (run_S (As := [.int (jI sv), .int (jI 4)]) (rest := []) hx hb hml hown hts (c_X8_isBelow l D tc base ad cnt X Y ln sv 4 (by omega) (by omega)) (cwS 2 hts gX8_differs_X8_isBelow rfl rfl rfl (by first | exact hd_X8_isBelow | decide +kernel) ⟨Nat.le_of_ble_eq_true rfl, Nat.le_of_ble_eq_true rfl⟩) hK hw rfl hl.1 rfl (Nat.le_of_ble_eq_true rfl) dX8_differs_9 ⟨Nat.le_of_ble_eq_true rfl, Nat.le_of_ble_eq_true rfl⟩) hS (fun z4 u5 H locs p6 hw hS => ?_)
    obtain ⟨eu5, p6⟩ := p6
    subst eu5
    rcases p6 with ⟨ez4, p6⟩ | ⟨ez4, p6⟩
    · subst ez4
      refine x_if_eqF (tgt := 31) hx hb (by omega) (by decide) dX8_differs_12 (by decide) ?_
      refine lv_aload_n hx hb dX8_differs_15 rfl (lv_at hl 1 rfl) ?_
      refine x_geto hx hb hf8 hw (by first | exact Int.le_refl 0 | omega) (by first | exact zlt hc0 | omega) sl_0_5 lk27 dX8_differs_16 ?_
      refine lv_iload_n hx hb dX8_differs_19 rfl (lv_at hl 2 rfl) ?_
      refine x_aald hx hb hK.1 hw (by first | exact Int.le_refl 0 | omega) (by first | exact zlt hc4 | omega) ar_4 rfl (len_E ar_4 (by first | exact Nat.ne_of_beq_eq_false rfl | decide)) (by omega) (by omega) (by omega) dX8_differs_20 (fun y7 => ?_) (fun r8 y7 gr8 lr8 => ?_)
      · exfalso
        exact absurd y7 (hCI.2.2.1.1 sv (by omega) (by omega))
      · refine x_geti (jz := 0) hx hb hf4 hw (by omega) (by omega) sl_7_0 rfl lk231 dX8_differs_21 ?_
        have f9 : 0 ≤ X 7 r8 0 ∧ X 7 r8 0 ≤ 30 := hR 7 r8 0
        refine x_if_eq (tgt := 31) hx hb (by omega) dX8_differs_24 (by decide) (fun c10 => ?_) (fun c10 => ?_)
        · refine lv_bipush (v := jI (-2)) hx hb dX8_differs_31 (by decide) ?_
          rw [hQ9]
          refine ret_i (mc := 0) (ms := 0) hx hb hr hlocks hw hS (by first | exact Nat.le_of_ble_eq_true rfl | omega) (by first | exact Nat.le_of_ble_eq_true rfl | omega) dX8_differs_33 ?_
          exact ⟨X, Y, rfl, hR, Frm.rf, Frm.rf, hCI, by omega, hRv, Or.inl ⟨(by have h9n : ¬ (0 ≤ x ∧ x < X 0 0 3) := hnp3 rfl; exact (fun q9 => by rw [tyo_some y7] at q9; (try delta Hid at *); omega)), by omega, rfl, rfl⟩⟩
        · refine lv_aload_nN hx hb dX8_differs_27 rfl (lv_at hl 0 rfl) ?_
          refine lv_ifnonnullN hx hb dX8_differs_28 ?_
          refine lv_bipush (v := jI (-2)) hx hb dX8_differs_31 (by decide) ?_
          rw [hQ9]
          refine ret_i (mc := 0) (ms := 0) hx hb hr hlocks hw hS (by first | exact Nat.le_of_ble_eq_true rfl | omega) (by first | exact Nat.le_of_ble_eq_true rfl | omega) dX8_differs_33 ?_
          exact ⟨X, Y, rfl, hR, Frm.rf, Frm.rf, hCI, by omega, hRv, Or.inl ⟨(by have h9n : ¬ (0 ≤ x ∧ x < X 0 0 3) := hnp3 rfl; exact (fun q9 => by rw [tyo_some y7] at q9; (try delta Hid at *); omega)), by omega, rfl, rfl⟩⟩
    · subst ez4
      refine x_if_eqT (tgt := 31) hx hb (by omega) (by decide) dX8_differs_12 (by decide) ?_
      refine lv_bipush (v := jI (-2)) hx hb dX8_differs_31 (by decide) ?_
      rw [hQ9]
      refine ret_i (mc := 0) (ms := 0) hx hb hr hlocks hw hS (by first | exact Nat.le_of_ble_eq_true rfl | omega) (by first | exact Nat.le_of_ble_eq_true rfl | omega) dX8_differs_33 ?_
      exact ⟨X, Y, rfl, hR, Frm.rf, Frm.rf, hCI, by omega, hRv, Or.inl ⟨(by have h9n : ¬ (0 ≤ x ∧ x < X 0 0 3) := hnp3 rfl; exact (fun q9 => by (try delta Hid at *); omega)), by omega, rfl, rfl⟩⟩
  · obtain ⟨eu2, hsp3, hnp3⟩ := p3
    subst eu2
    obtain ⟨ezz1, p3⟩ := hsp3 z1 rfl
    refine lv_astore_n (lv' := [(3, .ref (ad 15 z1)), (0, .ref (ad 0 0)), (1, .int (jI sv)), (2, .int (jI x))]) hx hb dX8_differs_6 rfl hl (by decide) rfl (fun ls hl => ?_)
    refine lv_iload_n hx hb dX8_differs_7 rfl (lv_at hl 2 rfl) ?_
    refine lv_iconst (v := jI 4) hx hb dX8_differs_8 rfl ?_
    refine gos_i (run_S (As := [.int (jI sv), .int (jI 4)]) (rest := []) hx hb hml hown hts (c_X8_isBelow l D tc base ad cnt X Y ln sv 4 (by omega) (by omega)) (cwS 2 hts gX8_differs_X8_isBelow rfl rfl rfl (by first | exact hd_X8_isBelow | decide +kernel) ⟨Nat.le_of_ble_eq_true rfl, Nat.le_of_ble_eq_true rfl⟩) hK hw rfl hl.1 rfl (Nat.le_of_ble_eq_true rfl) dX8_differs_9 ⟨Nat.le_of_ble_eq_true rfl, Nat.le_of_ble_eq_true rfl⟩) hS (fun z11 u12 H locs p13 hw hS => ?_)
    obtain ⟨eu12, p13⟩ := p13
    subst eu12
    rcases p13 with ⟨ez11, p13⟩ | ⟨ez11, p13⟩
    · subst ez11
      refine x_if_eqF (tgt := 31) hx hb (by omega) (by decide) dX8_differs_12 (by decide) ?_
      refine lv_aload_n hx hb dX8_differs_15 rfl (lv_at hl 1 rfl) ?_
      refine x_geto hx hb hf8 hw (by first | exact Int.le_refl 0 | omega) (by first | exact zlt hc0 | omega) sl_0_5 lk27 dX8_differs_16 ?_
      refine lv_iload_n hx hb dX8_differs_19 rfl (lv_at hl 2 rfl) ?_
      refine x_aald hx hb hK.1 hw (by first | exact Int.le_refl 0 | omega) (by first | exact zlt hc4 | omega) ar_4 rfl (len_E ar_4 (by first | exact Nat.ne_of_beq_eq_false rfl | decide)) (by omega) (by omega) (by omega) dX8_differs_20 (fun y14 => ?_) (fun r15 y14 gr15 lr15 => ?_)
      · exfalso
        exact absurd y14 (hCI.2.2.1.1 sv (by omega) (by omega))
      · refine x_geti (jz := 0) hx hb hf4 hw (by omega) (by omega) sl_7_0 rfl lk231 dX8_differs_21 ?_
        have f16 : 0 ≤ X 7 r15 0 ∧ X 7 r15 0 ≤ 30 := hR 7 r15 0
        refine x_if_eq (tgt := 31) hx hb (by omega) dX8_differs_24 (by decide) (fun c17 => ?_) (fun c17 => ?_)
        · refine lv_bipush (v := jI (-2)) hx hb dX8_differs_31 (by decide) ?_
          rw [hQ9]
          refine ret_i (mc := 0) (ms := 0) hx hb hr hlocks hw hS (by first | exact Nat.le_of_ble_eq_true rfl | omega) (by first | exact Nat.le_of_ble_eq_true rfl | omega) dX8_differs_33 ?_
          exact ⟨X, Y, rfl, hR, Frm.rf, Frm.rf, hCI, by omega, hRv, Or.inl ⟨(by exact (fun q9 => by rw [tyo_some y14] at q9; (try delta Hid at *); omega)), by omega, rfl, rfl⟩⟩
        · refine lv_aload_n hx hb dX8_differs_27 rfl (lv_at hl 0 rfl) ?_
          refine lv_ifnonnull (tgt := 34) hx hb dX8_differs_28 (by decide) ?_
          refine lv_aload_n hx hb dX8_differs_34 rfl (lv_at hl 1 rfl) ?_
          refine lv_aload_n hx hb dX8_differs_35 rfl (lv_at hl 0 rfl) ?_
          refine lv_aload_n hx hb dX8_differs_36 rfl (lv_at hl 1 rfl) ?_
          refine x_getr (jz := 6) hx hb hf8 hw (by first | exact Int.le_refl 0 | omega) (by first | exact zlt hc0 | omega) sl_0_6 rfl lk32 dX8_differs_37 (fun y18 => ?_) (fun r19 y18 gr19 lr19 => ?_)
          · exfalso
            exact absurd y18 hCI.2.2.1.2.1
          · refine gos_v (run_V (As := [.ref (ad 15 z1), .ref (ad 7 r19)]) (rest := []) hx hb hml hown hts (c_X8_recordFrom l D tc base ad cnt X Y ln hR hFx hLn hCI z1 r19 (by omega) (by omega) (by omega) hRv) (cwV 2 hts gX8_differs_X8_recordFrom rfl rfl rfl (by first | exact hd_X8_recordFrom | decide +kernel) ⟨Nat.le_of_ble_eq_true rfl, Nat.le_of_ble_eq_true rfl⟩) hK hw (by first | exact Int.le_refl 0 | omega) (by first | exact zlt hc0 | omega) sl_0_0 rfl rfl hl.1 rfl (Nat.le_of_ble_eq_true rfl) dX8_differs_40 ⟨Nat.le_of_ble_eq_true rfl, Nat.le_of_ble_eq_true rfl⟩) hS (fun u21 H locs p22 hw hS => ?_)
            obtain ⟨X23, Y24, eu21, hRX23, hG25, hJ26, hCIX23, p22, hOX23, hRvX23, hTfX23, hRfX23, hVfX23, hgkX23⟩ := p22
            subst eu21
            have hFX23 : Frm [701, 707, 800, 900, 1000, 1100, 1200, 1300, 1400, 1504, 2602] X X23 := Frm.tr Frm.rf (Frm.mono hG25 (by first | exact nls_of rfl | decide))
            have hHY24 : Frm [500] Y Y24 := Frm.tr Frm.rf (Frm.mono hJ26 (by first | exact nls_of rfl | decide))
            refine lv_aload_n hx hb dX8_differs_43 rfl (lv_at hl 1 rfl) ?_
            refine x_geto hx hb hf8 hw (by first | exact Int.le_refl 0 | omega) (by first | exact zlt hc0 | omega) sl_0_5 lk27 dX8_differs_44 ?_
            refine lv_iload_n hx hb dX8_differs_47 rfl (lv_at hl 2 rfl) ?_
            refine x_aald hx hb hK.1 hw (by first | exact Int.le_refl 0 | omega) (by first | exact zlt hc4 | omega) ar_4 rfl (len_E ar_4 (by first | exact Nat.ne_of_beq_eq_false rfl | decide)) (by omega) (by omega) (by omega) dX8_differs_48 (fun y27 => ?_) (fun r28 y27 gr28 lr28 => ?_)
            · exfalso
              have e29 : ∀ p9 q9 : Int, Y24 4 p9 q9 = Y 4 p9 q9 := fun p9 q9 => by rw [hJ26 4 p9 q9 (show 400 ∉ [500] by first | exact nlm_ni rfl | decide)]
              rw [e29] at y27
              rw [y14] at y27; cases y27
            · have e30 : ∀ p9 q9 : Int, Y24 4 p9 q9 = Y 4 p9 q9 := fun p9 q9 => by rw [hJ26 4 p9 q9 (show 400 ∉ [500] by first | exact nlm_ni rfl | decide)]
              rw [e30] at y27
              have er28 : r28 = r15 := by rw [y14] at y27; cases y27; rfl
              rw [er28]
              refine lv_aload_n hx hb dX8_differs_49 rfl (lv_at hl 1 rfl) ?_
              refine x_getr (jz := 6) hx hb hf8 hw (by first | exact Int.le_refl 0 | omega) (by first | exact zlt hc0 | omega) sl_0_6 rfl lk32 dX8_differs_50 (fun y31 => ?_) (fun r32 y31 gr32 lr32 => ?_)
              · exfalso
                have e33 : Y24 0 0 6 = Y 0 0 6 := by rw [hJ26 0 0 6 (show 7 ∉ [500] by first | exact nlm_ni rfl | decide)]
                rw [e33] at y31
                rw [y18] at y31; cases y31
              · have e34 : Y24 0 0 6 = Y 0 0 6 := by rw [hJ26 0 0 6 (show 7 ∉ [500] by first | exact nlm_ni rfl | decide)]
                rw [e34] at y31
                have er32 : r32 = r19 := by rw [y18] at y31; cases y31; rfl
                rw [er32]
                refine gos_i (run_S (As := [.ref (ad 7 r15), .ref (ad 7 r19)]) (rest := []) hx hb hml hown hts (c_X8_firstDifference l D tc base ad cnt X23 Y24 ln hRX23 hFx hLn hCIX23 r15 r19 (by omega) (by omega) hRvX23) (cwS 2 hts gX8_differs_X8_firstDifference rfl rfl rfl (by first | exact hd_X8_firstDifference | decide +kernel) ⟨Nat.le_of_ble_eq_true rfl, Nat.le_of_ble_eq_true rfl⟩) hK hw rfl hl.1 rfl (Nat.le_of_ble_eq_true rfl) dX8_differs_53 ⟨Nat.le_of_ble_eq_true rfl, Nat.le_of_ble_eq_true rfl⟩) hS (fun z35 u36 H locs p37 hw hS => ?_)
                obtain ⟨eu36, p37, hdfz35⟩ := p37
                subst eu36
                rw [hQ9]
                refine ret_i (mc := 0) (ms := 0) hx hb hr hlocks hw hS (by first | exact Nat.le_of_ble_eq_true rfl | omega) (by first | exact Nat.le_of_ble_eq_true rfl | omega) dX8_differs_56 ?_
                exact ⟨X23, Y24, rfl, hRX23, hFX23, hHY24, hCIX23, by omega, hRvX23, Or.inr ⟨(by rw [tyo_some y14]; (try delta Hid at *); omega), r19, r15, y18, y14, ⟨(by rw [← ezz1]; exact hTfX23), (by rw [← ezz1]; exact hRfX23), (by rw [← ezz1]; exact hVfX23)⟩, hgkX23, hdfz35⟩⟩
    · subst ez11
      refine x_if_eqT (tgt := 31) hx hb (by omega) (by decide) dX8_differs_12 (by decide) ?_
      refine lv_bipush (v := jI (-2)) hx hb dX8_differs_31 (by decide) ?_
      rw [hQ9]
      refine ret_i (mc := 0) (ms := 0) hx hb hr hlocks hw hS (by first | exact Nat.le_of_ble_eq_true rfl | omega) (by first | exact Nat.le_of_ble_eq_true rfl | omega) dX8_differs_33 ?_
      exact ⟨X, Y, rfl, hR, Frm.rf, Frm.rf, hCI, by omega, hRv, Or.inl ⟨(by exact (fun q9 => by (try delta Hid at *); omega)), by omega, rfl, rfl⟩⟩

set_option maxHeartbeats 4000000 in
set_option maxRecDepth 100000 in
theorem c_X8_judgeThings (l : Launch) (D : va_G) (tc : Nat → ClassId) (base : Nat) (ad : Nat → Int → Nat) (cnt : Nat → Int) (X : Nat → Int → Int → Int) (Y : Nat → Int → Int → Option Int) (ln : Int → Int) (hR : Rng X) (hFx : Fx cnt) (hLn : LnOK ln) (hCI : CInv cnt X Y ln) (f : Int) (hf : 0 ≤ f ∧ f ≤ 30) : KI l D tc base yX8_judgeThings wsX8_judgeThings ({ frames := 6, cells := 0, slots := 0, locals := 132 } : Room) [.ref (ad 0 0), .int (jI f)] (ad, cnt, X, Y, ln) 0 0 (fun z u => ∃ (X1 : Nat → Int → Int → Int), u = (ad, cnt, X1, Y, ln) ∧ Rng X1 ∧ Frm [3201, 3202, 3203, 3204] X X1 ∧ CInv cnt X1 Y ln ∧ (0 ≤ z ∧ z ≤ 10) ∧ ((z = 0 ∧ ∀ y, f ≤ y → y < X 0 0 3 → jdC X Y ln y 0) ∨ (z ≠ 0 ∧ ∃ y, f ≤ y ∧ y < X 0 0 3 ∧ (∀ y', f ≤ y' → y' < y → jdC X Y ln y' 0) ∧ jdC X Y ln y z))) := by
  refine K_of (cc := cX8_judgeThings) (maxL := 4) (ret := (some .int)) (by decide) rfl (Nat.le_of_ble_eq_true rfl) ?_
  intro p e s m below meth c ls hx hb hr hml hown hts hlocks hl hK hw hS
  have hown : s.vm.findClass RX8 = some m.cls := hown
  obtain ⟨av9, hav9⟩ : ∃ a9 : Array Value, a9 = ([.ref (ad 0 0), .int (jI f)] : List Value).toArray := ⟨_, rfl⟩
  rw [← hav9] at hts ⊢
  obtain ⟨Q9, hQ9⟩ : ∃ q9Q : State → Prop, q9Q = MQ below (QI D tc base (fun z u => ∃ (X1 : Nat → Int → Int → Int), u = (ad, cnt, X1, Y, ln) ∧ Rng X1 ∧ Frm [3201, 3202, 3203, 3204] X X1 ∧ CInv cnt X1 Y ln ∧ (0 ≤ z ∧ z ≤ 10) ∧ ((z = 0 ∧ ∀ y, f ≤ y → y < X 0 0 3 → jdC X Y ln y 0) ∨ (z ≠ 0 ∧ ∃ y, f ≤ y ∧ y < X 0 0 3 ∧ (∀ y', f ≤ y' → y' < y → jdC X Y ln y' 0) ∧ jdC X Y ln y z)))) av9 s 0 0 (frA base) := ⟨_, rfl⟩
  rw [← hQ9]
  have hi6 : ∀ w ∈ wsX60, w ∈ wsX8_judgeThings := fun w h => List.mem_cons_of_mem _ (List.mem_append_left _ (List.mem_append_left _ (List.mem_append_left _ (List.mem_append_left _ (List.mem_append_right _ h)))))
  have hf6 : fctx s m _ RX8 wsX8_judgeThings D tc RX6 TX6 4 6 := ⟨hts, hi6, hown, hK.1, rfl⟩
  have hi7 : ∀ w ∈ wsX70, w ∈ wsX8_judgeThings := fun w h => List.mem_cons_of_mem _ (List.mem_append_left _ (List.mem_append_left _ (List.mem_append_left _ (List.mem_append_right _ h))))
  have hf7 : fctx s m _ RX8 wsX8_judgeThings D tc RX7 TX7 8 7 := ⟨hts, hi7, hown, hK.1, rfl⟩
  have hi8 : ∀ w ∈ wsX80, w ∈ wsX8_judgeThings := fun w h => List.mem_cons_of_mem _ (List.mem_append_left _ (List.mem_append_left _ (List.mem_append_left _ (List.mem_append_left _ (List.mem_append_left _ (List.mem_append_right _ h))))))
  have hf8 : fctx s m _ RX8 wsX8_judgeThings D tc RX8 TX8 12 8 := ⟨hts, hi8, hown, hK.1, rfl⟩
  have lk17 := hts (.fieldLink RX8 17 (TX8 2).1 (TX8 2).2.1 (TX8 2).2.2.1) (gj_X8_judgeThings_0 _ (gp_1 gp_h))
  have lk58 := hts (.fieldLink RX8 58 (TX8 11).1 (TX8 11).2.1 (TX8 11).2.2.1) (gj_X8_judgeThings_0 _ (gp_1 (gp_1 gp_h)))
  have lk94 := hts (.fieldLink RX8 94 (TX8 3).1 (TX8 3).2.1 (TX8 3).2.2.1) (gj_X8_judgeThings_0 _ (gp_h))
  have lk97 := hts (.fieldLink RX8 97 (TX6 0).1 (TX6 0).2.1 (TX6 0).2.2.1) (gj_X8_judgeThings_0 _ (gp_1 (gp_1 (gp_1 gp_h))))
  have lk118 := hts (.fieldLink RX8 118 (TX7 7).1 (TX7 7).2.1 (TX7 7).2.2.1) (gj_X8_judgeThings_0 _ (gp_4 gp_h))
  have hc0 : cnt 0 = 1 := hFx.at 0 1 (by decide)
  have hc2 : cnt 2 = 1 := hFx.at 2 1 (by decide)
  have hc15 : cnt 15 = 30 := hFx.at 15 30 (by decide)
  have hc24 : cnt 24 = cnt 19 := hFx.2.1 24 (by decide)
  have hc32 : cnt 32 = 1 := hFx.at 32 1 (by decide)
  have hl : lv_has ls 4 [(0, .ref (ad 0 0)), (1, .int (jI f))] := hl
  have ftc : 0 ≤ X 0 0 3 ∧ X 0 0 3 ≤ 30 := hR 0 0 3
  have fty : 0 ≤ X 0 0 1 ∧ X 0 0 1 ≤ 8 := hR 0 0 1
  have hct : cnt 19 = X 0 0 1 := hCI.2.2.2.1.1
  have hfj : 0 ≤ X 29 0 3 ∧ X 29 0 3 ≤ 4 := hR 29 0 3
  have hfn : 0 ≤ X 29 0 1 ∧ X 29 0 1 ≤ 80 := hR 29 0 1
  refine lv_iload_n hx hb dX8_judgeThings_0 rfl (lv_at hl 1 rfl) ?_
  refine lv_istore_n (lv' := [(2, .int (jI f)), (0, .ref (ad 0 0)), (1, .int (jI f))]) hx hb dX8_judgeThings_1 rfl hl (by decide) rfl (fun ls hl => ?_)
  have lp2 : ∀ (nn : Nat) (x : Int) (H : Heap) (locs : List Loc) (ls : Array Slot), (30 - x) < (nn : Int) → (0 ≤ x ∧ x ≤ 30 ∧ f ≤ x) → (∀ y, f ≤ y → y < x → jdC X Y ln y 0) → wd D tc base (ad, cnt, X, Y, ln) H → va_S (frA base) s.heap H locs → lv_has ls 4 [(0, .ref (ad 0 0)), (1, .int (jI f)), (2, .int (jI x))] → W p l e ({ frames := 6, cells := 0, slots := 0, locals := 132 } : Room) s m av9 below meth c H locs 0 0 Q9 (F0 m 2 ls []) := by
    intro nn
    induction nn with
    | zero => intro x H locs ls hm hx2 hjt hw hS hl; exfalso; omega
    | succ nn ih2 =>
      intro x H locs ls hm hx2 hjt hw hS hl
      refine lv_iload_n hx hb dX8_judgeThings_2 rfl (lv_at hl 2 rfl) ?_
      refine lv_aload_n hx hb dX8_judgeThings_3 rfl (lv_at hl 0 rfl) ?_
      refine x_geti (jz := 3) hx hb hf8 hw (by first | exact Int.le_refl 0 | omega) (by first | exact zlt hc0 | omega) sl_0_3 rfl lk94 dX8_judgeThings_4 ?_
      have f1 : 0 ≤ X 0 0 3 ∧ X 0 0 3 ≤ 30 := hR 0 0 3
      refine x_icmp_ge (tgt := 69) hx hb (by omega) (by omega) dX8_judgeThings_7 (by decide) (fun c2 => ?_) (fun c2 => ?_)
      · refine lv_iconst (v := jI 0) hx hb dX8_judgeThings_69 rfl ?_
        rw [hQ9]
        refine ret_i (mc := 0) (ms := 0) hx hb hr hlocks hw hS (by first | exact Nat.le_of_ble_eq_true rfl | omega) (by first | exact Nat.le_of_ble_eq_true rfl | omega) dX8_judgeThings_70 ?_
        exact ⟨X, rfl, hR, Frm.rf, hCI, by omega, Or.inl ⟨rfl, fun y a b => hjt y a (by omega)⟩⟩
      · refine lv_aload_n hx hb dX8_judgeThings_10 rfl (lv_at hl 0 rfl) ?_
        refine lv_aload_n hx hb dX8_judgeThings_11 rfl (lv_at hl 0 rfl) ?_
        refine x_geto hx hb hf8 hw (by first | exact Int.le_refl 0 | omega) (by first | exact zlt hc0 | omega) sl_0_2 lk17 dX8_judgeThings_12 ?_
        refine lv_iload_n hx hb dX8_judgeThings_15 rfl (lv_at hl 2 rfl) ?_
        refine x_aald hx hb hK.1 hw (by first | exact Int.le_refl 0 | omega) (by first | exact zlt hc2 | omega) ar_2 rfl (len_E ar_2 (by first | exact Nat.ne_of_beq_eq_false rfl | decide)) (by omega) (by omega) (by omega) dX8_judgeThings_16 (fun y3 => ?_) (fun r4 y3 gr4 lr4 => ?_)
        · exfalso
          have h9 := hCI.1 x (by omega) (by omega); rw [h9] at y3; cases y3
        · have er4 : r4 = x := by have h9 := hCI.1 x (by omega) (by omega); rw [h9] at y3; cases y3; rfl
          rw [er4]
          refine gos_i (run_V (As := [.ref (ad 15 x)]) (rest := []) hx hb hml hown hts (c_X8_firstFailingCheck l D tc base ad cnt X Y ln hR hFx hLn hCI x (by omega) (by omega)) (cwV 1 hts gX8_judgeThings_X8_firstFailingCheck rfl rfl rfl (by first | exact hd_X8_firstFailingCheck | decide +kernel) ⟨Nat.le_of_ble_eq_true rfl, Nat.le_of_ble_eq_true rfl⟩) hK hw (by first | exact Int.le_refl 0 | omega) (by first | exact zlt hc0 | omega) sl_0_0 rfl rfl hl.1 rfl (Nat.le_of_ble_eq_true rfl) dX8_judgeThings_17 ⟨Nat.le_of_ble_eq_true rfl, Nat.le_of_ble_eq_true rfl⟩) hS (fun z5 u6 H locs p7 hw hS => ?_)
          obtain ⟨eu6, p7, hAz5, hBz5⟩ := p7
          subst eu6
          refine lv_istore_n (lv' := [(3, .int (jI z5)), (0, .ref (ad 0 0)), (1, .int (jI f)), (2, .int (jI x))]) hx hb dX8_judgeThings_20 rfl hl (by decide) rfl (fun ls hl => ?_)
          refine lv_iload_n hx hb dX8_judgeThings_21 rfl (lv_at hl 0 rfl) ?_
          refine lv_iconst (v := jI (-1)) hx hb dX8_judgeThings_22 rfl ?_
          refine x_icmp_eq (tgt := 63) hx hb (by omega) (by omega) dX8_judgeThings_23 (by decide) (fun c8 => ?_) (fun c8 => ?_)
          · refine lv_iinc (v := jI (x + 1)) (lv' := [(2, .int (jI (x + 1))), (3, .int (jI z5)), (0, .ref (ad 0 0)), (1, .int (jI f))]) hx hb dX8_judgeThings_63 hl (k := 3) rfl (jI_add _ _) (by decide) rfl (fun ls hl => ?_)
            refine lv_goto (tgt := 2) hx hb dX8_judgeThings_66 (by decide) ?_
            exact ih2 (x + 1) _ _ _ (by omega) (by omega) (fun y a b => if hy9 : y = x then (by rw [hy9]; rcases hBz5 with ⟨q1, q2⟩ | ⟨q1, -⟩; exact Or.inl ⟨rfl, q2⟩; exfalso; omega) else hjt y a (by omega)) hw hS (lv_sub hl [2, 3, 0] rfl)
          · refine lv_aload_n hx hb dX8_judgeThings_26 rfl (lv_at hl 1 rfl) ?_
            refine x_geto hx hb hf8 hw (by first | exact Int.le_refl 0 | omega) (by first | exact zlt hc0 | omega) sl_0_11 lk58 dX8_judgeThings_27 ?_
            refine lv_iload_n hx hb dX8_judgeThings_30 rfl (lv_at hl 3 rfl) ?_
            refine lv_iload_n hx hb dX8_judgeThings_31 rfl (lv_at hl 2 rfl) ?_
            refine x_isub hx hb dX8_judgeThings_32 ?_
            refine lv_iconst (v := jI (-1)) hx hb dX8_judgeThings_33 rfl ?_
            refine lv_iload_n hx hb dX8_judgeThings_34 rfl (lv_at hl 0 rfl) ?_
            refine gos_v (run_V (As := [.int (jI (x - f)), .int (jI (-1)), .int (jI z5)]) (rest := []) hx hb hml hown hts (c_X1_tell l D tc base ad cnt X Y ln hR hFx hLn hCI (x - f) (-1) z5 (by omega) (by omega) (by omega)) (cwV 3 hts gX8_judgeThings_X1_tell rfl rfl rfl (by first | exact hd_X1_tell | decide +kernel) ⟨Nat.le_of_ble_eq_true rfl, Nat.le_of_ble_eq_true rfl⟩) hK hw (by first | exact Int.le_refl 0 | omega) (by first | exact zlt hc32 | omega) sl_32_0 rfl rfl hl.1 rfl (Nat.le_of_ble_eq_true rfl) dX8_judgeThings_35 ⟨Nat.le_of_ble_eq_true rfl, Nat.le_of_ble_eq_true rfl⟩) hS (fun u10 H locs p11 hw hS => ?_)
            obtain ⟨X12, eu10, hRX12, hG13, hCIX12, p11⟩ := p11
            subst eu10
            have hFX12 : Frm [3201, 3202, 3203, 3204] X X12 := Frm.tr Frm.rf (Frm.mono hG13 (by first | exact nls_of rfl | decide))
            refine lv_aload_n hx hb dX8_judgeThings_38 rfl (lv_at hl 1 rfl) ?_
            refine lv_aload_n hx hb dX8_judgeThings_39 rfl (lv_at hl 1 rfl) ?_
            refine x_geto hx hb hf8 hw (by first | exact Int.le_refl 0 | omega) (by first | exact zlt hc0 | omega) sl_0_2 lk17 dX8_judgeThings_40 ?_
            refine lv_iload_n hx hb dX8_judgeThings_43 rfl (lv_at hl 3 rfl) ?_
            refine x_aald hx hb hK.1 hw (by first | exact Int.le_refl 0 | omega) (by first | exact zlt hc2 | omega) ar_2 rfl (len_E ar_2 (by first | exact Nat.ne_of_beq_eq_false rfl | decide)) (by omega) (by omega) (by omega) dX8_judgeThings_44 (fun y14 => ?_) (fun r15 y14 gr15 lr15 => ?_)
            · exfalso
              have h9 := hCI.1 x (by omega) (by omega); rw [h9] at y14; cases y14
            · have er15 : r15 = x := by have h9 := hCI.1 x (by omega) (by omega); rw [h9] at y14; cases y14; rfl
              rw [er15]
              refine lv_aload_n hx hb dX8_judgeThings_45 rfl (lv_at hl 1 rfl) ?_
              refine x_geto hx hb hf8 hw (by first | exact Int.le_refl 0 | omega) (by first | exact zlt hc0 | omega) sl_0_2 lk17 dX8_judgeThings_46 ?_
              refine lv_iload_n hx hb dX8_judgeThings_49 rfl (lv_at hl 3 rfl) ?_
              refine x_aald hx hb hK.1 hw (by first | exact Int.le_refl 0 | omega) (by first | exact zlt hc2 | omega) ar_2 rfl (len_E ar_2 (by first | exact Nat.ne_of_beq_eq_false rfl | decide)) (by omega) (by omega) (by omega) dX8_judgeThings_50 (fun y16 => ?_) (fun r17 y16 gr17 lr17 => ?_)
              · exfalso
                have h9 := hCI.1 x (by omega) (by omega); rw [h9] at y16; cases y16
              · have er17 : r17 = x := by have h9 := hCI.1 x (by omega) (by omega); rw [h9] at y16; cases y16; rfl
                rw [er17]
                refine x_getr (jz := 0) hx hb hf6 hw (by omega) (by omega) sl_15_0 rfl lk97 dX8_judgeThings_51 (fun y18 => ?_) (fun r19 y18 gr19 lr19 => ?_)
                · exfalso
                  exact absurd y18 (hCI.2.2.2.2.1 x (by omega) (by omega))
                · refine x_geto hx hb hf7 hw (by omega) (by omega) sl_19_7 lk118 dX8_judgeThings_54 ?_
                  refine lv_iload_n hx hb dX8_judgeThings_57 rfl (lv_at hl 0 rfl) ?_
                  have hlt := hAz5 r19 y18
                  refine x_aald hx hb hK.1 hw (by omega) (by omega) ar_24 rfl (len_E ar_24 (by first | exact Nat.ne_of_beq_eq_false rfl | decide)) (by omega) (by omega) (by omega) dX8_judgeThings_58 (fun y20 => ?_) (fun r21 y20 gr21 lr21 => ?_)
                  · exfalso
                    exact absurd y20 (hCI.2.2.2.2.2.1 r19 z5 (by omega) (by omega) (by omega) (by omega))
                  · have e22 : X12 0 0 3 = X 0 0 3 := by rw [hG13 0 0 3 (show 4 ∉ [3201, 3202, 3203, 3204] by first | exact nlm_ni rfl | decide)]
                    refine gos_i (run_V (As := [.ref (ad 15 x), .ref (ad 25 r21)]) (rest := []) hx hb hml hown hts (c_X8_failureOf l D tc base ad cnt X12 Y ln hRX12 hFx hLn hCIX12 x r21 (by omega) (by simp only [e22]; omega) (by omega)) (cwV 2 hts gX8_judgeThings_X8_failureOf rfl rfl rfl (by first | exact hd_X8_failureOf | decide +kernel) ⟨Nat.le_of_ble_eq_true rfl, Nat.le_of_ble_eq_true rfl⟩) hK hw (by first | exact Int.le_refl 0 | omega) (by first | exact zlt hc0 | omega) sl_0_0 rfl rfl hl.1 rfl (Nat.le_of_ble_eq_true rfl) dX8_judgeThings_59 ⟨Nat.le_of_ble_eq_true rfl, Nat.le_of_ble_eq_true rfl⟩) hS (fun z23 u24 H locs p25 hw hS => ?_)
                    obtain ⟨eu24, p25⟩ := p25
                    subst eu24
                    rw [hQ9]
                    refine ret_i (mc := 0) (ms := 0) hx hb hr hlocks hw hS (by first | exact Nat.le_of_ble_eq_true rfl | omega) (by first | exact Nat.le_of_ble_eq_true rfl | omega) dX8_judgeThings_62 ?_
                    have q26 : Frm [3201, 3202, 3203, 3204] X X12 := Frm.tr Frm.rf (Frm.mono hG13 (by first | exact nls_of rfl | decide))
                    have hck27 : z23 = ckC X Y ln x r21 := by have h9 := p25.2; rw [ckC_frm (ln := ln) q26 Frm.rf (N := []) (by decide) (by decide)] at h9; exact h9
                    exact ⟨X12, rfl, hRX12, hFX12, hCIX12, by omega, (by rcases hBz5 with ⟨q1, -⟩ | ⟨q1, q2, q3, q4⟩; exfalso; omega; rw [tyo_some y18, tyo_some y20] at q4; exact Or.inr ⟨by omega, x, by omega, by omega, hjt, Or.inr ⟨by omega, z5, q1, q2, q3, (by rw [tyo_some y18, tyo_some y20]; omega)⟩⟩)⟩
  exact lp2 (30 - f : Int).toNat.succ f _ _ _ (by omega) (by omega) (fun y a b => by omega) hw hS (lv_sub hl [1, 2, 0] rfl)
end
section
/-! the world grows -/
def up2 {α : Type} (f : Nat → Int → α) (KS : List Nat) (n : Int) (g : Nat → α) : Nat → Int → α := fun k i => if k ∈ KS ∧ i = n then g k else f k i
def upc (cnt : Nat → Int) (KS : List Nat) : Nat → Int := fun k => if k ∈ KS then cnt k + 1 else cnt k
theorem up2_s {α : Type} {f : Nat → Int → α} {KS : List Nat} {n : Int} {g : Nat → α} {k : Nat} (h : k ∈ KS) : up2 f KS n g k n = g k := by simp [up2, h]
theorem up2_k {α : Type} {f : Nat → Int → α} {KS : List Nat} {n : Int} {g : Nat → α} {k : Nat} (h : k ∉ KS) : up2 f KS n g k = f k := by funext i; simp [up2, h]
theorem up2_n {α : Type} {f : Nat → Int → α} {KS : List Nat} {n i : Int} {g : Nat → α} {k : Nat} (h : i ≠ n) : up2 f KS n g k i = f k i := by simp [up2, h]
theorem upc_s {cnt : Nat → Int} {KS : List Nat} {k : Nat} (h : k ∈ KS) : upc cnt KS k = cnt k + 1 := by simp [upc, h]
theorem upc_k {cnt : Nat → Int} {KS : List Nat} {k : Nat} (h : k ∉ KS) : upc cnt KS k = cnt k := by simp [upc, h]
theorem upc_le {cnt : Nat → Int} {KS : List Nat} {k : Nat} : cnt k ≤ upc cnt KS k := by unfold upc; split <;> omega
section GR
variable {D : va_G} {tc : Nat → ClassId} {base : Nat} {E F : va_W} {H : Heap} {ad ad1 ad2 : Nat → Int → Nat} {cnt cnt1 cnt2 : Nat → Int} {X X1 : Nat → Int → Int → Int} {Y Y1 : Nat → Int → Int → Option Int} {ln ln1 ln2 : Int → Int} {KS : List Nat} {n : Int} {f : Nat → Nat} {V : Nat → Int → Int}
theorem grow (hw : wx D tc base (ad, cnt, X, Y, ln) (E ++ F) H) (h0 : 0 ≤ n) (hn : ∀ k ∈ KS, cnt k = n) (ho : Own cnt) (hln : ∀ i, 0 ≤ i → i < cnt 27 → ln1 i = ln i) (hY : ∀ k i, 0 ≤ i → i < cnt k → Y1 k i = Y k i) (hrf : RefOK (upc cnt KS) Y1)
    (hF : F = wlE tc (up2 ad KS n f) (up2 X KS n V) Y1 ln1 (KS.map fun k => (k, n))) : wx D tc base (up2 ad KS n f, upc cnt KS, up2 X KS n V, Y1, ln1) E H := by
  refine adopt hw hF (fun k i g0 g1 => ?_) ho (fun k i => ?_) hrf
  · have hne : ¬ (k ∈ KS ∧ i = n) := fun q => by have := hn k q.1; omega
    exact ⟨by simp only [up2, if_neg hne], by simp only [up2, if_neg hne], hY k i g0 g1, fun e => hln i g0 (e ▸ g1)⟩
  · simp only [upc]
    by_cases hk : k ∈ KS
    · have := hn k hk
      rw [if_pos hk]
      constructor
      · intro h
        by_cases hi : i = n
        · exact Or.inr (List.mem_map.mpr ⟨k, hk, by rw [hi]⟩)
        · exact Or.inl (by omega)
      · rintro (h | h)
        · omega
        · obtain ⟨k', -, e⟩ := List.mem_map.mp h
          cases e
          omega
    · rw [if_neg hk]
      constructor
      · exact fun h => Or.inl h
      · rintro (h | h)
        · exact h
        · obtain ⟨k', hk', e⟩ := List.mem_map.mp h
          cases e
          exact absurd hk' hk
theorem refOK_up (h : RefOK cnt Y) (hk : ∀ k ∈ KS, ∀ j t, ¬ rfK k j t) : RefOK (upc cnt KS) Y := by
  intro k i j t r g0 g1 hr e
  by_cases hm : k ∈ KS
  · exact absurd hr (hk k hm j t)
  · rw [upc_k hm] at g1
    have := h k i j t r g0 g1 hr e
    have h2 : cnt t ≤ upc cnt KS t := upc_le
    omega
def Ext (ad : Nat → Int → Nat) (cnt : Nat → Int) (ln : Int → Int) (ad1 : Nat → Int → Nat) (cnt1 : Nat → Int) (ln1 : Int → Int) : Prop := (∀ k i, 0 ≤ i → i < cnt k → ad1 k i = ad k i) ∧ (∀ k, cnt k ≤ cnt1 k) ∧ (∀ i, 0 ≤ i → i < cnt 26 → ln1 i = ln i)
theorem Ext.rf : Ext ad cnt ln ad cnt ln := ⟨fun _ _ _ _ => rfl, fun _ => Int.le_refl _, fun _ _ _ => rfl⟩
theorem Ext.tr (h : Ext ad cnt ln ad1 cnt1 ln1) (g : Ext ad1 cnt1 ln1 ad2 cnt2 ln2) : Ext ad cnt ln ad2 cnt2 ln2 :=
  ⟨fun k i g0 g1 => (g.1 k i g0 (by have := h.2.1 k; omega)).trans (h.1 k i g0 g1), fun k => Int.le_trans (h.2.1 k) (g.2.1 k), fun i g0 g1 => (g.2.2 i g0 (by have := h.2.1 26; omega)).trans (h.2.2 i g0 g1)⟩
theorem ext_up (hn : ∀ k ∈ KS, cnt k = n) (hln : ∀ i, 0 ≤ i → i < cnt 26 → ln1 i = ln i) : Ext ad cnt ln (up2 ad KS n f) (upc cnt KS) ln1 := by
  refine ⟨fun k i g0 g1 => ?_, fun k => upc_le, hln⟩
  have hne : ¬ (k ∈ KS ∧ i = n) := fun q => by have := hn k q.1; omega
  simp only [up2, if_neg hne]
theorem rng_up (h : Rng X) (hV : ∀ k ∈ KS, ∀ j, (rg k j).1 ≤ V k j ∧ V k j ≤ (rg k j).2) : Rng (up2 X KS n V) := by
  intro k i j
  by_cases hc : k ∈ KS ∧ i = n
  · obtain ⟨h1, rfl⟩ := hc
    rw [up2_s h1]
    exact hV k h1 j
  · simp only [up2, if_neg hc]
    exact h k i j
theorem frm_up {M : List Nat} (hV : ∀ k ∈ KS, ∀ j, fcode k j ∉ M → V k j = X k n j) : Frm M X (up2 X KS n V) := by
  intro k i j hm
  by_cases hc : k ∈ KS ∧ i = n
  · obtain ⟨h1, rfl⟩ := hc
    rw [up2_s h1]
    exact hV k h1 j hm
  · simp only [up2, if_neg hc]
theorem fx_up (h : Fx cnt) (h1 : ∀ q ∈ fxL, q.1 ∉ KS) (h2 : (19 ∈ KS ↔ 20 ∈ KS) ∧ (19 ∈ KS ↔ 21 ∈ KS) ∧ (19 ∈ KS ↔ 22 ∈ KS) ∧ (19 ∈ KS ↔ 23 ∈ KS) ∧ (19 ∈ KS ↔ 24 ∈ KS) ∧ (26 ∈ KS ↔ 27 ∈ KS)) : Fx (upc cnt KS) := by
  refine ⟨fun q hq => by rw [upc_k (h1 q hq)]; exact h.1 q hq, fun k hk => ?_, ?_⟩
  · have h3 := h.2.1 k hk
    have h4 : 19 ∈ KS ↔ k ∈ KS := by
      simp only [List.mem_cons, List.not_mem_nil, or_false] at hk
      rcases hk with rfl | rfl | rfl | rfl | rfl
      · exact h2.1
      · exact h2.2.1
      · exact h2.2.2.1
      · exact h2.2.2.2.1
      · exact h2.2.2.2.2.1
    unfold upc
    by_cases hm : k ∈ KS
    · rw [if_pos hm, if_pos (h4.mpr hm), h3]
    · rw [if_neg hm, if_neg (fun q => hm (h4.mp q)), h3]
  · have h3 := h.2.2
    unfold upc
    by_cases hm : 27 ∈ KS
    · rw [if_pos hm, if_pos (h2.2.2.2.2.2.mpr hm), h3]
    · rw [if_neg hm, if_neg (fun q => hm (h2.2.2.2.2.2.mp q)), h3]
theorem own_up (h : Own cnt) (hFx : Fx (upc cnt KS)) (h1 : ∀ k ∈ KS, ¬ ((lay k).1 = 0 ∧ (lay k).2.2.1.1 = 9)) : Own (upc cnt KS) :=
  ⟨hFx.own, fun k g1 g2 => by rw [upc_k (fun q => h1 k q ⟨g1, g2⟩)]; exact h.2 k g1 g2⟩
theorem cinv_ext (h : CInv cnt X Y ln) (hFx : Fx cnt) (hR : Rng X) (hrf : RefOK cnt Y) (h19 : cnt1 19 = cnt 19) (hln : ∀ i, 0 ≤ i → i < cnt 26 → ln1 i = ln i) : CInv cnt1 X Y ln1 := by
  obtain ⟨a1, a2, a3, a4, a5, a6, a7, a8⟩ := h
  refine ⟨a1, a2, a3, ⟨by rw [h19]; exact a4.1, a4.2⟩, a5, a6, a7, fun n n0 n1 => ?_⟩
  obtain ⟨b1, b2⟩ := a8 n n0 n1
  refine ⟨b1, fun hy w hw => ?_⟩
  have h80 : 0 ≤ X 29 0 1 ∧ X 29 0 1 ≤ 80 := hR 29 0 1
  have hc : cnt 28 = 80 := hFx.at 28 80 (by decide)
  obtain ⟨g0, g1⟩ := hrf 28 n 3 26 w n0 (by omega) (Or.inr ⟨by decide +kernel, by decide +kernel⟩) hw
  rw [hln w g0 g1]
  exact b2 hy w hw
end GR
theorem rf26 : ∀ k ∈ [26, 27], ∀ j t, ¬ rfK k j t := by
  intro k hk j t h
  simp only [List.mem_cons, List.not_mem_nil, or_false] at hk
  rcases hk with rfl | rfl
  · rcases h with ⟨h1, -⟩ | ⟨-, h2⟩
    · exact absurd h1 (by decide +kernel)
    · have h3 : ∀ c ∈ (lay 26).2.1, c.1 ≠ 4 := by decide +kernel
      unfold slo at h2
      by_cases hj : j < (lay 26).2.1.length
      · rw [List.getD_eq_getElem?_getD, List.getElem?_eq_getElem hj, Option.getD_some] at h2
        exact h3 _ (List.getElem_mem hj) (by rw [h2])
      · rw [List.getD_eq_getElem?_getD, List.getElem?_eq_none (by omega)] at h2
        cases h2
  · rcases h with ⟨-, h2, -⟩ | ⟨h1, -⟩
    · exact absurd h2 (by decide +kernel)
    · exact absurd (by decide +kernel) h1
theorem rf25 : ∀ k ∈ [25], ∀ j t, ¬ rfK k j t := by
  intro k hk j t h
  simp only [List.mem_cons, List.not_mem_nil, or_false] at hk
  subst hk
  rcases h with ⟨h1, -⟩ | ⟨-, h2⟩
  · exact absurd h1 (by decide +kernel)
  · have h3 : ∀ c ∈ (lay 25).2.1, c.1 ≠ 4 := by decide +kernel
    unfold slo at h2
    by_cases hj : j < (lay 25).2.1.length
    · rw [List.getD_eq_getElem?_getD, List.getElem?_eq_getElem hj, Option.getD_some] at h2
      exact h3 _ (List.getElem_mem hj) (by rw [h2])
    · rw [List.getD_eq_getElem?_getD, List.getElem?_eq_none (by omega)] at h2
      cases h2
theorem fcode26 (j : Int) : fcode 26 j = 2600 + 1 + j.toNat := by
  unfold fcode
  rw [if_neg (by decide +kernel)]
theorem fcode25 (j : Int) : fcode 25 j = 2500 + 1 + j.toNat := by
  unfold fcode
  rw [if_neg (by decide +kernel)]
theorem fcode28 (j : Int) : fcode 28 j = 2800 + 1 + j.toNat := by
  unfold fcode
  rw [if_neg (by decide +kernel)]
theorem fcode27 (j : Int) : fcode 27 j = 2700 := by
  unfold fcode
  rw [if_pos (by decide +kernel)]
theorem born_row {D : va_G} {tc : Nat → ClassId} {base : Nat} {H : Heap} {ad : Nat → Int → Nat} {cnt : Nat → Int} {X : Nat → Int → Int → Int} {Y : Nat → Int → Int → Option Int} {ln : Int → Int} {h0 q : Nat} {n : Int}
    (hw : wx D tc base (ad, cnt, X, Y, ln) [(h0, .inr (5, [.ref q, .int 0])), (q, .inl (tc 1, (n : Int).toNat, .inr (.inl (fun _ => 0))))] H) (hn : 0 ≤ n ∧ n ≤ 12) (hFx : Fx cnt) (hOw : Own cnt) (hc0 : 0 ≤ cnt 26) (hR : Rng X) (hLn : LnOK ln) (hCI : CInv cnt X Y ln) :
    ∃ (ad1 : Nat → Int → Nat) (cnt1 : Nat → Int) (X1 : Nat → Int → Int → Int) (ln1 : Int → Int), wd D tc base (ad1, cnt1, X1, Y, ln1) H ∧ Ext ad cnt ln ad1 cnt1 ln1 ∧ Fx cnt1 ∧ Own cnt1 ∧ LnOK ln1 ∧ Rng X1 ∧ Frm [2602, 2700] X X1 ∧ CInv cnt1 X1 Y ln1 ∧ cnt1 26 = cnt 26 + 1 ∧ ad1 26 (cnt 26) = h0 ∧ ln1 (cnt 26) = n ∧ (∀ j, X1 27 (cnt 26) j = 0) ∧ (∀ (k : Nat) (i : Int), i ≠ cnt 26 → X1 k i = X k i) := by
  have hrf := wd_ref (wx_wd hw)
  have h27 := hFx.2.2
  have hKn : ∀ k ∈ [26, 27], cnt k = cnt 26 := by
    intro k hk
    simp only [List.mem_cons, List.not_mem_nil, or_false] at hk
    rcases hk with rfl | rfl
    · rfl
    · exact h27
  have hl1 : ∀ i, 0 ≤ i → i < cnt 26 → (fun i => if i = cnt 26 then n else ln i) i = ln i := fun i g0 g1 => by simp only [if_neg (show ¬ i = cnt 26 by omega)]
  have hFx1 : Fx (upc cnt [26, 27]) := fx_up hFx (by decide) (by decide)
  have hF1 : Frm [2602, 2700] X (up2 X [26, 27] (cnt 26) (fun k j => if k = 26 ∧ j ≠ 1 then X 26 (cnt 26) j else 0)) := frm_up (fun k hk j hm => by
    simp only [List.mem_cons, List.not_mem_nil, or_false] at hk hm
    rcases hk with rfl | rfl
    · rw [fcode26] at hm
      by_cases hj : j = 1
      · subst hj
        exact absurd (Or.inl (by decide)) hm
      · simp only [if_pos (And.intro trivial hj), true_and, if_pos hj, ne_eq, hj, not_false_eq_true, ite_true]
    · rw [fcode27] at hm
      exact absurd (Or.inr rfl) hm)
  have hR1 : Rng (up2 X [26, 27] (cnt 26) (fun k j => if k = 26 ∧ j ≠ 1 then X 26 (cnt 26) j else 0)) := rng_up hR (fun k hk j => by
    simp only [List.mem_cons, List.not_mem_nil, or_false] at hk
    rcases hk with rfl | rfl
    · by_cases hj : j = 1
      · subst hj
        have h1 : (rg 26 1).1 ≤ 0 ∧ 0 ≤ (rg 26 1).2 := by decide +kernel
        simpa using h1
      · simp only [true_and, ne_eq, hj, not_false_eq_true, ite_true]
        exact hR 26 (cnt 26) j
    · have h1 : ∀ j, rg 27 j = rg 27 0 := fun j => by
        unfold rg
        rw [if_pos (by decide +kernel), if_pos (by decide +kernel)]
      have h2 : (rg 27 0).1 ≤ 0 ∧ 0 ≤ (rg 27 0).2 := by decide +kernel
      rw [h1 j]
      simpa using h2)
  refine ⟨up2 ad [26, 27] (cnt 26) (fun k => if k = 26 then h0 else q), upc cnt [26, 27], up2 X [26, 27] (cnt 26) (fun k j => if k = 26 ∧ j ≠ 1 then X 26 (cnt 26) j else 0), (fun i => if i = cnt 26 then n else ln i), wx_wd (grow (E := []) hw hc0 hKn hOw (fun i g0 g1 => hl1 i g0 (by omega)) (fun _ _ _ _ => rfl) (refOK_up hrf rf26) ?_), ext_up hKn hl1, hFx1, own_up hOw hFx1 (by decide +kernel), ?_, hR1, hF1, ?_, upc_s (by decide), by rw [up2_s (by decide)]; rfl, by simp, fun j => by rw [up2_s (by decide)]; simp, fun k i hi => up2_n hi⟩
  · have e1 : ceE tc (up2 ad [26, 27] (cnt 26) (fun k => if k = 26 then h0 else q)) (up2 X [26, 27] (cnt 26) (fun k j => if k = 26 ∧ j ≠ 1 then X 26 (cnt 26) j else 0)) Y (fun i => if i = cnt 26 then n else ln i) 26 (cnt 26) = .inr (5, [.ref q, .int 0]) := by
      rw [ob_E sl_26_0]
      have t0 : slo 26 0 = (3, 27) := sl_26_0.2.2.1
      have t1 : slo 26 1 = (0, 0) := sl_26_1.2.2.1
      simp only [List.range, List.range.loop, List.map, slV, t0, t1]
      rw [up2_s (by decide)]
      simp [up2]
      rfl
    have e2 : ceE tc (up2 ad [26, 27] (cnt 26) (fun k => if k = 26 then h0 else q)) (up2 X [26, 27] (cnt 26) (fun k j => if k = 26 ∧ j ≠ 1 then X 26 (cnt 26) j else 0)) Y (fun i => if i = cnt 26 then n else ln i) 27 (cnt 26) = .inl (tc 1, n.toNat, .inr (.inl (fun _ => 0))) := by
      rw [ar_lE ar_27]
      rw [up2_s (by decide)]
      simp [lenE]
      funext q
      rfl
    simp only [wlE, List.map, e1, e2]
    rw [up2_s (by decide), up2_s (by decide)]
    rfl
  · intro i
    dsimp only
    split
    · exact hn
    · exact hLn i
  · exact cinv_ext (cinv_frm (M := [2602, 2700]) (N := []) hCI hF1 Frm.rf (by decide) (by decide)) hFx hR1 hrf (upc_k (by decide)) hl1
end
section
/-! a check, a type -/
theorem no_rf (k : Nat) (h1 : (lay k).1 ≠ 0 ∨ (lay k).2.2.1.1 ≠ 4) (h2 : ∀ c ∈ (lay k).2.1, c.1 ≠ 4) : ∀ j t, ¬ rfK k j t := by
  intro j t h
  rcases h with ⟨g1, g2, -⟩ | ⟨-, g2⟩
  · rcases h1 with h1 | h1
    · exact h1 g1
    · exact h1 g2
  · unfold slo at g2
    by_cases hj : j < (lay k).2.1.length
    · rw [List.getD_eq_getElem?_getD, List.getElem?_eq_getElem hj, Option.getD_some] at g2
      exact h2 _ (List.getElem_mem hj) (by rw [g2])
    · rw [List.getD_eq_getElem?_getD, List.getElem?_eq_none (by omega)] at g2
      cases g2
theorem rg_arr (k : Nat) (h : (rgL.getD k []).length = 1) (j : Int) : rg k j = rg k 0 := by
  unfold rg
  rw [if_pos h, if_pos h]
theorem fc_arr (k : Nat) (h : (lay k).1 = 0) (j : Int) : fcode k j = k * 100 := by
  unfold fcode
  rw [if_pos h]
theorem fc_obj (k : Nat) (h : (lay k).1 ≠ 0) (j : Int) : fcode k j = k * 100 + 1 + j.toNat := by
  unfold fcode
  rw [if_neg h]
theorem born_check {D : va_G} {tc : Nat → ClassId} {base : Nat} {H : Heap} {ad : Nat → Int → Nat} {cnt : Nat → Int} {X : Nat → Int → Int → Int} {Y : Nat → Int → Int → Option Int} {ln : Int → Int} {h0 : Nat} {kd a b v : Int}
    (hw : wx D tc base (ad, cnt, X, Y, ln) [(h0, .inr (0, [.int (jI kd), .int (jI a), .int (jI b), .long (jL v)]))] H) (hk : 0 ≤ kd ∧ kd ≤ 5) (ha : 0 ≤ a ∧ a ≤ 4) (hb : 0 ≤ b ∧ b ≤ 4) (hv : -9223372036854775808 ≤ v ∧ v ≤ 9223372036854775807) (hFx : Fx cnt) (hOw : Own cnt) (hc0 : 0 ≤ cnt 25) (hR : Rng X) (hLn : LnOK ln) (hCI : CInv cnt X Y ln) :
    ∃ (ad1 : Nat → Int → Nat) (cnt1 : Nat → Int) (X1 : Nat → Int → Int → Int) (ln1 : Int → Int), wd D tc base (ad1, cnt1, X1, Y, ln1) H ∧ Ext ad cnt ln ad1 cnt1 ln1 ∧ Fx cnt1 ∧ Own cnt1 ∧ LnOK ln1 ∧ Rng X1 ∧ Frm [2501, 2502, 2503, 2504] X X1 ∧ CInv cnt1 X1 Y ln1 ∧ cnt1 25 = cnt 25 + 1 ∧ ad1 25 (cnt 25) = h0 ∧ (X1 25 (cnt 25) 0 = kd ∧ X1 25 (cnt 25) 1 = a ∧ X1 25 (cnt 25) 2 = b ∧ X1 25 (cnt 25) 3 = v) ∧ (∀ (k : Nat) (i : Int), i ≠ cnt 25 → X1 k i = X k i) := by
  have hrf := wd_ref (wx_wd hw)
  have hKn : ∀ k ∈ [25], cnt k = cnt 25 := by
    intro k hk
    simp only [List.mem_cons, List.not_mem_nil, or_false] at hk
    subst hk
    rfl
  have hFx1 : Fx (upc cnt [25]) := fx_up hFx (by decide) (by decide)
  have h4 : ∀ j : Int, j = 0 ∨ j = 1 ∨ j = 2 ∨ j = 3 ∨ (j ≠ 0 ∧ j ≠ 1 ∧ j ≠ 2 ∧ j ≠ 3) := fun j => by omega
  have hF1 : Frm [2501, 2502, 2503, 2504] X (up2 X [25] (cnt 25) (fun _ j => if j = 0 then kd else if j = 1 then a else if j = 2 then b else if j = 3 then v else X 25 (cnt 25) j)) := frm_up (fun k hk j hm => by
    simp only [List.mem_cons, List.not_mem_nil, or_false] at hk hm
    subst hk
    rw [fc_obj 25 (by decide +kernel)] at hm
    rcases h4 j with rfl | rfl | rfl | rfl | ⟨g0, g1, g2, g3⟩
    · exact absurd (by decide) hm
    · exact absurd (by decide) hm
    · exact absurd (by decide) hm
    · exact absurd (by decide) hm
    · simp only [g0, g1, g2, g3, if_false])
  have hR1 : Rng (up2 X [25] (cnt 25) (fun _ j => if j = 0 then kd else if j = 1 then a else if j = 2 then b else if j = 3 then v else X 25 (cnt 25) j)) := rng_up hR (fun k hk1 j => by
    simp only [List.mem_cons, List.not_mem_nil, or_false] at hk1
    subst hk1
    rcases h4 j with rfl | rfl | rfl | rfl | ⟨g0, g1, g2, g3⟩
    · exact (show (0 : Int) ≤ kd ∧ kd ≤ 5 from hk)
    · exact (show (0 : Int) ≤ a ∧ a ≤ 4 from ha)
    · exact (show (0 : Int) ≤ b ∧ b ≤ 4 from hb)
    · exact hv
    · simp only [g0, g1, g2, g3, if_false]
      exact hR 25 (cnt 25) j)
  refine ⟨up2 ad [25] (cnt 25) (fun _ => h0), upc cnt [25], up2 X [25] (cnt 25) (fun _ j => if j = 0 then kd else if j = 1 then a else if j = 2 then b else if j = 3 then v else X 25 (cnt 25) j), ln, wx_wd (grow (E := []) hw hc0 hKn hOw (fun _ _ _ => rfl) (fun _ _ _ _ => rfl) (refOK_up hrf rf25) ?_), ext_up hKn (fun _ _ _ => rfl), hFx1, own_up hOw hFx1 (by decide +kernel), hLn, hR1, hF1, ?_, upc_s (by decide), by rw [up2_s (by decide)], ⟨by rw [up2_s (by decide)]; rfl, by rw [up2_s (by decide)]; rfl, by rw [up2_s (by decide)]; rfl, by rw [up2_s (by decide)]; rfl⟩, fun k i hi => up2_n hi⟩
  · have e1 : ceE tc (up2 ad [25] (cnt 25) (fun _ => h0)) (up2 X [25] (cnt 25) (fun _ j => if j = 0 then kd else if j = 1 then a else if j = 2 then b else if j = 3 then v else X 25 (cnt 25) j)) Y ln 25 (cnt 25) = .inr (0, [.int (jI kd), .int (jI a), .int (jI b), .long (jL v)]) := by
      rw [ob_E sl_25_0]
      have t0 : slo 25 0 = (0, 0) := sl_25_0.2.2.1
      have t1 : slo 25 1 = (0, 0) := sl_25_1.2.2.1
      have t2 : slo 25 2 = (0, 0) := sl_25_2.2.2.1
      have t3 : slo 25 3 = (1, 0) := sl_25_3.2.2.1
      simp only [List.range, List.range.loop, List.map, slV, t0, t1, t2, t3]
      rw [up2_s (by decide)]
      rfl
    simp only [wlE, List.map, e1]
    rw [up2_s (by decide)]
  · exact cinv_ext (cinv_frm (M := [2501, 2502, 2503, 2504]) (N := []) hCI hF1 Frm.rf (by decide) (by decide)) hFx hR1 hrf (upc_k (by decide)) (fun _ _ _ => rfl)
theorem born_type {D : va_G} {tc : Nat → ClassId} {base : Nat} {H : Heap} {ad : Nat → Int → Nat} {cnt : Nat → Int} {X : Nat → Int → Int → Int} {Y : Nat → Int → Int → Option Int} {ln : Int → Int} {h0 q1 q2 q3 q4 q5 : Nat} {n : Int}
    (hw : wx D tc base (ad, cnt, X, Y, ln) [(h0, .inr (7, [.int (jI n), .int 0, .ref q1, .ref q2, .ref q3, .ref q4, .int 0, .ref q5])), (q1, .inl (tc 0, (5 : Int).toNat, .inl (fun _ => 0))), (q2, .inl (tc 0, (5 : Int).toNat, .inl (fun _ => 0))), (q3, .inl (tc 1, (5 : Int).toNat, .inr (.inl (fun _ => 0)))), (q4, .inl (tc 2, (5 : Int).toNat, .inl (fun _ => 0))), (q5, .inl (tc 3, (4 : Int).toNat, .inr (.inr (.inr (.inr (fun _ => none))))))] H) (hn : 0 ≤ n ∧ n ≤ 7) (hFx : Fx cnt) (hOw : Own cnt) (hc0 : 0 ≤ cnt 19) (hR : Rng X) (hLn : LnOK ln) :
    ∃ (ad1 : Nat → Int → Nat) (cnt1 : Nat → Int) (X1 : Nat → Int → Int → Int) (Y1 : Nat → Int → Int → Option Int) (ln1 : Int → Int), wd D tc base (ad1, cnt1, X1, Y1, ln1) H ∧ Ext ad cnt ln ad1 cnt1 ln1 ∧ Fx cnt1 ∧ Own cnt1 ∧ LnOK ln1 ∧ Rng X1 ∧ Frm [1901, 1902, 1907, 2000, 2100, 2200, 2300] X X1 ∧ Frm [2400] Y Y1 ∧ cnt1 19 = cnt 19 + 1 ∧ ad1 19 (cnt 19) = h0 ∧ X1 19 (cnt 19) 0 = n ∧ X1 19 (cnt 19) 6 = 0 ∧ (∀ i, i ≠ cnt 19 → X1 19 i = X 19 i) ∧ (∀ i, i ≠ cnt 19 → Y1 24 i = Y 24 i) ∧ (∀ w, ln1 w = ln w) ∧ X1 19 (cnt 19) 1 = 0 ∧ (∀ k i, i ≠ cnt 19 → X1 k i = X k i) := by
  have hrf := wd_ref (wx_wd hw)
  have hKn : ∀ k ∈ [19, 20, 21, 22, 23, 24], cnt k = cnt 19 := by
    intro k hk
    by_cases h19 : k = 19
    · rw [h19]
    · refine hFx.2.1 k ?_
      simp only [List.mem_cons, List.not_mem_nil, or_false] at hk ⊢
      omega
  have hFx1 : Fx (upc cnt [19, 20, 21, 22, 23, 24]) := fx_up hFx (by decide) (by decide)
  have hF1 : Frm [1901, 1902, 1907, 2000, 2100, 2200, 2300] X (up2 X [19, 20, 21, 22, 23, 24] (cnt 19) (fun k j => if k = 19 then (if j = 0 then n else if j = 1 ∨ j = 6 then 0 else X 19 (cnt 19) j) else if k = 24 then X 24 (cnt 19) j else 0)) := frm_up (fun k hk j hm => by
    simp only [List.mem_cons, List.not_mem_nil, or_false] at hk hm
    rcases hk with rfl | rfl | rfl | rfl | rfl | rfl
    · rw [fc_obj 19 (by decide +kernel)] at hm
      have h4 : j = 0 ∨ j = 1 ∨ j = 6 ∨ (j ≠ 0 ∧ j ≠ 1 ∧ j ≠ 6) := by omega
      rcases h4 with rfl | rfl | rfl | ⟨g0, g1, g2⟩
      · exact absurd (by decide) hm
      · exact absurd (by decide) hm
      · exact absurd (by decide) hm
      · simp [g0, g1, g2]
    · rw [fc_arr 20 (by decide +kernel)] at hm; exact absurd (by decide) hm
    · rw [fc_arr 21 (by decide +kernel)] at hm; exact absurd (by decide) hm
    · rw [fc_arr 22 (by decide +kernel)] at hm; exact absurd (by decide) hm
    · rw [fc_arr 23 (by decide +kernel)] at hm; exact absurd (by decide) hm
    · simp)
  have hR1 : Rng (up2 X [19, 20, 21, 22, 23, 24] (cnt 19) (fun k j => if k = 19 then (if j = 0 then n else if j = 1 ∨ j = 6 then 0 else X 19 (cnt 19) j) else if k = 24 then X 24 (cnt 19) j else 0)) := rng_up hR (fun k hk1 j => by
    simp only [List.mem_cons, List.not_mem_nil, or_false] at hk1
    rcases hk1 with rfl | rfl | rfl | rfl | rfl | rfl
    · have h4 : j = 0 ∨ j = 1 ∨ j = 6 ∨ (j ≠ 0 ∧ j ≠ 1 ∧ j ≠ 6) := by omega
      rcases h4 with rfl | rfl | rfl | ⟨g0, g1, g2⟩
      · exact (show (0 : Int) ≤ n ∧ n ≤ 7 from hn)
      · exact (show (rg 19 1).1 ≤ 0 ∧ 0 ≤ (rg 19 1).2 by decide +kernel)
      · exact (show (rg 19 6).1 ≤ 0 ∧ 0 ≤ (rg 19 6).2 by decide +kernel)
      · simpa [g0, g1, g2] using hR 19 (cnt 19) j
    · rw [rg_arr 20 (by decide +kernel)]; exact (show (rg 20 0).1 ≤ 0 ∧ 0 ≤ (rg 20 0).2 by decide +kernel)
    · rw [rg_arr 21 (by decide +kernel)]; exact (show (rg 21 0).1 ≤ 0 ∧ 0 ≤ (rg 21 0).2 by decide +kernel)
    · rw [rg_arr 22 (by decide +kernel)]; exact (show (rg 22 0).1 ≤ 0 ∧ 0 ≤ (rg 22 0).2 by decide +kernel)
    · rw [rg_arr 23 (by decide +kernel)]; exact (show (rg 23 0).1 ≤ 0 ∧ 0 ≤ (rg 23 0).2 by decide +kernel)
    · exact hR 24 (cnt 19) j)
  have hrf1 : RefOK (upc cnt [19, 20, 21, 22, 23, 24]) (up2 Y [24] (cnt 19) (fun _ _ => none)) := by
    intro k i j t r g0 g1 hr e
    by_cases hc : k ∈ [24] ∧ i = cnt 19
    · simp only [up2, if_pos hc] at e
      cases e
    · have e2 : Y k i j = some r := by simpa only [up2, if_neg hc] using e
      have hlt : i < cnt k := by
        by_cases hm : k ∈ [19, 20, 21, 22, 23, 24]
        · rw [upc_s hm] at g1
          have h5 := hKn k hm
          by_cases h24 : k = 24
          · have : i ≠ cnt 19 := fun q => hc ⟨by rw [h24]; decide, q⟩
            omega
          · exfalso
            have h6 : ∀ k ∈ [19, 20, 21, 22, 23], ∀ j t, ¬ rfK k j t := fun k hk => no_rf k (by
              have h7 : ∀ k ∈ [19, 20, 21, 22, 23], (lay k).1 ≠ 0 ∨ (lay k).2.2.1.1 ≠ 4 := by decide +kernel
              exact h7 k hk) (by
              have h7 : ∀ k ∈ [19, 20, 21, 22, 23], ∀ c ∈ (lay k).2.1, c.1 ≠ 4 := by decide +kernel
              exact h7 k hk)
            refine h6 k ?_ j t hr
            simp only [List.mem_cons, List.not_mem_nil, or_false] at hm ⊢
            omega
        · rw [upc_k hm] at g1
          exact g1
      have := hrf k i j t r g0 hlt hr e2
      have h2 : cnt t ≤ upc cnt [19, 20, 21, 22, 23, 24] t := upc_le
      omega
  refine ⟨up2 ad [19, 20, 21, 22, 23, 24] (cnt 19) (fun k => if k = 19 then h0 else if k = 20 then q1 else if k = 21 then q2 else if k = 22 then q3 else if k = 23 then q4 else q5), upc cnt [19, 20, 21, 22, 23, 24], up2 X [19, 20, 21, 22, 23, 24] (cnt 19) (fun k j => if k = 19 then (if j = 0 then n else if j = 1 ∨ j = 6 then 0 else X 19 (cnt 19) j) else if k = 24 then X 24 (cnt 19) j else 0), up2 Y [24] (cnt 19) (fun _ _ => none), ln, wx_wd (grow (E := []) hw hc0 hKn hOw (fun _ _ _ => rfl) (fun k i g0 g1 => ?_) hrf1 ?_), ext_up hKn (fun _ _ _ => rfl), hFx1, own_up hOw hFx1 (by decide +kernel), hLn, hR1, hF1, fun k i j hm => ?_, upc_s (by decide), by rw [up2_s (by decide)]; rfl, by rw [up2_s (by decide)]; rfl, by rw [up2_s (by decide)]; rfl, fun i hi => up2_n hi, fun i hi => up2_n hi, fun _ => rfl, by rw [up2_s (by decide)]; rfl, fun k i hi => up2_n hi⟩
  · have hne : ¬ (k ∈ [24] ∧ i = cnt 19) := fun q => by
      have h1 : k = 24 := by simpa using q.1
      have := hKn k (by rw [h1]; decide)
      omega
    simp only [up2, if_neg hne]
  · have e0 : ceE tc (up2 ad [19, 20, 21, 22, 23, 24] (cnt 19) (fun k => if k = 19 then h0 else if k = 20 then q1 else if k = 21 then q2 else if k = 22 then q3 else if k = 23 then q4 else q5)) (up2 X [19, 20, 21, 22, 23, 24] (cnt 19) (fun k j => if k = 19 then (if j = 0 then n else if j = 1 ∨ j = 6 then 0 else X 19 (cnt 19) j) else if k = 24 then X 24 (cnt 19) j else 0)) (up2 Y [24] (cnt 19) (fun _ _ => none)) ln 19 (cnt 19) = .inr (7, [.int (jI n), .int 0, .ref q1, .ref q2, .ref q3, .ref q4, .int 0, .ref q5]) := by
      rw [ob_E sl_19_0]
      have t0 : slo 19 0 = (0, 0) := sl_19_0.2.2.1
      have t1 : slo 19 1 = (0, 0) := sl_19_1.2.2.1
      have t2 : slo 19 2 = (3, 20) := sl_19_2.2.2.1
      have t3 : slo 19 3 = (3, 21) := sl_19_3.2.2.1
      have t4 : slo 19 4 = (3, 22) := sl_19_4.2.2.1
      have t5 : slo 19 5 = (3, 23) := sl_19_5.2.2.1
      have t6 : slo 19 6 = (0, 0) := sl_19_6.2.2.1
      have t7 : slo 19 7 = (3, 24) := sl_19_7.2.2.1
      simp only [List.range, List.range.loop, List.map, slV, t0, t1, t2, t3, t4, t5, t6, t7]
      simp [up2]
      decide
    have e20 : ceE tc (up2 ad [19, 20, 21, 22, 23, 24] (cnt 19) (fun k => if k = 19 then h0 else if k = 20 then q1 else if k = 21 then q2 else if k = 22 then q3 else if k = 23 then q4 else q5)) (up2 X [19, 20, 21, 22, 23, 24] (cnt 19) (fun k j => if k = 19 then (if j = 0 then n else if j = 1 ∨ j = 6 then 0 else X 19 (cnt 19) j) else if k = 24 then X 24 (cnt 19) j else 0)) (up2 Y [24] (cnt 19) (fun _ _ => none)) ln 20 (cnt 19) = .inl (tc 0, (5 : Int).toNat, .inl (fun _ => 0)) := by
      rw [ar_iE ar_20, up2_s (by decide)]
      rw [show lenE ln 20 (cnt 19) = 5 from len_E ar_20 (by first | exact Nat.ne_of_beq_eq_false rfl | decide)]
      rfl
    have e21 : ceE tc (up2 ad [19, 20, 21, 22, 23, 24] (cnt 19) (fun k => if k = 19 then h0 else if k = 20 then q1 else if k = 21 then q2 else if k = 22 then q3 else if k = 23 then q4 else q5)) (up2 X [19, 20, 21, 22, 23, 24] (cnt 19) (fun k j => if k = 19 then (if j = 0 then n else if j = 1 ∨ j = 6 then 0 else X 19 (cnt 19) j) else if k = 24 then X 24 (cnt 19) j else 0)) (up2 Y [24] (cnt 19) (fun _ _ => none)) ln 21 (cnt 19) = .inl (tc 0, (5 : Int).toNat, .inl (fun _ => 0)) := by
      rw [ar_iE ar_21, up2_s (by decide)]
      rw [show lenE ln 21 (cnt 19) = 5 from len_E ar_21 (by first | exact Nat.ne_of_beq_eq_false rfl | decide)]
      rfl
    have e22 : ceE tc (up2 ad [19, 20, 21, 22, 23, 24] (cnt 19) (fun k => if k = 19 then h0 else if k = 20 then q1 else if k = 21 then q2 else if k = 22 then q3 else if k = 23 then q4 else q5)) (up2 X [19, 20, 21, 22, 23, 24] (cnt 19) (fun k j => if k = 19 then (if j = 0 then n else if j = 1 ∨ j = 6 then 0 else X 19 (cnt 19) j) else if k = 24 then X 24 (cnt 19) j else 0)) (up2 Y [24] (cnt 19) (fun _ _ => none)) ln 22 (cnt 19) = .inl (tc 1, (5 : Int).toNat, .inr (.inl (fun _ => 0))) := by
      rw [ar_lE ar_22, up2_s (by decide)]
      rw [show lenE ln 22 (cnt 19) = 5 from len_E ar_22 (by first | exact Nat.ne_of_beq_eq_false rfl | decide)]
      rfl
    have e23 : ceE tc (up2 ad [19, 20, 21, 22, 23, 24] (cnt 19) (fun k => if k = 19 then h0 else if k = 20 then q1 else if k = 21 then q2 else if k = 22 then q3 else if k = 23 then q4 else q5)) (up2 X [19, 20, 21, 22, 23, 24] (cnt 19) (fun k j => if k = 19 then (if j = 0 then n else if j = 1 ∨ j = 6 then 0 else X 19 (cnt 19) j) else if k = 24 then X 24 (cnt 19) j else 0)) (up2 Y [24] (cnt 19) (fun _ _ => none)) ln 23 (cnt 19) = .inl (tc 2, (5 : Int).toNat, .inl (fun _ => 0)) := by
      rw [ar_iE ar_23, up2_s (by decide)]
      rw [show lenE ln 23 (cnt 19) = 5 from len_E ar_23 (by first | exact Nat.ne_of_beq_eq_false rfl | decide)]
      rfl
    have e24 : ceE tc (up2 ad [19, 20, 21, 22, 23, 24] (cnt 19) (fun k => if k = 19 then h0 else if k = 20 then q1 else if k = 21 then q2 else if k = 22 then q3 else if k = 23 then q4 else q5)) (up2 X [19, 20, 21, 22, 23, 24] (cnt 19) (fun k j => if k = 19 then (if j = 0 then n else if j = 1 ∨ j = 6 then 0 else X 19 (cnt 19) j) else if k = 24 then X 24 (cnt 19) j else 0)) (up2 Y [24] (cnt 19) (fun _ _ => none)) ln 24 (cnt 19) = .inl (tc 3, (4 : Int).toNat, .inr (.inr (.inr (.inr (fun _ => none))))) := by
      rw [ar_rE ar_24, up2_s (by decide)]
      rw [show lenE ln 24 (cnt 19) = 4 from len_E ar_24 (by first | exact Nat.ne_of_beq_eq_false rfl | decide)]
      rfl
    simp only [wlE, List.map, e0, e20, e21, e22, e23, e24]
    rw [up2_s (by decide), up2_s (by decide), up2_s (by decide), up2_s (by decide), up2_s (by decide), up2_s (by decide)]
    rfl
  · by_cases hc : k ∈ [24] ∧ i = cnt 19
    · exfalso
      have h1 : k = 24 := by simpa using hc.1
      rw [h1, fc_arr 24 (by decide +kernel)] at hm
      exact hm (by decide)
    · simp only [up2, if_neg hc]
end
section
set_option maxHeartbeats 4000000 in
set_option maxRecDepth 100000 in
theorem c_X8_mayCome2 (l : Launch) (D : va_G) (tc : Nat → ClassId) (base : Nat) (ad : Nat → Int → Nat) (cnt : Nat → Int) (X : Nat → Int → Int → Int) (Y : Nat → Int → Int → Option Int) (ln : Int → Int) (a b : Int) (ha : 0 ≤ a ∧ a ≤ 5) (hb0 : 0 ≤ b ∧ b ≤ 5) : KI l D tc base yX8_mayCome wsX8_mayCome ({ frames := 1, cells := 0, slots := 0, locals := 20 } : Room) [.int (jI a), .int (jI b)] (ad, cnt, X, Y, ln) 0 0 (fun z u => u = (ad, cnt, X, Y, ln) ∧ ((z = 1 ∧ (a = b ∨ (a = 1 ∧ b = 0) ∨ (a = 3 ∧ 3 < b) ∨ (a = 4 ∧ b = 5))) ∨ (z = 0 ∧ Hid (¬ ((a = b ∨ (a = 1 ∧ b = 0) ∨ (a = 3 ∧ 3 < b) ∨ (a = 4 ∧ b = 5))))))) := by
  refine K_of (cc := cX8_mayCome) (maxL := 2) (ret := (some .boolean)) (by decide) rfl (Nat.le_of_ble_eq_true rfl) ?_
  intro p e s m below meth c ls hx hb hr hml hown hts hlocks hl hK hw hS
  have hown : s.vm.findClass RX8 = some m.cls := hown
  obtain ⟨av9, hav9⟩ : ∃ a9 : Array Value, a9 = ([.int (jI a), .int (jI b)] : List Value).toArray := ⟨_, rfl⟩
  rw [← hav9] at hts ⊢
  obtain ⟨Q9, hQ9⟩ : ∃ q9Q : State → Prop, q9Q = MQ below (QI D tc base (fun z u => u = (ad, cnt, X, Y, ln) ∧ ((z = 1 ∧ (a = b ∨ (a = 1 ∧ b = 0) ∨ (a = 3 ∧ 3 < b) ∨ (a = 4 ∧ b = 5))) ∨ (z = 0 ∧ Hid (¬ ((a = b ∨ (a = 1 ∧ b = 0) ∨ (a = 3 ∧ 3 < b) ∨ (a = 4 ∧ b = 5)))))))) av9 s 0 0 (frA base) := ⟨_, rfl⟩
  rw [← hQ9]
  have hl : lv_has ls 2 [(0, .int (jI a)), (1, .int (jI b))] := hl
  refine lv_iload_n hx hb dX8_mayCome_0 rfl (lv_at hl 0 rfl) ?_
  refine lv_iload_n hx hb dX8_mayCome_1 rfl (lv_at hl 1 rfl) ?_
  refine x_icmp_ne (tgt := 7) hx hb (by omega) (by omega) dX8_mayCome_2 (by decide) (fun c1 => ?_) (fun c1 => ?_)
  · refine lv_iload_n hx hb dX8_mayCome_7 rfl (lv_at hl 0 rfl) ?_
    refine lv_iconst (v := jI 1) hx hb dX8_mayCome_8 rfl ?_
    refine x_icmp_ne (tgt := 24) hx hb (by omega) (by omega) dX8_mayCome_9 (by decide) (fun c2 => ?_) (fun c2 => ?_)
    · refine lv_iload_n hx hb dX8_mayCome_24 rfl (lv_at hl 0 rfl) ?_
      refine gos_i (run_S (As := [.int (jI a)]) (rest := []) hx hb hml hown hts (c_X8_isRowLane l D tc base ad cnt X Y ln a (by omega)) (cwS 1 hts gX8_mayCome_X8_isRowLane rfl rfl rfl (by first | exact hd_X8_isRowLane | decide +kernel) ⟨Nat.le_of_ble_eq_true rfl, Nat.le_of_ble_eq_true rfl⟩) hK hw rfl hl.1 rfl (Nat.le_of_ble_eq_true rfl) dX8_mayCome_25 ⟨Nat.le_of_ble_eq_true rfl, Nat.le_of_ble_eq_true rfl⟩) hS (fun z3 u4 H locs p5 hw hS => ?_)
      obtain ⟨eu4, p5⟩ := p5
      subst eu4
      rcases p5 with ⟨ez3, p5⟩ | ⟨ez3, p5⟩
      · subst ez3
        refine x_if_eqF (tgt := 40) hx hb (by omega) (by decide) dX8_mayCome_28 (by decide) ?_
        refine lv_iload_n hx hb dX8_mayCome_31 rfl (lv_at hl 1 rfl) ?_
        refine lv_iload_n hx hb dX8_mayCome_32 rfl (lv_at hl 0 rfl) ?_
        refine x_icmp_le (tgt := 40) hx hb (by omega) (by omega) dX8_mayCome_33 (by decide) (fun c6 => ?_) (fun c6 => ?_)
        · refine lv_iconst (v := jI 0) hx hb dX8_mayCome_40 rfl ?_
          rw [hQ9]
          refine ret_z (mc := 0) (ms := 0) hx hb hr hlocks hw hS (by first | exact Nat.le_of_ble_eq_true rfl | omega) (by first | exact Nat.le_of_ble_eq_true rfl | omega) dX8_mayCome_41 (by omega) ?_
          exact ⟨rfl, Or.inr ⟨rfl, (by first | omega | (intro q; first | omega | (simp only [Hid] at *; omega)))⟩⟩
        · refine lv_iconst (v := jI 1) hx hb dX8_mayCome_36 rfl ?_
          refine lv_goto (tgt := 41) hx hb dX8_mayCome_37 (by decide) ?_
          rw [hQ9]
          refine ret_z (mc := 0) (ms := 0) hx hb hr hlocks hw hS (by first | exact Nat.le_of_ble_eq_true rfl | omega) (by first | exact Nat.le_of_ble_eq_true rfl | omega) dX8_mayCome_41 (by omega) ?_
          exact ⟨rfl, Or.inl ⟨rfl, by omega⟩⟩
      · subst ez3
        refine x_if_eqT (tgt := 40) hx hb (by omega) (by decide) dX8_mayCome_28 (by decide) ?_
        refine lv_iconst (v := jI 0) hx hb dX8_mayCome_40 rfl ?_
        rw [hQ9]
        refine ret_z (mc := 0) (ms := 0) hx hb hr hlocks hw hS (by first | exact Nat.le_of_ble_eq_true rfl | omega) (by first | exact Nat.le_of_ble_eq_true rfl | omega) dX8_mayCome_41 (by omega) ?_
        exact ⟨rfl, Or.inr ⟨rfl, (by first | omega | (intro q; first | omega | (simp only [Hid] at *; omega)))⟩⟩
    · refine lv_iload_n hx hb dX8_mayCome_12 rfl (lv_at hl 1 rfl) ?_
      refine x_if_ne (tgt := 20) hx hb (by omega) dX8_mayCome_13 (by decide) (fun c7 => ?_) (fun c7 => ?_)
      · refine lv_iconst (v := jI 0) hx hb dX8_mayCome_20 rfl ?_
        refine lv_goto (tgt := 41) hx hb dX8_mayCome_21 (by decide) ?_
        rw [hQ9]
        refine ret_z (mc := 0) (ms := 0) hx hb hr hlocks hw hS (by first | exact Nat.le_of_ble_eq_true rfl | omega) (by first | exact Nat.le_of_ble_eq_true rfl | omega) dX8_mayCome_41 (by omega) ?_
        exact ⟨rfl, Or.inr ⟨rfl, (by first | omega | (intro q; first | omega | (simp only [Hid] at *; omega)))⟩⟩
      · refine lv_iconst (v := jI 1) hx hb dX8_mayCome_16 rfl ?_
        refine lv_goto (tgt := 41) hx hb dX8_mayCome_17 (by decide) ?_
        rw [hQ9]
        refine ret_z (mc := 0) (ms := 0) hx hb hr hlocks hw hS (by first | exact Nat.le_of_ble_eq_true rfl | omega) (by first | exact Nat.le_of_ble_eq_true rfl | omega) dX8_mayCome_41 (by omega) ?_
        exact ⟨rfl, Or.inl ⟨rfl, by omega⟩⟩
  · refine lv_iconst (v := jI 1) hx hb dX8_mayCome_5 rfl ?_
    rw [hQ9]
    refine ret_z (mc := 0) (ms := 0) hx hb hr hlocks hw hS (by first | exact Nat.le_of_ble_eq_true rfl | omega) (by first | exact Nat.le_of_ble_eq_true rfl | omega) dX8_mayCome_6 (by omega) ?_
    exact ⟨rfl, Or.inl ⟨rfl, by omega⟩⟩

set_option maxHeartbeats 4000000 in
set_option maxRecDepth 100000 in
theorem c_X4_copyOfRow (l : Launch) (D : va_G) (tc : Nat → ClassId) (base : Nat) (ad : Nat → Int → Nat) (cnt : Nat → Int) (X : Nat → Int → Int → Int) (Y : Nat → Int → Int → Option Int) (ln : Int → Int) (hR : Rng X) (hFx : Fx cnt) (hLn : LnOK ln) (hCI : CInv cnt X Y ln) (hOw : Own cnt) (hN : 0 ≤ cnt 25 ∧ 0 ≤ cnt 26) (g i : Int) (hg : 0 ≤ g ∧ g < 6) (hi0 : 0 ≤ i ∧ i ≤ 149) : KR l D tc base 26 yX4_copyOfRow wsX4_copyOfRow ({ frames := 2, cells := 2, slots := 14, locals := 33 } : Room) [.ref (ad 7 g), .int (jI i)] (ad, cnt, X, Y, ln) 2 14 (fun o u => ∃ (ad1 : Nat → Int → Nat) (cnt1 : Nat → Int) (X1 : Nat → Int → Int → Int) (Y1 : Nat → Int → Int → Option Int) (ln1 : Int → Int), u = (ad1, cnt1, X1, Y1, ln1) ∧ Ext ad cnt ln ad1 cnt1 ln1 ∧ Fx cnt1 ∧ Own cnt1 ∧ LnOK ln1 ∧ Rng X1 ∧ Frm [2602, 2700] X X1 ∧ Frm [] Y Y1 ∧ CInv cnt1 X1 Y1 ln1 ∧ (∃ r9, o = some r9 ∧ 0 ≤ r9 ∧ r9 < cnt1 26) ∧ o = some (cnt 26) ∧ cnt1 26 = cnt 26 + 1 ∧ ln1 (cnt 26) = X 13 g i ∧ (∀ j, 0 ≤ j → j < X 13 g i → X1 27 (cnt 26) j = X 14 g (12 * i + j)) ∧ ∀ y, y ≠ cnt 26 → X1 27 y = X 27 y) := by
  refine K_of (cc := cX4_copyOfRow) (maxL := 4) (ret := (some (.object "StateRecords$Row"))) (by decide) rfl (Nat.le_of_ble_eq_true rfl) ?_
  intro p e s m below meth c ls hx hb hr hml hown hts hlocks hl hK hw hS
  have hown : s.vm.findClass RX4 = some m.cls := hown
  have hbs : base ≤ s.heap.size := wd_size hw
  obtain ⟨av9, hav9⟩ : ∃ a9 : Array Value, a9 = ([.ref (ad 7 g), .int (jI i)] : List Value).toArray := ⟨_, rfl⟩
  rw [← hav9] at hts ⊢
  obtain ⟨Q9, hQ9⟩ : ∃ q9Q : State → Prop, q9Q = MQ below (QR D tc base 26 (fun o u => ∃ (ad1 : Nat → Int → Nat) (cnt1 : Nat → Int) (X1 : Nat → Int → Int → Int) (Y1 : Nat → Int → Int → Option Int) (ln1 : Int → Int), u = (ad1, cnt1, X1, Y1, ln1) ∧ Ext ad cnt ln ad1 cnt1 ln1 ∧ Fx cnt1 ∧ Own cnt1 ∧ LnOK ln1 ∧ Rng X1 ∧ Frm [2602, 2700] X X1 ∧ Frm [] Y Y1 ∧ CInv cnt1 X1 Y1 ln1 ∧ (∃ r9, o = some r9 ∧ 0 ≤ r9 ∧ r9 < cnt1 26) ∧ o = some (cnt 26) ∧ cnt1 26 = cnt 26 + 1 ∧ ln1 (cnt 26) = X 13 g i ∧ (∀ j, 0 ≤ j → j < X 13 g i → X1 27 (cnt 26) j = X 14 g (12 * i + j)) ∧ ∀ y, y ≠ cnt 26 → X1 27 y = X 27 y)) av9 s 2 14 (frA base) := ⟨_, rfl⟩
  rw [← hQ9]
  obtain ⟨ad0, ha0⟩ : ∃ a, a = ad := ⟨_, rfl⟩
  obtain ⟨cnt0, hc0⟩ : ∃ a, a = cnt := ⟨_, rfl⟩
  obtain ⟨ln0, hl0⟩ : ∃ a, a = ln := ⟨_, rfl⟩
  have hE9 : ∀ a c n, Ext ad0 cnt0 ln0 a c n → Ext ad cnt ln a c n := by rw [ha0, hc0, hl0]; exact fun _ _ _ h => h
  have hE : Ext ad0 cnt0 ln0 ad cnt ln := by rw [ha0, hc0, hl0]; exact Ext.rf
  clear ha0 hc0 hl0
  have hi4 : ∀ w ∈ wsX40, w ∈ wsX4_copyOfRow := fun w h => List.mem_cons_of_mem _ (List.mem_append_right _ h)
  have hf4 : fctx s m _ RX4 wsX4_copyOfRow D tc RX4 TX4 9 4 := ⟨hts, hi4, hown, hK.1, rfl⟩
  have hi5 : ∀ w ∈ wsX50, w ∈ wsX4_copyOfRow := fun w h => List.mem_cons_of_mem _ (List.mem_append_left _ (List.mem_append_right _ h))
  have hf5 : fctx s m _ RX4 wsX4_copyOfRow D tc RX5 TX5 2 5 := ⟨hts, hi5, hown, hK.1, rfl⟩
  have lk28 := hts (.fieldLink RX4 28 (TX4 7).1 (TX4 7).2.1 (TX4 7).2.2.1) (gj_X4_copyOfRow_0 _ (gp_1 (gp_1 (gp_1 gp_h))))
  have lk31 := hts (.fieldLink RX4 31 (TX4 8).1 (TX4 8).2.1 (TX4 8).2.2.1) (gj_X4_copyOfRow_0 _ (gp_4 (gp_1 gp_h)))
  have lk43 := hts (.fieldLink RX4 43 (TX5 0).1 (TX5 0).2.1 (TX5 0).2.2.1) (gj_X4_copyOfRow_0 _ (gp_4 gp_h))
  have hc7 : cnt 7 = 6 := hFx.at 7 6 (by decide)
  have hc13 : cnt 13 = 6 := hFx.at 13 6 (by decide)
  have hc14 : cnt 14 = 6 := hFx.at 14 6 (by decide)
  have hc27 : cnt 27 = cnt 26 := hFx.2.2
  have hl : lv_has ls 4 [(0, .ref (ad 7 g)), (1, .int (jI i))] := hl
  have ftc : 0 ≤ X 0 0 3 ∧ X 0 0 3 ≤ 30 := hR 0 0 3
  have fty : 0 ≤ X 0 0 1 ∧ X 0 0 1 ≤ 8 := hR 0 0 1
  have hct : cnt 19 = X 0 0 1 := hCI.2.2.2.1.1
  have hfj : 0 ≤ X 29 0 3 ∧ X 29 0 3 ≤ 4 := hR 29 0 3
  have hfn : 0 ≤ X 29 0 1 ∧ X 29 0 1 ≤ 80 := hR 29 0 1
  refine g_new (E := []) (G := []) (ci := 5) (fs := [.null, .int 0]) hx hb hf5 ⟨tyX5_ok, nmX5⟩ (hts (.classLink RX4 35 RX5) (by first | exact gj_X4_copyOfRow_0 _ (gp_h) | decide +kernel)) (hts (.instantiable RX5 2) (by first | exact gj_X4_copyOfRow_0 _ (gp_1 gp_h) | decide +kernel)) (hts (.initialized RX5) (by first | exact gj_X4_copyOfRow_0 _ (gp_1 (gp_1 gp_h)) | decide +kernel)) (wx_of hw) hS hbs (fun j hj => by rcases (show j = 0 ∨ j = 1 by omega) with rfl | rfl <;> rfl) (by show _ ≤ (2 : Nat); omega) (by show _ ≤ (14 : Nat); omega) dX4_copyOfRow_0 (fun q1 H hwx hS => ?_)
  have hwx : wx D tc base (ad, cnt, X, Y, ln) ([] ++ [(q1, .inr (5, [.null, .int 0]))]) H := hwx
  have hw := wx_wd hwx
  refine lv_dup hx hb dX4_copyOfRow_3 rfl ?_
  refine lv_aload_n hx hb dX4_copyOfRow_4 rfl (lv_at hl 0 rfl) ?_
  refine x_geto hx hb hf4 hw (by omega) (by omega) sl_7_7 lk28 dX4_copyOfRow_5 ?_
  refine lv_iload_n hx hb dX4_copyOfRow_8 rfl (lv_at hl 1 rfl) ?_
  refine x_iald hx hb hK.1 hw (by omega) (by omega) ar_13 (len_E ar_13 (by first | exact Nat.ne_of_beq_eq_false rfl | decide)) (by omega) (by omega) (by omega) dX4_copyOfRow_9 ?_
  have f2 : 0 ≤ X 13 g i ∧ X 13 g i ≤ 12 := hR 13 g i
  refine gos_x (run_I (As := [.int (jI (X 13 g i))]) (rest := [.ref q1]) hx hb hml hown hts (c_X5_init l D tc base (ad, cnt, X, Y, ln) [] q1 (X 13 g i) (by omega)) (cwI 1 hts gX4_copyOfRow_X5_init rfl rfl rfl (hts (.initialized RX5) (by first | exact gj_X4_copyOfRow_0 _ (gp_1 (gp_1 gp_h)) | decide +kernel)) (hts (.methodLink RX4 44 yX5_init) (by first | exact gj_X4_copyOfRow_0 _ (gp_4 (gp_1 (gp_1 gp_h))) | decide +kernel)) (hts (.instanceMethod yX5_init) (by first | exact gj_X4_copyOfRow_0 _ (gp_4 (gp_1 (gp_1 (gp_1 gp_h)))) | decide +kernel)) rfl (by decide +kernel) ⟨Nat.le_of_ble_eq_true rfl, Nat.le_of_ble_eq_true rfl⟩) hK hwx rfl hl.1 rfl (Nat.le_of_ble_eq_true rfl) dX4_copyOfRow_10 ⟨by show _ ≤ (2 : Nat); omega, by show _ ≤ (14 : Nat); omega⟩) hS (fun u9 E3 H locs p4 hwx hS => ?_)
  obtain ⟨g5, hg5⟩ : ∃ g, g = cnt 26 := ⟨_, rfl⟩
  obtain ⟨rfl, q9, rfl⟩ := p4
  have hwx := (show wx D tc base (ad, cnt, X, Y, ln) ([] ++ _) H from hwx)
  obtain ⟨ad, cnt, X6, ln, hw, hE7, hFx, hOw, hLn, hRX6, hG8, hCIX6, hkg5, hag5, hlng5, hz0g5, hx7g5⟩ := born_row hwx (by omega) hFx hOw (by omega) hR hLn hCI
  rw [← hg5] at hkg5 hag5 hlng5 hz0g5 hx7g5
  have hFX6 : Frm [2602, 2700] X X6 := Frm.tr Frm.rf (Frm.mono hG8 (by first | exact nls_of rfl | decide))
  have hE := Ext.tr hE hE7
  have hm10 := hE7.2.1 19
  have hm11 := hE7.2.1 25
  have hm12 := hE7.2.1 26
  have hN : 0 ≤ cnt 25 ∧ 0 ≤ cnt 26 := by omega
  have ha13 := hE7.1 7 g (by omega) (by omega)
  have hc7 : cnt 7 = 6 := hFx.at 7 6 (by decide)
  have hc13 : cnt 13 = 6 := hFx.at 13 6 (by decide)
  have hc14 : cnt 14 = 6 := hFx.at 14 6 (by decide)
  have hc27 : cnt 27 = cnt 26 := hFx.2.2
  have hl : lv_has ls 4 [(0, .ref (ad 7 g)), (1, .int (jI i))] := by rw [ha13]; exact hl
  refine W.eq (g2 := F0 m 13 ls [.ref (ad 26 g5)]) (by first | rfl | (rw [hag5]; done) | (rw [hag5]; rfl)) ?_
  refine lv_astore_n (lv' := [(2, .ref (ad 26 g5)), (0, .ref (ad 7 g)), (1, .int (jI i))]) hx hb dX4_copyOfRow_13 rfl hl (by decide) rfl (fun ls hl => ?_)
  refine lv_iconst (v := jI 0) hx hb dX4_copyOfRow_14 rfl ?_
  refine lv_istore_n (lv' := [(3, .int (jI 0)), (2, .ref (ad 26 g5)), (0, .ref (ad 7 g)), (1, .int (jI i))]) hx hb dX4_copyOfRow_15 rfl hl (by decide) rfl (fun ls hl => ?_)
  have lp16 : ∀ (nn : Nat) (j : Int) (Xa : Nat → Int → Int → Int) (cl sl : Nat) (H : Heap) (locs : List Loc) (ls : Array Slot), (12 - j) < (nn : Int) → (Rng Xa) → (Frm [2700] X6 Xa) → (0 ≤ j ∧ j ≤ 12) → (cl ≤ 2 ∧ sl ≤ 14) → (∀ q, 0 ≤ q → q < j → Xa 27 g5 q = X 14 g (12 * i + q)) → (∀ y, y ≠ g5 → Xa 27 y = X 27 y) → wd D tc base (ad, cnt, Xa, Y, ln) H → va_S (frA base) s.heap H locs → lv_has ls 4 [(0, .ref (ad 7 g)), (1, .int (jI i)), (2, .ref (ad 26 g5)), (3, .int (jI j))] → W p l e ({ frames := 2, cells := 2, slots := 14, locals := 33 } : Room) s m av9 below meth c H locs cl sl Q9 (F0 m 16 ls []) := by
    intro nn
    induction nn with
    | zero => intro j Xa cl sl H locs ls hm hRXa hGXa hj hcl hcp hco hw hS hl; exfalso; omega
    | succ nn ih16 =>
      intro j Xa cl sl H locs ls hm hRXa hGXa hj hcl hcp hco hw hS hl
      have hFXa : Frm [2602, 2700] X Xa := Frm.tr hFX6 (Frm.mono hGXa (by first | exact nls_of rfl | decide))
      refine lv_iload_n hx hb dX4_copyOfRow_16 rfl (lv_at hl 3 rfl) ?_
      refine lv_aload_n hx hb dX4_copyOfRow_17 rfl (lv_at hl 2 rfl) ?_
      refine x_geto hx hb hf5 hw (by omega) (by omega) sl_26_0 lk43 dX4_copyOfRow_18 ?_
      have f14 : 0 ≤ ln g5 ∧ ln g5 ≤ 12 := hLn g5
      refine x_alenl hx hb hK.1 hw (by omega) (by omega) ar_27 (show lenE ln 27 g5 = ln g5 from rfl) (by omega) dX4_copyOfRow_21 ?_
      refine x_icmp_ge (tgt := 48) hx hb (by omega) (by omega) dX4_copyOfRow_22 (by decide) (fun c15 => ?_) (fun c15 => ?_)
      · refine lv_aload_n hx hb dX4_copyOfRow_48 rfl (lv_at hl 2 rfl) ?_
        rw [hQ9]
        refine ret_r (mc := 2) (ms := 14) (k := 26) (i := g5) hx hb hr hlocks hw hS (by first | exact Nat.le_of_ble_eq_true rfl | omega) (by first | exact Nat.le_of_ble_eq_true rfl | omega) dX4_copyOfRow_49 ?_
        have q16 : Frm [2700] X6 Xa := Frm.tr Frm.rf (Frm.mono hGXa (by first | exact nls_of rfl | decide))
        have hCq17 : CInv cnt Xa Y ln := cinv_frm (M := [2700]) (N := []) hCIX6 q16 Frm.rf (by decide) (by decide)
        exact ⟨ad, cnt, Xa, Y, ln, rfl, hE9 _ _ _ hE, hFx, hOw, hLn, hRXa, hFXa, Frm.rf, hCq17, ⟨_, rfl, by omega, by omega⟩, (by rw [← hg5]; exact ⟨rfl, by omega, hlng5, fun j9 a b => hcp j9 a (by omega), hco⟩)⟩
      · refine lv_aload_n hx hb dX4_copyOfRow_25 rfl (lv_at hl 2 rfl) ?_
        refine x_geto hx hb hf5 hw (by omega) (by omega) sl_26_0 lk43 dX4_copyOfRow_26 ?_
        refine lv_iload_n hx hb dX4_copyOfRow_29 rfl (lv_at hl 3 rfl) ?_
        refine lv_aload_n hx hb dX4_copyOfRow_30 rfl (lv_at hl 0 rfl) ?_
        refine x_geto hx hb hf4 hw (by omega) (by omega) sl_7_8 lk31 dX4_copyOfRow_31 ?_
        refine lv_iload_n hx hb dX4_copyOfRow_34 rfl (lv_at hl 1 rfl) ?_
        refine lv_bipush (v := jI 12) hx hb dX4_copyOfRow_35 (by decide) ?_
        refine x_imul hx hb dX4_copyOfRow_37 ?_
        refine lv_iload_n hx hb dX4_copyOfRow_38 rfl (lv_at hl 3 rfl) ?_
        refine x_iadd hx hb dX4_copyOfRow_39 ?_
        refine x_lald hx hb hK.1 hw (by omega) (by omega) ar_14 (len_E ar_14 (by first | exact Nat.ne_of_beq_eq_false rfl | decide)) (by omega) (by omega) (by omega) dX4_copyOfRow_40 ?_
        have e18 : ∀ p9 q9 : Int, Xa 14 p9 q9 = X 14 p9 q9 := fun p9 q9 => by rw [hGXa 14 p9 q9 (show 1400 ∉ [2700] by first | exact nlm_ni rfl | decide), hG8 14 p9 q9 (show 1400 ∉ [2602, 2700] by first | exact nlm_ni rfl | decide)]
        rw [e18 g ((i * 12) + j)]
        have f19 : (-9223372036854775808) ≤ X 14 g ((i * 12) + j) ∧ X 14 g ((i * 12) + j) ≤ 9223372036854775807 := hR 14 g ((i * 12) + j)
        have f20 : 0 ≤ ln g5 ∧ ln g5 ≤ 12 := hLn g5
        refine x_last hx hb hK.1 hw hS (by omega) (by omega) ar_27 (show lenE ln 27 g5 = ln g5 from rfl) (by omega) (by omega) (by omega) dX4_copyOfRow_41 (fun H locs hw hS => ?_)
        obtain ⟨X21, hX21⟩ : ∃ Xq, Xq = u3 Xa 27 g5 j (X 14 g ((i * 12) + j)) := ⟨_, rfl⟩
        rw [← hX21] at hw
        have hRX21 : Rng X21 := by rw [hX21]; exact rng_set hRXa (show (-9223372036854775808) ≤ (X 14 g ((i * 12) + j)) ∧ (X 14 g ((i * 12) + j)) ≤ 9223372036854775807 by omega)
        have hVX21 : X21 27 g5 j = (X 14 g ((i * 12) + j)) := by rw [hX21]; exact u3_s _ _ _ _ _
        have hFX21 : Frm [2602, 2700] X X21 := by rw [hX21]; exact Frm.set hFXa (show 2700 ∈ [2602, 2700] by first | exact nlm_in rfl | decide)
        refine lv_iinc (v := jI (j + 1)) (lv' := [(3, .int (jI (j + 1))), (0, .ref (ad 7 g)), (1, .int (jI i)), (2, .ref (ad 26 g5))]) hx hb dX4_copyOfRow_42 hl (k := 3) rfl (jI_add _ _) (by decide) rfl (fun ls hl => ?_)
        refine lv_goto (tgt := 16) hx hb dX4_copyOfRow_45 (by decide) ?_
        have q22 : Frm [2700] X6 Xa := Frm.tr Frm.rf (Frm.mono hGXa (by first | exact nls_of rfl | decide))
        have q23 : Frm [2700] X6 X21 := by rw [hX21]; exact Frm.set q22 (show 2700 ∈ [2700] by first | exact nlm_in rfl | decide)
        exact ih16 (j + 1) X21 _ _ _ _ _ (by omega) hRX21 q23 (by omega) (by omega) (fun q a b => if hq9 : q = j then (by rw [hq9, show 12 * i + j = i * 12 + j by omega]; exact hVX21) else (by rw [hX21, u3_ij (fun w9 => hq9 w9.2)]; exact hcp q a (by omega))) (fun y hy => (by rw [hX21, u3_ne _ _ _ _ _ _ _ (fun w9 => hy w9.2)]; exact hco y hy)) hw hS (lv_sub hl [1, 2, 3, 0] rfl)
  exact lp16 (12 - 0 : Int).toNat.succ 0 X6 _ _ _ _ _ (by omega) hRX6 Frm.rf (by omega) (by omega) (fun q a b => by omega) (fun y hy => hx7g5 27 y hy) hw hS (lv_sub hl [2, 3, 1, 0] rfl)

set_option maxHeartbeats 4000000 in
set_option maxRecDepth 100000 in
theorem c_X8_rowPutBack (l : Launch) (D : va_G) (tc : Nat → ClassId) (base : Nat) (ad : Nat → Int → Nat) (cnt : Nat → Int) (X : Nat → Int → Int → Int) (Y : Nat → Int → Int → Option Int) (ln : Int → Int) (hR : Rng X) (hFx : Fx cnt) (hLn : LnOK ln) (hCI : CInv cnt X Y ln) (hOw : Own cnt) (hN : 0 ≤ cnt 25 ∧ 0 ≤ cnt 26) (g i lane : Int) (hg : 0 ≤ g ∧ g < 6) (hi0 : 0 ≤ i ∧ i ≤ 149) (hlane : 3 ≤ lane ∧ lane ≤ 5) : KR l D tc base 26 yX8_rowPutBack wsX8_rowPutBack ({ frames := 3, cells := 2, slots := 14, locals := 56 } : Room) [.ref (ad 0 0), .ref (ad 7 g), .int (jI i), .int (jI lane)] (ad, cnt, X, Y, ln) 2 14 (fun o u => ∃ (ad1 : Nat → Int → Nat) (cnt1 : Nat → Int) (X1 : Nat → Int → Int → Int) (Y1 : Nat → Int → Int → Option Int) (ln1 : Int → Int), u = (ad1, cnt1, X1, Y1, ln1) ∧ Ext ad cnt ln ad1 cnt1 ln1 ∧ Fx cnt1 ∧ Own cnt1 ∧ LnOK ln1 ∧ Rng X1 ∧ Frm [2602, 2700] X X1 ∧ Frm [600] Y Y1 ∧ CInv cnt1 X1 Y1 ln1 ∧ (∃ r9, o = some r9 ∧ 0 ≤ r9 ∧ r9 < cnt1 26) ∧ ∃ q, o = some q ∧ rpC g i lane (cnt 26) X Y ln (cnt1 26) X1 Y1 ln1 q) := by
  refine K_of (cc := cX8_rowPutBack) (maxL := 5) (ret := (some (.object "StateRecords$Row"))) (by decide) rfl (Nat.le_of_ble_eq_true rfl) ?_
  intro p e s m below meth c ls hx hb hr hml hown hts hlocks hl hK hw hS
  have hown : s.vm.findClass RX8 = some m.cls := hown
  have hbs : base ≤ s.heap.size := wd_size hw
  obtain ⟨av9, hav9⟩ : ∃ a9 : Array Value, a9 = ([.ref (ad 0 0), .ref (ad 7 g), .int (jI i), .int (jI lane)] : List Value).toArray := ⟨_, rfl⟩
  rw [← hav9] at hts ⊢
  obtain ⟨Q9, hQ9⟩ : ∃ q9Q : State → Prop, q9Q = MQ below (QR D tc base 26 (fun o u => ∃ (ad1 : Nat → Int → Nat) (cnt1 : Nat → Int) (X1 : Nat → Int → Int → Int) (Y1 : Nat → Int → Int → Option Int) (ln1 : Int → Int), u = (ad1, cnt1, X1, Y1, ln1) ∧ Ext ad cnt ln ad1 cnt1 ln1 ∧ Fx cnt1 ∧ Own cnt1 ∧ LnOK ln1 ∧ Rng X1 ∧ Frm [2602, 2700] X X1 ∧ Frm [600] Y Y1 ∧ CInv cnt1 X1 Y1 ln1 ∧ (∃ r9, o = some r9 ∧ 0 ≤ r9 ∧ r9 < cnt1 26) ∧ ∃ q, o = some q ∧ rpC g i lane (cnt 26) X Y ln (cnt1 26) X1 Y1 ln1 q)) av9 s 2 14 (frA base) := ⟨_, rfl⟩
  rw [← hQ9]
  obtain ⟨ad0, ha0⟩ : ∃ a, a = ad := ⟨_, rfl⟩
  obtain ⟨cnt0, hc0⟩ : ∃ a, a = cnt := ⟨_, rfl⟩
  obtain ⟨ln0, hl0⟩ : ∃ a, a = ln := ⟨_, rfl⟩
  have hE9 : ∀ a c n, Ext ad0 cnt0 ln0 a c n → Ext ad cnt ln a c n := by rw [ha0, hc0, hl0]; exact fun _ _ _ h => h
  have hE : Ext ad0 cnt0 ln0 ad cnt ln := by rw [ha0, hc0, hl0]; exact Ext.rf
  clear ha0 hc0 hl0
  have hi8 : ∀ w ∈ wsX80, w ∈ wsX8_rowPutBack := fun w h => List.mem_cons_of_mem _ (List.mem_append_left _ (List.mem_append_left _ (List.mem_append_right _ h)))
  have hf8 : fctx s m _ RX8 wsX8_rowPutBack D tc RX8 TX8 12 8 := ⟨hts, hi8, hown, hK.1, rfl⟩
  have lk44 := hts (.fieldLink RX8 44 (TX8 9).1 (TX8 9).2.1 (TX8 9).2.2.1) (gj_X8_rowPutBack_0 _ (gp_h))
  have hc0 : cnt 0 = 1 := hFx.at 0 1 (by decide)
  have hc6 : cnt 6 = 1 := hFx.at 6 1 (by decide)
  have hc7 : cnt 7 = 6 := hFx.at 7 6 (by decide)
  have hc27 : cnt 27 = cnt 26 := hFx.2.2
  have hl : lv_has ls 5 [(0, .ref (ad 0 0)), (1, .ref (ad 7 g)), (2, .int (jI i)), (3, .int (jI lane))] := hl
  have ftc : 0 ≤ X 0 0 3 ∧ X 0 0 3 ≤ 30 := hR 0 0 3
  have fty : 0 ≤ X 0 0 1 ∧ X 0 0 1 ≤ 8 := hR 0 0 1
  have hct : cnt 19 = X 0 0 1 := hCI.2.2.2.1.1
  have hfj : 0 ≤ X 29 0 3 ∧ X 29 0 3 ≤ 4 := hR 29 0 3
  have hfn : 0 ≤ X 29 0 1 ∧ X 29 0 1 ≤ 80 := hR 29 0 1
  refine lv_iload_n hx hb dX8_rowPutBack_0 rfl (lv_at hl 2 rfl) ?_
  refine lv_iconst (v := jI 3) hx hb dX8_rowPutBack_1 rfl ?_
  refine x_imul hx hb dX8_rowPutBack_2 ?_
  refine lv_iload_n hx hb dX8_rowPutBack_3 rfl (lv_at hl 3 rfl) ?_
  refine x_iadd hx hb dX8_rowPutBack_4 ?_
  refine lv_iconst (v := jI 3) hx hb dX8_rowPutBack_5 rfl ?_
  refine x_isub hx hb dX8_rowPutBack_6 ?_
  refine lv_istore (lv' := [(4, .int (jI (((i * 3) + lane) - 3))), (0, .ref (ad 0 0)), (1, .ref (ad 7 g)), (2, .int (jI i)), (3, .int (jI lane))]) hx hb dX8_rowPutBack_7 hl (by decide) rfl (fun ls hl => ?_)
  refine lv_aload_n hx hb dX8_rowPutBack_9 rfl (lv_at hl 1 rfl) ?_
  refine x_geto hx hb hf8 hw (by first | exact Int.le_refl 0 | omega) (by first | exact zlt hc0 | omega) sl_0_9 lk44 dX8_rowPutBack_10 ?_
  refine lv_iload hx hb dX8_rowPutBack_13 (lv_at hl 0 rfl) ?_
  refine x_aald hx hb hK.1 hw (by first | exact Int.le_refl 0 | omega) (by first | exact zlt hc6 | omega) ar_6 rfl (len_E ar_6 (by first | exact Nat.ne_of_beq_eq_false rfl | decide)) (by omega) (by omega) (by omega) dX8_rowPutBack_15 (fun y1 => ?_) (fun r2 y1 gr2 lr2 => ?_)
  · refine lv_ifnonnullN hx hb dX8_rowPutBack_16 ?_
    refine lv_aload_n hx hb dX8_rowPutBack_19 rfl (lv_at hl 1 rfl) ?_
    refine x_geto hx hb hf8 hw (by first | exact Int.le_refl 0 | omega) (by first | exact zlt hc0 | omega) sl_0_9 lk44 dX8_rowPutBack_20 ?_
    refine lv_iload hx hb dX8_rowPutBack_23 (lv_at hl 0 rfl) ?_
    refine lv_aload_n hx hb dX8_rowPutBack_25 rfl (lv_at hl 2 rfl) ?_
    refine lv_iload_n hx hb dX8_rowPutBack_26 rfl (lv_at hl 3 rfl) ?_
    refine gos_r (run_V (As := [.int (jI i)]) (rest := [.int (jI (((i * 3) + lane) - 3)), .ref (ad 6 0)]) hx hb hml hown hts (c_X4_copyOfRow l D tc base ad cnt X Y ln hR hFx hLn hCI hOw hN g i (by omega) (by omega)) (cwV 1 hts gX8_rowPutBack_X4_copyOfRow rfl rfl rfl (by first | exact hd_X4_copyOfRow | decide +kernel) ⟨Nat.le_of_ble_eq_true rfl, Nat.le_of_ble_eq_true rfl⟩) hK hw (by first | exact Int.le_refl 0 | omega) (by first | exact zlt hc7 | omega) sl_7_0 rfl rfl hl.1 rfl (Nat.le_of_ble_eq_true rfl) dX8_rowPutBack_27 ⟨(by show _ ≤ (2 : Nat); omega), (by show _ ≤ (14 : Nat); omega)⟩) hS (fun u4 H locs p5 hw hS => ?_) (fun z3 u4 H locs p5 hw hS => ?_)
    · obtain ⟨ad, cnt, X6, Y7, ln, eu4, hE8, hFx, hOw, hLn, hRX6, hG9, hJ10, hCIX6, p5, hcpyX6⟩ := p5
      subst eu4
      obtain ⟨r9, e9, -⟩ := p5
      cases e9
    · obtain ⟨ad, cnt, X11, Y12, ln, eu4, hE13, hFx, hOw, hLn, hRX11, hG14, hJ15, hCIX11, p5, hcpyX11⟩ := p5
      subst eu4
      have hFX11 : Frm [2602, 2700] X X11 := Frm.tr Frm.rf (Frm.mono hG14 (by first | exact nls_of rfl | decide))
      have hHY12 : Frm [600] Y Y12 := Frm.tr Frm.rf (Frm.mono hJ15 (by first | exact nls_of rfl | decide))
      have hz3 : 0 ≤ z3 ∧ z3 < cnt 26 := by obtain ⟨r9, e9, h1, h2⟩ := p5; cases e9; exact ⟨h1, h2⟩
      have hE := Ext.tr hE hE13
      have hm16 := hE13.2.1 19
      have hm17 := hE13.2.1 25
      have hm18 := hE13.2.1 26
      have hN : 0 ≤ cnt 25 ∧ 0 ≤ cnt 26 := by omega
      have ha19 := hE13.1 0 0 (by omega) (by omega)
      have ha20 := hE13.1 7 g (by omega) (by omega)
      have ha21 := hE13.1 6 0 (by omega) (by omega)
      have hc0 : cnt 0 = 1 := hFx.at 0 1 (by decide)
      have hc6 : cnt 6 = 1 := hFx.at 6 1 (by decide)
      have hc7 : cnt 7 = 6 := hFx.at 7 6 (by decide)
      have hc27 : cnt 27 = cnt 26 := hFx.2.2
      have hl : lv_has ls 5 [(4, .int (jI (((i * 3) + lane) - 3))), (0, .ref (ad 0 0)), (1, .ref (ad 7 g)), (2, .int (jI i)), (3, .int (jI lane))] := by rw [ha19, ha20]; exact hl
      refine W.eq (g2 := F0 m 30 ls [.ref (ad 26 z3), .int (jI (((i * 3) + lane) - 3)), .ref (ad 6 0)]) (by first | rfl | (rw [ha21]; done) | (rw [ha21]; rfl)) ?_
      refine x_aast hx hb hK.1 hw hS (by first | exact Int.le_refl 0 | omega) (by first | exact zlt hc6 | omega) ar_6 rfl rfl sl_26_0 (len_E ar_6 (by first | exact Nat.ne_of_beq_eq_false rfl | decide)) (by omega) (by omega) (by omega) (by omega) (by omega) dX8_rowPutBack_30 (fun H locs hw hS => ?_)
      obtain ⟨Y22, hY22⟩ : ∃ Yq, Yq = u3 Y12 6 0 (((i * 3) + lane) - 3) (some z3) := ⟨_, rfl⟩
      rw [← hY22] at hw
      have hVY22 : Y22 6 0 (((i * 3) + lane) - 3) = (some z3) := by rw [hY22]; exact u3_s _ _ _ _ _
      have hHY22 : Frm [600] Y Y22 := by rw [hY22]; exact Frm.set hHY12 (show 600 ∈ [600] by first | exact nlm_in rfl | decide)
      refine lv_aload_n hx hb dX8_rowPutBack_31 rfl (lv_at hl 1 rfl) ?_
      refine x_geto hx hb hf8 hw (by first | exact Int.le_refl 0 | omega) (by first | exact zlt hc0 | omega) sl_0_9 lk44 dX8_rowPutBack_32 ?_
      refine lv_iload hx hb dX8_rowPutBack_35 (lv_at hl 0 rfl) ?_
      refine x_aald hx hb hK.1 hw (by first | exact Int.le_refl 0 | omega) (by first | exact zlt hc6 | omega) ar_6 rfl (len_E ar_6 (by first | exact Nat.ne_of_beq_eq_false rfl | decide)) (by omega) (by omega) (by omega) dX8_rowPutBack_37 (fun y23 => ?_) (fun r24 y23 gr24 lr24 => ?_)
      · exfalso
        rw [hVY22] at y23; cases y23
      · have er24 : r24 = z3 := by rw [hVY22] at y23; cases y23; rfl
        rw [er24]
        rw [hQ9]
        refine ret_r (mc := 2) (ms := 14) (k := 26) (i := z3) hx hb hr hlocks hw hS (by first | exact Nat.le_of_ble_eq_true rfl | omega) (by first | exact Nat.le_of_ble_eq_true rfl | omega) dX8_rowPutBack_38 ?_
        have q25 : Frm [600] Y12 Y22 := by rw [hY22]; exact Frm.set Frm.rf (show 600 ∈ [600] by first | exact nlm_in rfl | decide)
        have hCq26 : CInv cnt X11 Y22 ln := cinv_frm (M := []) (N := [600]) hCIX11 Frm.rf q25 (by decide) (by decide)
        exact ⟨ad, cnt, X11, Y22, ln, rfl, hE9 _ _ _ hE, hFx, hOw, hLn, hRX11, hFX11, hHY22, hCq26, ⟨_, rfl, by omega, by omega⟩, ⟨z3, rfl, (by obtain ⟨q1, q2, q3, q4, q5⟩ := hcpyX11; exact Or.inr ⟨(by rw [show 3 * i + lane - 3 = i * 3 + lane - 3 by omega]; exact y1), Option.some.inj q1, q2, q3, fun i9 a b => hE13.2.2 i9 a (by omega), q4, q5, hG14, (by rw [hY22, Frm.nil hJ15, show 3 * i + lane - 3 = i * 3 + lane - 3 by omega, ← q1])⟩)⟩⟩
  · refine lv_ifnonnull (tgt := 31) hx hb dX8_rowPutBack_16 (by decide) ?_
    refine lv_aload_n hx hb dX8_rowPutBack_31 rfl (lv_at hl 1 rfl) ?_
    refine x_geto hx hb hf8 hw (by first | exact Int.le_refl 0 | omega) (by first | exact zlt hc0 | omega) sl_0_9 lk44 dX8_rowPutBack_32 ?_
    refine lv_iload hx hb dX8_rowPutBack_35 (lv_at hl 0 rfl) ?_
    refine x_aald hx hb hK.1 hw (by first | exact Int.le_refl 0 | omega) (by first | exact zlt hc6 | omega) ar_6 rfl (len_E ar_6 (by first | exact Nat.ne_of_beq_eq_false rfl | decide)) (by omega) (by omega) (by omega) dX8_rowPutBack_37 (fun y27 => ?_) (fun r28 y27 gr28 lr28 => ?_)
    · exfalso
      rw [y1] at y27; cases y27
    · have er28 : r28 = r2 := by rw [y1] at y27; cases y27; rfl
      rw [er28]
      rw [hQ9]
      refine ret_r (mc := 2) (ms := 14) (k := 26) (i := r2) hx hb hr hlocks hw hS (by first | exact Nat.le_of_ble_eq_true rfl | omega) (by first | exact Nat.le_of_ble_eq_true rfl | omega) dX8_rowPutBack_38 ?_
      exact ⟨ad, cnt, X, Y, ln, rfl, hE9 _ _ _ hE, hFx, hOw, hLn, hR, Frm.rf, Frm.rf, hCI, ⟨_, rfl, by omega, by omega⟩, ⟨r2, rfl, Or.inl ⟨(by rw [show 3 * i + lane - 3 = i * 3 + lane - 3 by omega]; exact y1), rfl, rfl, rfl, rfl⟩⟩⟩

set_option maxHeartbeats 4000000 in
set_option maxRecDepth 100000 in
theorem c_X8_addThings (l : Launch) (D : va_G) (tc : Nat → ClassId) (base : Nat) (ad : Nat → Int → Nat) (cnt : Nat → Int) (X : Nat → Int → Int → Int) (Y : Nat → Int → Int → Option Int) (ln : Int → Int) (hR : Rng X) (hFx : Fx cnt) (hLn : LnOK ln) (hCI : CInv cnt X Y ln) (g : Int) (hg : 0 ≤ g ∧ g < 6) (hfit : X 0 0 3 + X 7 g 0 ≤ 30) : KV l D tc base yX8_addThings wsX8_addThings ({ frames := 2, cells := 0, slots := 0, locals := 43 } : Room) [.ref (ad 0 0), .ref (ad 7 g)] (ad, cnt, X, Y, ln) 0 0 (fun u => ∃ (X1 : Nat → Int → Int → Int) (Y1 : Nat → Int → Int → Option Int), u = (ad, cnt, X1, Y1, ln) ∧ Rng X1 ∧ Frm [4, 1600] X X1 ∧ Frm [1501, 1700] Y Y1 ∧ CInv cnt X1 Y1 ln ∧ (0 : Int) ≤ 0 ∧ X1 0 0 3 = X 0 0 3 + X 7 g 0 ∧ (∀ r9, 0 ≤ r9 → r9 < X 7 g 0 → Y1 15 (X 0 0 3 + r9) 0 = some (X 8 g r9) ∧ ∀ j, 0 ≤ j → j < X 19 (X 8 g r9) 1 → X1 16 (X 0 0 3 + r9) j = X 22 (X 8 g r9) j ∧ Y1 17 (X 0 0 3 + r9) j = none) ∧ ∀ y, y < X 0 0 3 → Y1 15 y 0 = Y 15 y 0 ∧ ∀ j, X1 16 y j = X 16 y j ∧ Y1 17 y j = Y 17 y j) := by
  refine K_of (cc := cX8_addThings) (maxL := 3) (ret := none) (by decide) rfl (Nat.le_of_ble_eq_true rfl) ?_
  intro p e s m below meth c ls hx hb hr hml hown hts hlocks hl hK hw hS
  have hown : s.vm.findClass RX8 = some m.cls := hown
  obtain ⟨av9, hav9⟩ : ∃ a9 : Array Value, a9 = ([.ref (ad 0 0), .ref (ad 7 g)] : List Value).toArray := ⟨_, rfl⟩
  rw [← hav9] at hts ⊢
  obtain ⟨Q9, hQ9⟩ : ∃ q9Q : State → Prop, q9Q = MQ below (QV D tc base (fun u => ∃ (X1 : Nat → Int → Int → Int) (Y1 : Nat → Int → Int → Option Int), u = (ad, cnt, X1, Y1, ln) ∧ Rng X1 ∧ Frm [4, 1600] X X1 ∧ Frm [1501, 1700] Y Y1 ∧ CInv cnt X1 Y1 ln ∧ (0 : Int) ≤ 0 ∧ X1 0 0 3 = X 0 0 3 + X 7 g 0 ∧ (∀ r9, 0 ≤ r9 → r9 < X 7 g 0 → Y1 15 (X 0 0 3 + r9) 0 = some (X 8 g r9) ∧ ∀ j, 0 ≤ j → j < X 19 (X 8 g r9) 1 → X1 16 (X 0 0 3 + r9) j = X 22 (X 8 g r9) j ∧ Y1 17 (X 0 0 3 + r9) j = none) ∧ ∀ y, y < X 0 0 3 → Y1 15 y 0 = Y 15 y 0 ∧ ∀ j, X1 16 y j = X 16 y j ∧ Y1 17 y j = Y 17 y j)) av9 s 0 0 (frA base) := ⟨_, rfl⟩
  rw [← hQ9]
  have hi4 : ∀ w ∈ wsX40, w ∈ wsX8_addThings := fun w h => List.mem_cons_of_mem _ (List.mem_append_left _ (List.mem_append_left _ (List.mem_append_left _ (List.mem_append_right _ h))))
  have hf4 : fctx s m _ RX8 wsX8_addThings D tc RX4 TX4 9 4 := ⟨hts, hi4, hown, hK.1, rfl⟩
  have hi8 : ∀ w ∈ wsX80, w ∈ wsX8_addThings := fun w h => List.mem_cons_of_mem _ (List.mem_append_left _ (List.mem_append_left _ (List.mem_append_right _ h)))
  have hf8 : fctx s m _ RX8 wsX8_addThings D tc RX8 TX8 12 8 := ⟨hts, hi8, hown, hK.1, rfl⟩
  have lk11 := hts (.fieldLink RX8 11 (TX8 0).1 (TX8 0).2.1 (TX8 0).2.2.1) (gj_X8_addThings_0 _ (gp_1 (gp_1 (gp_1 gp_h))))
  have lk17 := hts (.fieldLink RX8 17 (TX8 2).1 (TX8 2).2.1 (TX8 2).2.2.1) (gj_X8_addThings_0 _ (gp_1 gp_h))
  have lk94 := hts (.fieldLink RX8 94 (TX8 3).1 (TX8 3).2.1 (TX8 3).2.2.1) (gj_X8_addThings_0 _ (gp_1 (gp_1 gp_h)))
  have lk231 := hts (.fieldLink RX8 231 (TX4 0).1 (TX4 0).2.1 (TX4 0).2.2.1) (gj_X8_addThings_0 _ (gp_h))
  have lk336 := hts (.fieldLink RX8 336 (TX4 1).1 (TX4 1).2.1 (TX4 1).2.2.1) (gj_X8_addThings_0 _ (gp_4 gp_h))
  have hc0 : cnt 0 = 1 := hFx.at 0 1 (by decide)
  have hc1 : cnt 1 = 1 := hFx.at 1 1 (by decide)
  have hc2 : cnt 2 = 1 := hFx.at 2 1 (by decide)
  have hc7 : cnt 7 = 6 := hFx.at 7 6 (by decide)
  have hc8 : cnt 8 = 6 := hFx.at 8 6 (by decide)
  have hc15 : cnt 15 = 30 := hFx.at 15 30 (by decide)
  have hl : lv_has ls 3 [(0, .ref (ad 0 0)), (1, .ref (ad 7 g))] := hl
  have ftc : 0 ≤ X 0 0 3 ∧ X 0 0 3 ≤ 30 := hR 0 0 3
  have fty : 0 ≤ X 0 0 1 ∧ X 0 0 1 ≤ 8 := hR 0 0 1
  have hct : cnt 19 = X 0 0 1 := hCI.2.2.2.1.1
  have hfj : 0 ≤ X 29 0 3 ∧ X 29 0 3 ≤ 4 := hR 29 0 3
  have hfn : 0 ≤ X 29 0 1 ∧ X 29 0 1 ≤ 80 := hR 29 0 1
  have frc : 0 ≤ X 7 g 0 ∧ X 7 g 0 ≤ 30 := hR 7 g 0
  refine lv_iconst (v := jI 0) hx hb dX8_addThings_0 rfl ?_
  refine lv_istore_n (lv' := [(2, .int (jI 0)), (0, .ref (ad 0 0)), (1, .ref (ad 7 g))]) hx hb dX8_addThings_1 rfl hl (by decide) rfl (fun ls hl => ?_)
  have lp2 : ∀ (nn : Nat) (r : Int) (Xa : Nat → Int → Int → Int) (Ya : Nat → Int → Int → Option Int) (H : Heap) (locs : List Loc) (ls : Array Slot), (30 - r) < (nn : Int) → (Rng Xa) → (Frm [4, 1600] X Xa) → (Frm [1501, 1700] Y Ya) → (0 ≤ r ∧ r ≤ X 7 g 0) → (Xa 0 0 3 = X 0 0 3 + r) → (CInv cnt Xa Ya ln) → (∀ r9, 0 ≤ r9 → r9 < r → Ya 15 (X 0 0 3 + r9) 0 = some (X 8 g r9) ∧ ∀ j, 0 ≤ j → j < X 19 (X 8 g r9) 1 → Xa 16 (X 0 0 3 + r9) j = X 22 (X 8 g r9) j ∧ Ya 17 (X 0 0 3 + r9) j = none) → (∀ y, y < X 0 0 3 → Ya 15 y 0 = Y 15 y 0 ∧ ∀ j, Xa 16 y j = X 16 y j ∧ Ya 17 y j = Y 17 y j) → wd D tc base (ad, cnt, Xa, Ya, ln) H → va_S (frA base) s.heap H locs → lv_has ls 3 [(0, .ref (ad 0 0)), (1, .ref (ad 7 g)), (2, .int (jI r))] → W p l e ({ frames := 2, cells := 0, slots := 0, locals := 43 } : Room) s m av9 below meth c H locs 0 0 Q9 (F0 m 2 ls []) := by
    intro nn
    induction nn with
    | zero => intro r Xa Ya H locs ls hm hRXa hGXa hGYa hr0 htc hCIXa hna hoa hw hS hl; exfalso; omega
    | succ nn ih2 =>
      intro r Xa Ya H locs ls hm hRXa hGXa hGYa hr0 htc hCIXa hna hoa hw hS hl
      have hHYa : Frm [1501, 1700] Y Ya := Frm.tr Frm.rf (Frm.mono hGYa (by first | exact nls_of rfl | decide))
      have hFXa : Frm [4, 1600] X Xa := Frm.tr Frm.rf (Frm.mono hGXa (by first | exact nls_of rfl | decide))
      refine lv_iload_n hx hb dX8_addThings_2 rfl (lv_at hl 2 rfl) ?_
      refine lv_aload_n hx hb dX8_addThings_3 rfl (lv_at hl 1 rfl) ?_
      refine x_geti (jz := 0) hx hb hf4 hw (by omega) (by omega) sl_7_0 rfl lk231 dX8_addThings_4 ?_
      have e1 : Xa 7 g 0 = X 7 g 0 := by rw [hGXa 7 g 0 (show 701 ∉ [4, 1600] by first | exact nlm_ni rfl | decide)]
      rw [e1]
      have f2 : 0 ≤ X 7 g 0 ∧ X 7 g 0 ≤ 30 := hR 7 g 0
      refine x_icmp_ge (tgt := 49) hx hb (by omega) (by omega) dX8_addThings_7 (by decide) (fun c3 => ?_) (fun c3 => ?_)
      · rw [hQ9]
        refine ret_v (mc := 0) (ms := 0) hx hb hr hlocks hw hS (by first | exact Nat.le_of_ble_eq_true rfl | omega) (by first | exact Nat.le_of_ble_eq_true rfl | omega) dX8_addThings_49 ?_
        exact ⟨Xa, Ya, rfl, hRXa, hFXa, hHYa, hCIXa, by omega, by omega, (fun r9 a b => hna r9 a (by omega)), hoa⟩
      · refine lv_aload_n hx hb dX8_addThings_10 rfl (lv_at hl 0 rfl) ?_
        refine x_geto hx hb hf8 hw (by first | exact Int.le_refl 0 | omega) (by first | exact zlt hc0 | omega) sl_0_2 lk17 dX8_addThings_11 ?_
        refine lv_aload_n hx hb dX8_addThings_14 rfl (lv_at hl 0 rfl) ?_
        refine x_geti (jz := 3) hx hb hf8 hw (by first | exact Int.le_refl 0 | omega) (by first | exact zlt hc0 | omega) sl_0_3 rfl lk94 dX8_addThings_15 ?_
        have f4 : 0 ≤ Xa 0 0 3 ∧ Xa 0 0 3 ≤ 30 := hRXa 0 0 3
        refine x_aald hx hb hK.1 hw (by first | exact Int.le_refl 0 | omega) (by first | exact zlt hc2 | omega) ar_2 rfl (len_E ar_2 (by first | exact Nat.ne_of_beq_eq_false rfl | decide)) (by omega) (by omega) (by omega) dX8_addThings_18 (fun y5 => ?_) (fun r6 y5 gr6 lr6 => ?_)
        · exfalso
          have e7 : ∀ p9 q9 : Int, Ya 2 p9 q9 = Y 2 p9 q9 := fun p9 q9 => by rw [hGYa 2 p9 q9 (show 200 ∉ [1501, 1700] by first | exact nlm_ni rfl | decide)]
          rw [e7] at y5
          have h9 := hCI.1 (Xa 0 0 3) (by omega) (by omega); rw [h9] at y5; cases y5
        · have e8 : ∀ p9 q9 : Int, Ya 2 p9 q9 = Y 2 p9 q9 := fun p9 q9 => by rw [hGYa 2 p9 q9 (show 200 ∉ [1501, 1700] by first | exact nlm_ni rfl | decide)]
          rw [e8] at y5
          have er6 : r6 = (Xa 0 0 3) := by have h9 := hCI.1 (Xa 0 0 3) (by omega) (by omega); rw [h9] at y5; cases y5; rfl
          rw [er6]
          refine lv_aload_n hx hb dX8_addThings_19 rfl (lv_at hl 0 rfl) ?_
          refine x_geto hx hb hf8 hw (by first | exact Int.le_refl 0 | omega) (by first | exact zlt hc0 | omega) sl_0_0 lk11 dX8_addThings_20 ?_
          refine lv_aload_n hx hb dX8_addThings_23 rfl (lv_at hl 1 rfl) ?_
          refine x_geto hx hb hf4 hw (by omega) (by omega) sl_7_1 lk336 dX8_addThings_24 ?_
          refine lv_iload_n hx hb dX8_addThings_27 rfl (lv_at hl 2 rfl) ?_
          have h89 := hCI.2.2.2.2.2.2.1 g r (by omega) (by omega) (by omega) (by omega)
          refine x_iald hx hb hK.1 hw (by omega) (by omega) ar_8 (len_E ar_8 (by first | exact Nat.ne_of_beq_eq_false rfl | decide)) (by omega) (by omega) (by omega) dX8_addThings_28 ?_
          have e9 : ∀ p9 q9 : Int, Xa 8 p9 q9 = X 8 p9 q9 := fun p9 q9 => by rw [hGXa 8 p9 q9 (show 800 ∉ [4, 1600] by first | exact nlm_ni rfl | decide)]
          rw [e9 g r]
          have f10 : 0 ≤ X 8 g r ∧ X 8 g r ≤ 7 := hR 8 g r
          refine x_aald hx hb hK.1 hw (by first | exact Int.le_refl 0 | omega) (by first | exact zlt hc1 | omega) ar_1 rfl (len_E ar_1 (by first | exact Nat.ne_of_beq_eq_false rfl | decide)) (by omega) (by omega) (by omega) dX8_addThings_29 (fun y11 => ?_) (fun r12 y11 gr12 lr12 => ?_)
          · exfalso
            have e13 : ∀ p9 q9 : Int, Ya 1 p9 q9 = Y 1 p9 q9 := fun p9 q9 => by rw [hGYa 1 p9 q9 (show 100 ∉ [1501, 1700] by first | exact nlm_ni rfl | decide)]
            rw [e13] at y11
            have h9 := (hCI.2.2.2.1.2 (X 8 g r) (by omega) (by omega)).1; rw [h9] at y11; cases y11
          · have e14 : ∀ p9 q9 : Int, Ya 1 p9 q9 = Y 1 p9 q9 := fun p9 q9 => by rw [hGYa 1 p9 q9 (show 100 ∉ [1501, 1700] by first | exact nlm_ni rfl | decide)]
            rw [e14] at y11
            have er12 : r12 = (X 8 g r) := by have h9 := (hCI.2.2.2.1.2 (X 8 g r) (by omega) (by omega)).1; rw [h9] at y11; cases y11; rfl
            rw [er12]
            refine gos_v (run_V (As := [.ref (ad 19 (X 8 g r))]) (rest := []) hx hb hml hown hts (c_X6_become l D tc base ad cnt Xa Ya ln hRXa hFx hLn hCIXa (Xa 0 0 3) (X 8 g r) (by omega) (by omega)) (cwV 1 hts gX8_addThings_X6_become rfl rfl rfl (by first | exact hd_X6_become | decide +kernel) ⟨Nat.le_of_ble_eq_true rfl, Nat.le_of_ble_eq_true rfl⟩) hK hw (by first | exact Int.le_refl 0 | omega) (by first | exact zlt hc15 | omega) sl_15_0 rfl rfl hl.1 rfl (Nat.le_of_ble_eq_true rfl) dX8_addThings_30 ⟨Nat.le_of_ble_eq_true rfl, Nat.le_of_ble_eq_true rfl⟩) hS (fun u16 H locs p17 hw hS => ?_)
            obtain ⟨X18, Y19, eu16, hRX18, hG20, hJ21, hCIX18, p17, hytX18, hyoX18, hbnX18, hboX18⟩ := p17
            subst eu16
            have hFX18 : Frm [4, 1600] X X18 := Frm.tr hFXa (Frm.mono hG20 (by first | exact nls_of rfl | decide))
            have hHY19 : Frm [1501, 1700] Y Y19 := Frm.tr hHYa (Frm.mono hJ21 (by first | exact nls_of rfl | decide))
            refine lv_aload_n hx hb dX8_addThings_33 rfl (lv_at hl 0 rfl) ?_
            refine lv_dup hx hb dX8_addThings_34 rfl ?_
            refine x_geti (jz := 3) hx hb hf8 hw (by first | exact Int.le_refl 0 | omega) (by first | exact zlt hc0 | omega) sl_0_3 rfl lk94 dX8_addThings_35 ?_
            have e22 : X18 0 0 3 = Xa 0 0 3 := by rw [hG20 0 0 3 (show 4 ∉ [1600] by first | exact nlm_ni rfl | decide)]
            rw [e22]
            have f23 : 0 ≤ Xa 0 0 3 ∧ Xa 0 0 3 ≤ 30 := hRXa 0 0 3
            refine lv_iconst (v := jI 1) hx hb dX8_addThings_38 rfl ?_
            refine x_iadd hx hb dX8_addThings_39 ?_
            refine x_puti (jz := 3) hx hb hf8 ⟨tyX8_ok, nmX8⟩ hw hS (by first | exact Int.le_refl 0 | omega) (by first | exact zlt hc0 | omega) sl_0_3 rfl lk94 rfl (tyX8_ok 3 (by decide)) rfl rfl dX8_addThings_40 (fun H locs hw hS => ?_)
            obtain ⟨X24, hX24⟩ : ∃ Xq, Xq = u3 X18 0 0 3 ((Xa 0 0 3) + 1) := ⟨_, rfl⟩
            rw [← hX24] at hw
            have hRX24 : Rng X24 := by rw [hX24]; exact rng_set hRX18 (show 0 ≤ ((Xa 0 0 3) + 1) ∧ ((Xa 0 0 3) + 1) ≤ 30 by omega)
            have hVX24 : X24 0 0 3 = ((Xa 0 0 3) + 1) := by rw [hX24]; exact u3_s _ _ _ _ _
            have hFX24 : Frm [4, 1600] X X24 := by rw [hX24]; exact Frm.set hFX18 (show 4 ∈ [4, 1600] by first | exact nlm_in rfl | decide)
            refine lv_iinc (v := jI (r + 1)) (lv' := [(2, .int (jI (r + 1))), (0, .ref (ad 0 0)), (1, .ref (ad 7 g))]) hx hb dX8_addThings_43 hl (k := 2) rfl (jI_add _ _) (by decide) rfl (fun ls hl => ?_)
            refine lv_goto (tgt := 2) hx hb dX8_addThings_46 (by decide) ?_
            have q25 : Frm [4, 1600] X Xa := Frm.tr Frm.rf (Frm.mono hGXa (by first | exact nls_of rfl | decide))
            have q26 : Frm [4, 1600] X X18 := Frm.tr q25 (Frm.mono hG20 (by first | exact nls_of rfl | decide))
            have q28 : Frm [1501, 1700] Y Ya := Frm.tr Frm.rf (Frm.mono hGYa (by first | exact nls_of rfl | decide))
            have q29 : Frm [1501, 1700] Y Y19 := Frm.tr q28 (Frm.mono hJ21 (by first | exact nls_of rfl | decide))
            have q31 : Frm [4] X18 X24 := by rw [hX24]; exact Frm.set Frm.rf (show 4 ∈ [4] by first | exact nlm_in rfl | decide)
            exact ih2 (r + 1) X24 Y19 _ _ _ (by omega) hRX24 hFX24 q29 (by omega) (by rw [hVX24]; omega) ((cinv_things hCIX18 q31 (fun x9 a b c => by rw [hVX24] at b; rw [e22] at c; rw [show x9 = Xa 0 0 3 by omega, hytX18]; exact fun q => by cases q))) (fun r9 a b => (by by_cases hr9 : r9 = r; rw [hr9, show X 0 0 3 + r = Xa 0 0 3 by omega]; exact ⟨hytX18, fun j j0 j1 => (by rw [show X24 16 (Xa 0 0 3) j = X18 16 (Xa 0 0 3) j from (by rw [hX24, u3_k _ _ _ _ (by first | exact Nat.ne_of_beq_eq_false rfl | decide)])]; have h9 := hbnX18 j j0 (by rw [show Xa 19 (X 8 g r) 1 = X 19 (X 8 g r) 1 from (by rw [hGXa 19 (X 8 g r) 1 (show 1902 ∉ [4, 1600] by first | exact nlm_ni rfl | decide)])]; exact j1); rw [show Xa 22 (X 8 g r) j = X 22 (X 8 g r) j from (by rw [hGXa 22 (X 8 g r) j (show 2200 ∉ [4, 1600] by first | exact nlm_ni rfl | decide)])] at h9; exact h9)⟩; have hy9 : X 0 0 3 + r9 ≠ Xa 0 0 3 := (by omega); rw [hyoX18 _ hy9]; refine ⟨(hna r9 a (by omega)).1, fun j j0 j1 => ?_⟩; rw [show X24 16 (X 0 0 3 + r9) j = X18 16 (X 0 0 3 + r9) j from (by rw [hX24, u3_k _ _ _ _ (by first | exact Nat.ne_of_beq_eq_false rfl | decide)]), (hboX18 _ j hy9).1, (hboX18 _ j hy9).2]; exact (hna r9 a (by omega)).2 j j0 j1)) (fun y hy => (by have hy9 : y ≠ Xa 0 0 3 := (by omega); rw [hyoX18 _ hy9]; refine ⟨(hoa y hy).1, fun j => ?_⟩; rw [show X24 16 y j = X18 16 y j from (by rw [hX24, u3_k _ _ _ _ (by first | exact Nat.ne_of_beq_eq_false rfl | decide)]), (hboX18 _ j hy9).1, (hboX18 _ j hy9).2]; exact (hoa y hy).2 j)) hw hS (lv_sub hl [1, 2, 0] rfl)
  exact lp2 (30 - 0 : Int).toNat.succ 0 X Y _ _ _ (by omega) hR Frm.rf Frm.rf (by omega) (by omega) (hCI) (fun r9 a b => by omega) (fun y _ => ⟨rfl, fun j => ⟨rfl, rfl⟩⟩) hw hS (lv_sub hl [1, 2, 0] rfl)

set_option maxHeartbeats 4000000 in
set_option maxRecDepth 100000 in
theorem c_X8_fillField (l : Launch) (D : va_G) (tc : Nat → ClassId) (base : Nat) (ad : Nat → Int → Nat) (cnt : Nat → Int) (X : Nat → Int → Int → Int) (Y : Nat → Int → Int → Option Int) (ln : Int → Int) (hR : Rng X) (hFx : Fx cnt) (hLn : LnOK ln) (hCI : CInv cnt X Y ln) (hOw : Own cnt) (hN : 0 ≤ cnt 25 ∧ 0 ≤ cnt 26) (x g slot f rule : Int) (hx0 : 0 ≤ x ∧ x ≤ 29) (hxt : x < X 0 0 3) (hg : 0 ≤ g ∧ g < 6) (hsl : 0 ≤ slot ∧ slot ≤ 149) (hf : 0 ≤ f ∧ f ≤ 30) (hrule : -2147483648 ≤ rule ∧ rule ≤ 2147483647) (hv : 2 ≤ X 11 g slot → -1 ≤ X 12 g slot ∧ X 12 g slot ≤ 149) : KI l D tc base yX8_fillField wsX8_fillField ({ frames := 4, cells := 2, slots := 14, locals := 80 } : Room) [.ref (ad 0 0), .ref (ad 15 x), .ref (ad 7 g), .int (jI slot), .int (jI f), .int (jI rule)] (ad, cnt, X, Y, ln) 2 14 (fun z u => ∃ (ad1 : Nat → Int → Nat) (cnt1 : Nat → Int) (X1 : Nat → Int → Int → Int) (Y1 : Nat → Int → Int → Option Int) (ln1 : Int → Int), u = (ad1, cnt1, X1, Y1, ln1) ∧ Ext ad cnt ln ad1 cnt1 ln1 ∧ Fx cnt1 ∧ Own cnt1 ∧ LnOK ln1 ∧ Rng X1 ∧ Frm [1600, 2602, 2700] X X1 ∧ Frm [1700, 600] Y Y1 ∧ CInv cnt1 X1 Y1 ln1 ∧ (0 ≤ z ∧ z ≤ 10) ∧ z = fvC X Y x g slot rule ∧ (z ≠ 0 → cnt1 26 = cnt 26 ∧ X1 = X ∧ Y1 = Y ∧ ln1 = ln) ∧ (z = 0 → fStC g x slot f (cnt 26) X Y ln (cnt1 26) X1 Y1 ln1)) := by
  refine K_of (cc := cX8_fillField) (maxL := 10) (ret := (some .int)) (by decide) rfl (Nat.le_of_ble_eq_true rfl) ?_
  intro p e s m below meth c ls hx hb hr hml hown hts hlocks hl hK hw hS
  have hown : s.vm.findClass RX8 = some m.cls := hown
  have hbs : base ≤ s.heap.size := wd_size hw
  obtain ⟨av9, hav9⟩ : ∃ a9 : Array Value, a9 = ([.ref (ad 0 0), .ref (ad 15 x), .ref (ad 7 g), .int (jI slot), .int (jI f), .int (jI rule)] : List Value).toArray := ⟨_, rfl⟩
  rw [← hav9] at hts ⊢
  obtain ⟨Q9, hQ9⟩ : ∃ q9Q : State → Prop, q9Q = MQ below (QI D tc base (fun z u => ∃ (ad1 : Nat → Int → Nat) (cnt1 : Nat → Int) (X1 : Nat → Int → Int → Int) (Y1 : Nat → Int → Int → Option Int) (ln1 : Int → Int), u = (ad1, cnt1, X1, Y1, ln1) ∧ Ext ad cnt ln ad1 cnt1 ln1 ∧ Fx cnt1 ∧ Own cnt1 ∧ LnOK ln1 ∧ Rng X1 ∧ Frm [1600, 2602, 2700] X X1 ∧ Frm [1700, 600] Y Y1 ∧ CInv cnt1 X1 Y1 ln1 ∧ (0 ≤ z ∧ z ≤ 10) ∧ z = fvC X Y x g slot rule ∧ (z ≠ 0 → cnt1 26 = cnt 26 ∧ X1 = X ∧ Y1 = Y ∧ ln1 = ln) ∧ (z = 0 → fStC g x slot f (cnt 26) X Y ln (cnt1 26) X1 Y1 ln1))) av9 s 2 14 (frA base) := ⟨_, rfl⟩
  rw [← hQ9]
  obtain ⟨ad0, ha0⟩ : ∃ a, a = ad := ⟨_, rfl⟩
  obtain ⟨cnt0, hc0⟩ : ∃ a, a = cnt := ⟨_, rfl⟩
  obtain ⟨ln0, hl0⟩ : ∃ a, a = ln := ⟨_, rfl⟩
  have hE9 : ∀ a c n, Ext ad0 cnt0 ln0 a c n → Ext ad cnt ln a c n := by rw [ha0, hc0, hl0]; exact fun _ _ _ h => h
  have hE : Ext ad0 cnt0 ln0 ad cnt ln := by rw [ha0, hc0, hl0]; exact Ext.rf
  clear ha0 hc0 hl0
  have hi4 : ∀ w ∈ wsX40, w ∈ wsX8_fillField := fun w h => List.mem_cons_of_mem _ (List.mem_append_left _ (List.mem_append_left _ (List.mem_append_left _ (List.mem_append_right _ h))))
  have hf4 : fctx s m _ RX8 wsX8_fillField D tc RX4 TX4 9 4 := ⟨hts, hi4, hown, hK.1, rfl⟩
  have hi6 : ∀ w ∈ wsX60, w ∈ wsX8_fillField := fun w h => List.mem_cons_of_mem _ (List.mem_append_left _ (List.mem_append_left _ (List.mem_append_left _ (List.mem_append_left _ (List.mem_append_right _ h)))))
  have hf6 : fctx s m _ RX8 wsX8_fillField D tc RX6 TX6 4 6 := ⟨hts, hi6, hown, hK.1, rfl⟩
  have hi7 : ∀ w ∈ wsX70, w ∈ wsX8_fillField := fun w h => List.mem_cons_of_mem _ (List.mem_append_left _ (List.mem_append_left _ (List.mem_append_right _ h)))
  have hf7 : fctx s m _ RX8 wsX8_fillField D tc RX7 TX7 8 7 := ⟨hts, hi7, hown, hK.1, rfl⟩
  have lk97 := hts (.fieldLink RX8 97 (TX6 0).1 (TX6 0).2.1 (TX6 0).2.2.1) (gj_X8_fillField_0 _ (gp_h))
  have lk135 := hts (.fieldLink RX8 135 (TX7 3).1 (TX7 3).2.1 (TX7 3).2.2.1) (gj_X8_fillField_0 _ (gp_1 (gp_1 gp_h)))
  have lk158 := hts (.fieldLink RX8 158 (TX6 2).1 (TX6 2).2.1 (TX6 2).2.2.1) (gj_X8_fillField_0 _ (gp_4 (gp_1 (gp_1 gp_h))))
  have lk193 := hts (.fieldLink RX8 193 (TX6 1).1 (TX6 1).2.1 (TX6 1).2.2.1) (gj_X8_fillField_0 _ (gp_4 (gp_1 (gp_1 (gp_1 gp_h)))))
  have lk224 := hts (.fieldLink RX8 224 (TX4 3).1 (TX4 3).2.1 (TX4 3).2.2.1) (gj_X8_fillField_0 _ (gp_1 gp_h))
  have lk341 := hts (.fieldLink RX8 341 (TX4 4).1 (TX4 4).2.1 (TX4 4).2.2.1) (gj_X8_fillField_0 _ (gp_1 (gp_1 (gp_1 gp_h))))
  have lk342 := hts (.fieldLink RX8 342 (TX4 5).1 (TX4 5).2.1 (TX4 5).2.2.1) (gj_X8_fillField_0 _ (gp_4 gp_h))
  have hc0 : cnt 0 = 1 := hFx.at 0 1 (by decide)
  have hc6 : cnt 6 = 1 := hFx.at 6 1 (by decide)
  have hc7 : cnt 7 = 6 := hFx.at 7 6 (by decide)
  have hc10 : cnt 10 = 6 := hFx.at 10 6 (by decide)
  have hc11 : cnt 11 = 6 := hFx.at 11 6 (by decide)
  have hc12 : cnt 12 = 6 := hFx.at 12 6 (by decide)
  have hc15 : cnt 15 = 30 := hFx.at 15 30 (by decide)
  have hc16 : cnt 16 = 30 := hFx.at 16 30 (by decide)
  have hc17 : cnt 17 = 30 := hFx.at 17 30 (by decide)
  have hc21 : cnt 21 = cnt 19 := hFx.2.1 21 (by decide)
  have hc27 : cnt 27 = cnt 26 := hFx.2.2
  have hl : lv_has ls 10 [(0, .ref (ad 0 0)), (1, .ref (ad 15 x)), (2, .ref (ad 7 g)), (3, .int (jI slot)), (4, .int (jI f)), (5, .int (jI rule))] := hl
  have ftc : 0 ≤ X 0 0 3 ∧ X 0 0 3 ≤ 30 := hR 0 0 3
  have fty : 0 ≤ X 0 0 1 ∧ X 0 0 1 ≤ 8 := hR 0 0 1
  have hct : cnt 19 = X 0 0 1 := hCI.2.2.2.1.1
  have hfj : 0 ≤ X 29 0 3 ∧ X 29 0 3 ≤ 4 := hR 29 0 3
  have hfn : 0 ≤ X 29 0 1 ∧ X 29 0 1 ≤ 80 := hR 29 0 1
  refine lv_aload_n hx hb dX8_fillField_0 rfl (lv_at hl 1 rfl) ?_
  refine x_getr (jz := 0) hx hb hf6 hw (by omega) (by omega) sl_15_0 rfl lk97 dX8_fillField_1 (fun y1 => ?_) (fun r2 y1 gr2 lr2 => ?_)
  · exfalso
    exact absurd y1 (hCI.2.2.2.2.1 x (by omega) (by omega))
  · refine lv_aload_n hx hb dX8_fillField_4 rfl (lv_at hl 2 rfl) ?_
    refine x_geto hx hb hf4 hw (by omega) (by omega) sl_7_3 lk224 dX8_fillField_5 ?_
    refine lv_iload_n hx hb dX8_fillField_8 rfl (lv_at hl 3 rfl) ?_
    refine x_iald hx hb hK.1 hw (by omega) (by omega) ar_10 (len_E ar_10 (by first | exact Nat.ne_of_beq_eq_false rfl | decide)) (by omega) (by omega) (by omega) dX8_fillField_9 ?_
    have f3 : 0 ≤ X 10 g slot ∧ X 10 g slot ≤ 19 := hR 10 g slot
    refine gos_i (run_V (As := [.int (jI (X 10 g slot))]) (rest := []) hx hb hml hown hts (c_X7_fieldNamed l D tc base ad cnt X Y ln hR hFx hLn r2 (X 10 g slot) (by omega) (by omega)) (cwV 1 hts gX8_fillField_X7_fieldNamed rfl rfl rfl (by first | exact hd_X7_fieldNamed | decide +kernel) ⟨Nat.le_of_ble_eq_true rfl, Nat.le_of_ble_eq_true rfl⟩) hK hw (by first | exact Int.le_refl 0 | omega) (by first | exact zlt hc19 | omega) sl_19_0 rfl rfl hl.1 rfl (Nat.le_of_ble_eq_true rfl) dX8_fillField_10 ⟨(by show _ ≤ (2 : Nat); omega), (by show _ ≤ (14 : Nat); omega)⟩) hS (fun z4 u5 H locs p6 hw hS => ?_)
    obtain ⟨eu5, p6⟩ := p6
    subst eu5
    refine lv_istore (lv' := [(6, .int (jI z4)), (0, .ref (ad 0 0)), (1, .ref (ad 15 x)), (2, .ref (ad 7 g)), (3, .int (jI slot)), (4, .int (jI f)), (5, .int (jI rule))]) hx hb dX8_fillField_13 hl (by decide) rfl (fun ls hl => ?_)
    refine lv_iload hx hb dX8_fillField_15 (lv_at hl 0 rfl) ?_
    refine lv_iconst (v := jI (-1)) hx hb dX8_fillField_17 rfl ?_
    refine x_icmp_ne (tgt := 35) hx hb (by omega) (by omega) dX8_fillField_18 (by decide) (fun c7 => ?_) (fun c7 => ?_)
    · refine lv_aload_n hx hb dX8_fillField_35 rfl (lv_at hl 2 rfl) ?_
      refine x_getr (jz := 0) hx hb hf6 hw (by omega) (by omega) sl_15_0 rfl lk97 dX8_fillField_36 (fun y8 => ?_) (fun r9 y8 gr9 lr9 => ?_)
      · exfalso
        rw [y1] at y8; cases y8
      · have er9 : r9 = r2 := by rw [y1] at y8; cases y8; rfl
        rw [er9]
        refine x_geto hx hb hf7 hw (by omega) (by omega) sl_19_3 lk135 dX8_fillField_39 ?_
        refine lv_iload hx hb dX8_fillField_42 (lv_at hl 0 rfl) ?_
        refine x_iald hx hb hK.1 hw (by omega) (by omega) ar_21 (len_E ar_21 (by first | exact Nat.ne_of_beq_eq_false rfl | decide)) (by omega) (by omega) (by omega) dX8_fillField_44 ?_
        have f10 : 0 ≤ X 21 r2 z4 ∧ X 21 r2 z4 ≤ 5 := hR 21 r2 z4
        refine lv_istore (lv' := [(7, .int (jI (X 21 r2 z4))), (6, .int (jI z4)), (0, .ref (ad 0 0)), (1, .ref (ad 15 x)), (2, .ref (ad 7 g)), (3, .int (jI slot)), (4, .int (jI f)), (5, .int (jI rule))]) hx hb dX8_fillField_45 hl (by decide) rfl (fun ls hl => ?_)
        refine lv_aload_n hx hb dX8_fillField_47 rfl (lv_at hl 4 rfl) ?_
        refine x_geto hx hb hf4 hw (by omega) (by omega) sl_7_4 lk341 dX8_fillField_48 ?_
        refine lv_iload_n hx hb dX8_fillField_51 rfl (lv_at hl 5 rfl) ?_
        refine x_iald hx hb hK.1 hw (by omega) (by omega) ar_11 (len_E ar_11 (by first | exact Nat.ne_of_beq_eq_false rfl | decide)) (by omega) (by omega) (by omega) dX8_fillField_52 ?_
        have f11 : 0 ≤ X 11 g slot ∧ X 11 g slot ≤ 5 := hR 11 g slot
        refine lv_iload hx hb dX8_fillField_53 (lv_at hl 0 rfl) ?_
        refine gos_i (run_S (As := [.int (jI (X 11 g slot)), .int (jI (X 21 r2 z4))]) (rest := []) hx hb hml hown hts (c_X8_mayCome2 l D tc base ad cnt X Y ln (X 11 g slot) (X 21 r2 z4) (by omega) (by omega)) (cwS 2 hts gX8_fillField_X8_mayCome rfl rfl rfl (by first | exact hd_X8_mayCome | decide +kernel) ⟨Nat.le_of_ble_eq_true rfl, Nat.le_of_ble_eq_true rfl⟩) hK hw rfl hl.1 rfl (Nat.le_of_ble_eq_true rfl) dX8_fillField_55 ⟨(by show _ ≤ (2 : Nat); omega), (by show _ ≤ (14 : Nat); omega)⟩) hS (fun z12 u13 H locs p14 hw hS => ?_)
        obtain ⟨eu13, p14⟩ := p14
        subst eu13
        rcases p14 with ⟨ez12, p14⟩ | ⟨ez12, p14⟩
        · subst ez12
          refine x_if_neT (tgt := 64) hx hb (by omega) (by decide) dX8_fillField_58 (by decide) ?_
          refine lv_aload_n hx hb dX8_fillField_64 rfl (lv_at hl 4 rfl) ?_
          refine x_geto hx hb hf4 hw (by omega) (by omega) sl_7_5 lk342 dX8_fillField_65 ?_
          refine lv_iload_n hx hb dX8_fillField_68 rfl (lv_at hl 5 rfl) ?_
          refine x_lald hx hb hK.1 hw (by omega) (by omega) ar_12 (len_E ar_12 (by first | exact Nat.ne_of_beq_eq_false rfl | decide)) (by omega) (by omega) (by omega) dX8_fillField_69 ?_
          have f15 : (-9223372036854775808) ≤ X 12 g slot ∧ X 12 g slot ≤ 9223372036854775807 := hR 12 g slot
          refine lv_lstore (lv' := [(8, .long (jL (X 12 g slot))), (7, .int (jI (X 21 r2 z4))), (6, .int (jI z4)), (0, .ref (ad 0 0)), (1, .ref (ad 15 x)), (2, .ref (ad 7 g)), (3, .int (jI slot)), (4, .int (jI f)), (5, .int (jI rule))]) hx hb dX8_fillField_70 hl (by decide) rfl (fun ls hl => ?_)
          refine lv_iload hx hb dX8_fillField_72 (lv_at hl 1 rfl) ?_
          refine lv_iconst (v := jI 1) hx hb dX8_fillField_74 rfl ?_
          refine x_icmp_ne (tgt := 111) hx hb (by omega) (by omega) dX8_fillField_75 (by decide) (fun c16 => ?_) (fun c16 => ?_)
          · refine lv_iload hx hb dX8_fillField_111 (lv_at hl 1 rfl) ?_
            refine gos_i (run_S (As := [.int (jI (X 21 r2 z4))]) (rest := []) hx hb hml hown hts (c_X8_isRowLane l D tc base ad cnt X Y ln (X 21 r2 z4) (by omega)) (cwS 1 hts gX8_fillField_X8_isRowLane rfl rfl rfl (by first | exact hd_X8_isRowLane | decide +kernel) ⟨Nat.le_of_ble_eq_true rfl, Nat.le_of_ble_eq_true rfl⟩) hK hw rfl hl.1 rfl (Nat.le_of_ble_eq_true rfl) dX8_fillField_113 ⟨(by show _ ≤ (2 : Nat); omega), (by show _ ≤ (14 : Nat); omega)⟩) hS (fun z17 u18 H locs p19 hw hS => ?_)
            obtain ⟨eu18, p19⟩ := p19
            subst eu18
            rcases p19 with ⟨ez17, p19⟩ | ⟨ez17, p19⟩
            · subst ez17
              refine x_if_eqF (tgt := 152) hx hb (by omega) (by decide) dX8_fillField_116 (by decide) ?_
              refine lv_aload_n hx hb dX8_fillField_119 rfl (lv_at hl 4 rfl) ?_
              refine x_geto hx hb hf6 hw (by omega) (by omega) sl_15_2 lk158 dX8_fillField_120 ?_
              refine lv_iload hx hb dX8_fillField_123 (lv_at hl 2 rfl) ?_
              refine lv_lload hx hb dX8_fillField_125 (lv_at hl 0 rfl) ?_
              refine lv_ldc2 (v := jL (-1)) hx hb hown (hts (.constantLong RX8 88 (-1)) (by first | exact gj_X8_fillField_0 _ (gp_4 (gp_1 gp_h)) | decide +kernel)) dX8_fillField_127 ?_
              refine x_lcmp hx hb (by omega) (by omega) dX8_fillField_130 ?_
              obtain ⟨z20, ez20⟩ : ∃ y : Int, y = cmpZ (X 12 g slot) (-1) := ⟨_, rfl⟩
              rw [← ez20]
              have gz20 : (z20 < 0 ↔ ((X 12 g slot) : Int) < (-1)) ∧ (z20 = 0 ↔ ((X 12 g slot) : Int) = (-1)) ∧ -1 ≤ z20 ∧ z20 ≤ 1 := by rw [ez20]; exact ⟨cmpZ_lt, cmpZ_eq, (cmpZ_r _ _).1, (cmpZ_r _ _).2⟩
              clear ez20
              refine x_if_ne (tgt := 138) hx hb (by omega) dX8_fillField_131 (by decide) (fun c21 => ?_) (fun c21 => ?_)
              · replace c21 := cz_neT gz20 c21
                clear gz20
                have hv9 := hv (by omega)
                refine lv_aload_n hx hb dX8_fillField_138 rfl (lv_at hl 3 rfl) ?_
                refine lv_aload_n hx hb dX8_fillField_139 rfl (lv_at hl 5 rfl) ?_
                refine lv_lload hx hb dX8_fillField_140 (lv_at hl 0 rfl) ?_
                refine x_l2i hx hb dX8_fillField_142 ?_
                refine lv_iload hx hb dX8_fillField_143 (lv_at hl 1 rfl) ?_
                refine gos_r (run_V (As := [.ref (ad 7 g), .int (jI (X 12 g slot)), .int (jI (X 21 r2 z4))]) (rest := [.int (jI z4), .ref (ad 17 x)]) hx hb hml hown hts (c_X8_rowPutBack l D tc base ad cnt X Y ln hR hFx hLn hCI hOw hN g (X 12 g slot) (X 21 r2 z4) (by omega) (by omega) (by omega)) (cwV 3 hts gX8_fillField_X8_rowPutBack rfl rfl rfl (by first | exact hd_X8_rowPutBack | decide +kernel) ⟨Nat.le_of_ble_eq_true rfl, Nat.le_of_ble_eq_true rfl⟩) hK hw (by first | exact Int.le_refl 0 | omega) (by first | exact zlt hc0 | omega) sl_0_0 rfl rfl hl.1 rfl (Nat.le_of_ble_eq_true rfl) dX8_fillField_145 ⟨(by show _ ≤ (2 : Nat); omega), (by show _ ≤ (14 : Nat); omega)⟩) hS (fun u23 H locs p24 hw hS => ?_) (fun z22 u23 H locs p24 hw hS => ?_)
                · obtain ⟨ad, cnt, X25, Y26, ln, eu23, hE27, hFx, hOw, hLn, hRX25, hG28, hJ29, hCIX25, p24, hrpX25⟩ := p24
                  subst eu23
                  obtain ⟨r9, e9, -⟩ := p24
                  cases e9
                · obtain ⟨ad, cnt, X30, Y31, ln, eu23, hE32, hFx, hOw, hLn, hRX30, hG33, hJ34, hCIX30, p24, hrpX30⟩ := p24
                  subst eu23
                  have hFX30 : Frm [1600, 2602, 2700] X X30 := Frm.tr Frm.rf (Frm.mono hG33 (by first | exact nls_of rfl | decide))
                  have hHY31 : Frm [1700, 600] Y Y31 := Frm.tr Frm.rf (Frm.mono hJ34 (by first | exact nls_of rfl | decide))
                  have hz22 : 0 ≤ z22 ∧ z22 < cnt 26 := by obtain ⟨r9, e9, h1, h2⟩ := p24; cases e9; exact ⟨h1, h2⟩
                  have hE := Ext.tr hE hE32
                  have hm35 := hE32.2.1 19
                  have hm36 := hE32.2.1 25
                  have hm37 := hE32.2.1 26
                  have hN : 0 ≤ cnt 25 ∧ 0 ≤ cnt 26 := by omega
                  have ha38 := hE32.1 0 0 (by omega) (by omega)
                  have ha39 := hE32.1 15 x (by omega) (by omega)
                  have ha40 := hE32.1 7 g (by omega) (by omega)
                  have ha41 := hE32.1 17 x (by omega) (by omega)
                  have hc0 : cnt 0 = 1 := hFx.at 0 1 (by decide)
                  have hc6 : cnt 6 = 1 := hFx.at 6 1 (by decide)
                  have hc7 : cnt 7 = 6 := hFx.at 7 6 (by decide)
                  have hc10 : cnt 10 = 6 := hFx.at 10 6 (by decide)
                  have hc11 : cnt 11 = 6 := hFx.at 11 6 (by decide)
                  have hc12 : cnt 12 = 6 := hFx.at 12 6 (by decide)
                  have hc15 : cnt 15 = 30 := hFx.at 15 30 (by decide)
                  have hc16 : cnt 16 = 30 := hFx.at 16 30 (by decide)
                  have hc17 : cnt 17 = 30 := hFx.at 17 30 (by decide)
                  have hc21 : cnt 21 = cnt 19 := hFx.2.1 21 (by decide)
                  have hc27 : cnt 27 = cnt 26 := hFx.2.2
                  have hl : lv_has ls 10 [(8, .long (jL (X 12 g slot))), (7, .int (jI (X 21 r2 z4))), (6, .int (jI z4)), (0, .ref (ad 0 0)), (1, .ref (ad 15 x)), (2, .ref (ad 7 g)), (3, .int (jI slot)), (4, .int (jI f)), (5, .int (jI rule))] := by rw [ha38, ha39, ha40]; exact hl
                  refine W.eq (g2 := F0 m 148 ls [.ref (ad 26 z22), .int (jI z4), .ref (ad 17 x)]) (by first | rfl | (rw [ha41]; done) | (rw [ha41]; rfl)) ?_
                  refine x_aast hx hb hK.1 hw hS (by omega) (by omega) ar_17 rfl rfl sl_26_0 (len_E ar_17 (by first | exact Nat.ne_of_beq_eq_false rfl | decide)) (by omega) (by omega) (by omega) (by omega) (by omega) dX8_fillField_148 (fun H locs hw hS => ?_)
                  obtain ⟨Y42, hY42⟩ : ∃ Yq, Yq = u3 Y31 17 x z4 (some z22) := ⟨_, rfl⟩
                  rw [← hY42] at hw
                  have hVY42 : Y42 17 x z4 = (some z22) := by rw [hY42]; exact u3_s _ _ _ _ _
                  have hHY42 : Frm [1700, 600] Y Y42 := by rw [hY42]; exact Frm.set hHY31 (show 1700 ∈ [1700, 600] by first | exact nlm_in rfl | decide)
                  refine lv_goto (tgt := 192) hx hb dX8_fillField_149 (by decide) ?_
                  refine lv_iconst (v := jI 0) hx hb dX8_fillField_192 rfl ?_
                  rw [hQ9]
                  refine ret_i (mc := 2) (ms := 14) hx hb hr hlocks hw hS (by first | exact Nat.le_of_ble_eq_true rfl | omega) (by first | exact Nat.le_of_ble_eq_true rfl | omega) dX8_fillField_193 ?_
                  have q43 : Frm [1700] Y31 Y42 := by rw [hY42]; exact Frm.set Frm.rf (show 1700 ∈ [1700] by first | exact nlm_in rfl | decide)
                  have hCq44 : CInv cnt X30 Y42 ln := cinv_frm (M := []) (N := [1700]) hCIX30 Frm.rf q43 (by decide) (by decide)
                  have ht45o : toC X Y x g slot = z4 := by unfold toC; rw [tyo_some y1]; exact (p6.2.2.2).symm
                  have ht45l : tlC X Y x g slot = X 21 r2 z4 := by unfold tlC; rw [ht45o, tyo_some y1]
                  have htw46 : twC X Y x g slot = X 12 g slot := (by unfold twC bdC; rw [ht45l]; (try delta Hid at *); (repeat' split) <;> omega)
                  exact ⟨ad, cnt, X30, Y42, ln, rfl, hE9 _ _ _ hE, hFx, hOw, hLn, hRX30, hFX30, hHY42, hCq44, by omega, (by unfold fvC; rw [ht45o, ht45l]; exact (fvF_0 (by omega) (by (try delta Hid at *); omega) (by unfold bdC andZ; (try delta Hid at *); split <;> omega)).symm), fun q => (by exfalso; omega), fun _ => Or.inr (Or.inr (Or.inr ⟨(by rw [ht45o]; omega), (by rw [ht45l]; (try delta Hid at *); omega), (by rw [htw46]; omega), (by obtain ⟨q9, q8, q7⟩ := hrpX30; exact ⟨Y31, q9, (by first | (rw [htw46, ht45l]; exact q7) | (exfalso; (try delta Hid at *); omega)), (by rw [ht45o, ← q8]; exact hY42)⟩)⟩))⟩
              · replace c21 := cz_neF gz20 c21
                clear gz20
                refine lv_null hx hb dX8_fillField_134 ?_
                refine lv_goto (tgt := 148) hx hb dX8_fillField_135 (by decide) ?_
                refine x_aastn hx hb hK.1 hw hS (by omega) (by omega) ar_17 rfl (len_E ar_17 (by first | exact Nat.ne_of_beq_eq_false rfl | decide)) (by omega) (by omega) (by omega) dX8_fillField_148 (fun H locs hw hS => ?_)
                obtain ⟨Y47, hY47⟩ : ∃ Yq, Yq = u3 Y 17 x z4 none := ⟨_, rfl⟩
                rw [← hY47] at hw
                have hVY47 : Y47 17 x z4 = none := by rw [hY47]; exact u3_s _ _ _ _ _
                have hHY47 : Frm [1700, 600] Y Y47 := by rw [hY47]; exact Frm.set Frm.rf (show 1700 ∈ [1700, 600] by first | exact nlm_in rfl | decide)
                refine lv_goto (tgt := 192) hx hb dX8_fillField_149 (by decide) ?_
                refine lv_iconst (v := jI 0) hx hb dX8_fillField_192 rfl ?_
                rw [hQ9]
                refine ret_i (mc := 2) (ms := 14) hx hb hr hlocks hw hS (by first | exact Nat.le_of_ble_eq_true rfl | omega) (by first | exact Nat.le_of_ble_eq_true rfl | omega) dX8_fillField_193 ?_
                have q48 : Frm [1700] Y Y47 := by rw [hY47]; exact Frm.set Frm.rf (show 1700 ∈ [1700] by first | exact nlm_in rfl | decide)
                have hCq49 : CInv cnt X Y47 ln := cinv_frm (M := []) (N := [1700]) hCI Frm.rf q48 (by decide) (by decide)
                have ht50o : toC X Y x g slot = z4 := by unfold toC; rw [tyo_some y1]; exact (p6.2.2.2).symm
                have ht50l : tlC X Y x g slot = X 21 r2 z4 := by unfold tlC; rw [ht50o, tyo_some y1]
                have htw51 : twC X Y x g slot = -1 := (by unfold twC bdC; rw [ht50l]; (try delta Hid at *); (repeat' split) <;> omega)
                exact ⟨ad, cnt, X, Y47, ln, rfl, hE9 _ _ _ hE, hFx, hOw, hLn, hR, Frm.rf, hHY47, hCq49, by omega, (by unfold fvC; rw [ht50o, ht50l]; exact (fvF_0 (by omega) (by (try delta Hid at *); omega) (by unfold bdC andZ; (try delta Hid at *); split <;> omega)).symm), fun q => (by exfalso; omega), fun _ => Or.inr (Or.inr (Or.inl ⟨(by rw [ht50o]; omega), (by rw [ht50l]; (try delta Hid at *); omega), htw51, rfl, rfl, (by rw [ht50o]; exact hY47), rfl⟩))⟩
            · subst ez17
              refine x_if_eqT (tgt := 152) hx hb (by omega) (by decide) dX8_fillField_116 (by decide) ?_
              refine lv_iload hx hb dX8_fillField_152 (lv_at hl 1 rfl) ?_
              refine lv_iconst (v := jI 2) hx hb dX8_fillField_154 rfl ?_
              refine x_icmp_ne (tgt := 183) hx hb (by omega) (by omega) dX8_fillField_155 (by decide) (fun c52 => ?_) (fun c52 => ?_)
              · refine lv_aload_n hx hb dX8_fillField_183 rfl (lv_at hl 4 rfl) ?_
                refine x_geto hx hb hf6 hw (by omega) (by omega) sl_15_1 lk193 dX8_fillField_184 ?_
                refine lv_iload hx hb dX8_fillField_187 (lv_at hl 2 rfl) ?_
                refine lv_lload hx hb dX8_fillField_189 (lv_at hl 0 rfl) ?_
                refine x_last hx hb hK.1 hw hS (by omega) (by omega) ar_16 (len_E ar_16 (by first | exact Nat.ne_of_beq_eq_false rfl | decide)) (by omega) (by omega) (by omega) dX8_fillField_191 (fun H locs hw hS => ?_)
                obtain ⟨X53, hX53⟩ : ∃ Xq, Xq = u3 X 16 x z4 (X 12 g slot) := ⟨_, rfl⟩
                rw [← hX53] at hw
                have hRX53 : Rng X53 := by rw [hX53]; exact rng_set hR (show (-9223372036854775808) ≤ (X 12 g slot) ∧ (X 12 g slot) ≤ 9223372036854775807 by omega)
                have hVX53 : X53 16 x z4 = (X 12 g slot) := by rw [hX53]; exact u3_s _ _ _ _ _
                have hFX53 : Frm [1600, 2602, 2700] X X53 := by rw [hX53]; exact Frm.set Frm.rf (show 1600 ∈ [1600, 2602, 2700] by first | exact nlm_in rfl | decide)
                refine lv_iconst (v := jI 0) hx hb dX8_fillField_192 rfl ?_
                rw [hQ9]
                refine ret_i (mc := 2) (ms := 14) hx hb hr hlocks hw hS (by first | exact Nat.le_of_ble_eq_true rfl | omega) (by first | exact Nat.le_of_ble_eq_true rfl | omega) dX8_fillField_193 ?_
                have q54 : Frm [1600] X X53 := by rw [hX53]; exact Frm.set Frm.rf (show 1600 ∈ [1600] by first | exact nlm_in rfl | decide)
                have hCq55 : CInv cnt X53 Y ln := cinv_frm (M := [1600]) (N := []) hCI q54 Frm.rf (by decide) (by decide)
                have ht56o : toC X Y x g slot = z4 := by unfold toC; rw [tyo_some y1]; exact (p6.2.2.2).symm
                have ht56l : tlC X Y x g slot = X 21 r2 z4 := by unfold tlC; rw [ht56o, tyo_some y1]
                have htw57 : twC X Y x g slot = (X 12 g slot) := (by unfold twC bdC; rw [ht56l]; (try delta Hid at *); (repeat' split) <;> omega)
                exact ⟨ad, cnt, X53, Y, ln, rfl, hE9 _ _ _ hE, hFx, hOw, hLn, hRX53, hFX53, Frm.rf, hCq55, by omega, (by unfold fvC; rw [ht56o, ht56l]; exact (fvF_0 (by omega) (by (try delta Hid at *); omega) (by unfold bdC andZ; (try delta Hid at *); split <;> omega)).symm), fun q => (by exfalso; omega), fun _ => Or.inr (Or.inl ⟨(by rw [ht56o]; omega), (by rw [ht56l]; (try delta Hid at *); omega), rfl, (by rw [ht56o, ht56l, htw57, if_neg (fun q9 => by omega)]; exact hX53), rfl, rfl⟩)⟩
              · refine lv_lload hx hb dX8_fillField_158 (lv_at hl 0 rfl) ?_
                refine lv_ldc2 (v := jL (-1)) hx hb hown (hts (.constantLong RX8 88 (-1)) (by first | exact gj_X8_fillField_0 _ (gp_4 (gp_1 gp_h)) | decide +kernel)) dX8_fillField_160 ?_
                refine x_lcmp hx hb (by omega) (by omega) dX8_fillField_163 ?_
                obtain ⟨z58, ez58⟩ : ∃ y : Int, y = cmpZ (X 12 g slot) (-1) := ⟨_, rfl⟩
                rw [← ez58]
                have gz58 : (z58 < 0 ↔ ((X 12 g slot) : Int) < (-1)) ∧ (z58 = 0 ↔ ((X 12 g slot) : Int) = (-1)) ∧ -1 ≤ z58 ∧ z58 ≤ 1 := by rw [ez58]; exact ⟨cmpZ_lt, cmpZ_eq, (cmpZ_r _ _).1, (cmpZ_r _ _).2⟩
                clear ez58
                refine x_if_eq (tgt := 183) hx hb (by omega) dX8_fillField_164 (by decide) (fun c59 => ?_) (fun c59 => ?_)
                · replace c59 := cz_eqT gz58 c59
                  clear gz58
                  refine lv_aload_n hx hb dX8_fillField_183 rfl (lv_at hl 4 rfl) ?_
                  refine x_geto hx hb hf6 hw (by omega) (by omega) sl_15_1 lk193 dX8_fillField_184 ?_
                  refine lv_iload hx hb dX8_fillField_187 (lv_at hl 2 rfl) ?_
                  refine lv_lload hx hb dX8_fillField_189 (lv_at hl 0 rfl) ?_
                  refine x_last hx hb hK.1 hw hS (by omega) (by omega) ar_16 (len_E ar_16 (by first | exact Nat.ne_of_beq_eq_false rfl | decide)) (by omega) (by omega) (by omega) dX8_fillField_191 (fun H locs hw hS => ?_)
                  obtain ⟨X60, hX60⟩ : ∃ Xq, Xq = u3 X 16 x z4 (X 12 g slot) := ⟨_, rfl⟩
                  rw [← hX60] at hw
                  have hRX60 : Rng X60 := by rw [hX60]; exact rng_set hR (show (-9223372036854775808) ≤ (X 12 g slot) ∧ (X 12 g slot) ≤ 9223372036854775807 by omega)
                  have hVX60 : X60 16 x z4 = (X 12 g slot) := by rw [hX60]; exact u3_s _ _ _ _ _
                  have hFX60 : Frm [1600, 2602, 2700] X X60 := by rw [hX60]; exact Frm.set Frm.rf (show 1600 ∈ [1600, 2602, 2700] by first | exact nlm_in rfl | decide)
                  refine lv_iconst (v := jI 0) hx hb dX8_fillField_192 rfl ?_
                  rw [hQ9]
                  refine ret_i (mc := 2) (ms := 14) hx hb hr hlocks hw hS (by first | exact Nat.le_of_ble_eq_true rfl | omega) (by first | exact Nat.le_of_ble_eq_true rfl | omega) dX8_fillField_193 ?_
                  have q61 : Frm [1600] X X60 := by rw [hX60]; exact Frm.set Frm.rf (show 1600 ∈ [1600] by first | exact nlm_in rfl | decide)
                  have hCq62 : CInv cnt X60 Y ln := cinv_frm (M := [1600]) (N := []) hCI q61 Frm.rf (by decide) (by decide)
                  have ht63o : toC X Y x g slot = z4 := by unfold toC; rw [tyo_some y1]; exact (p6.2.2.2).symm
                  have ht63l : tlC X Y x g slot = X 21 r2 z4 := by unfold tlC; rw [ht63o, tyo_some y1]
                  have htw64 : twC X Y x g slot = (X 12 g slot) := (by unfold twC bdC; rw [ht63l]; (try delta Hid at *); (repeat' split) <;> omega)
                  exact ⟨ad, cnt, X60, Y, ln, rfl, hE9 _ _ _ hE, hFx, hOw, hLn, hRX60, hFX60, Frm.rf, hCq62, by omega, (by unfold fvC; rw [ht63o, ht63l]; exact (fvF_0 (by omega) (by (try delta Hid at *); omega) (by unfold bdC andZ; (try delta Hid at *); split <;> omega)).symm), fun q => (by exfalso; omega), fun _ => Or.inr (Or.inl ⟨(by rw [ht63o]; omega), (by rw [ht63l]; (try delta Hid at *); omega), rfl, (by rw [ht63o, ht63l, htw64, if_neg (fun q9 => by omega)]; exact hX60), rfl, rfl⟩)⟩
                · replace c59 := cz_eqF gz58 c59
                  clear gz58
                  have hv9 := hv (by omega)
                  refine lv_aload_n hx hb dX8_fillField_167 rfl (lv_at hl 4 rfl) ?_
                  refine x_geto hx hb hf6 hw (by omega) (by omega) sl_15_1 lk193 dX8_fillField_168 ?_
                  refine lv_iload hx hb dX8_fillField_171 (lv_at hl 2 rfl) ?_
                  refine lv_iload hx hb dX8_fillField_173 (lv_at hl 7 rfl) ?_
                  refine x_i2l hx hb (by omega) dX8_fillField_175 ?_
                  refine lv_lload hx hb dX8_fillField_176 (lv_at hl 0 rfl) ?_
                  refine x_ladd hx hb dX8_fillField_178 ?_
                  refine x_last hx hb hK.1 hw hS (by omega) (by omega) ar_16 (len_E ar_16 (by first | exact Nat.ne_of_beq_eq_false rfl | decide)) (by omega) (by omega) (by omega) dX8_fillField_179 (fun H locs hw hS => ?_)
                  obtain ⟨X65, hX65⟩ : ∃ Xq, Xq = u3 X 16 x z4 (f + (X 12 g slot)) := ⟨_, rfl⟩
                  rw [← hX65] at hw
                  have hRX65 : Rng X65 := by rw [hX65]; exact rng_set hR (show (-9223372036854775808) ≤ (f + (X 12 g slot)) ∧ (f + (X 12 g slot)) ≤ 9223372036854775807 by omega)
                  have hVX65 : X65 16 x z4 = (f + (X 12 g slot)) := by rw [hX65]; exact u3_s _ _ _ _ _
                  have hFX65 : Frm [1600, 2602, 2700] X X65 := by rw [hX65]; exact Frm.set Frm.rf (show 1600 ∈ [1600, 2602, 2700] by first | exact nlm_in rfl | decide)
                  refine lv_goto (tgt := 192) hx hb dX8_fillField_180 (by decide) ?_
                  refine lv_iconst (v := jI 0) hx hb dX8_fillField_192 rfl ?_
                  rw [hQ9]
                  refine ret_i (mc := 2) (ms := 14) hx hb hr hlocks hw hS (by first | exact Nat.le_of_ble_eq_true rfl | omega) (by first | exact Nat.le_of_ble_eq_true rfl | omega) dX8_fillField_193 ?_
                  have q66 : Frm [1600] X X65 := by rw [hX65]; exact Frm.set Frm.rf (show 1600 ∈ [1600] by first | exact nlm_in rfl | decide)
                  have hCq67 : CInv cnt X65 Y ln := cinv_frm (M := [1600]) (N := []) hCI q66 Frm.rf (by decide) (by decide)
                  have ht68o : toC X Y x g slot = z4 := by unfold toC; rw [tyo_some y1]; exact (p6.2.2.2).symm
                  have ht68l : tlC X Y x g slot = X 21 r2 z4 := by unfold tlC; rw [ht68o, tyo_some y1]
                  have htw69 : twC X Y x g slot = X 12 g slot := (by unfold twC bdC; rw [ht68l]; (try delta Hid at *); (repeat' split) <;> omega)
                  exact ⟨ad, cnt, X65, Y, ln, rfl, hE9 _ _ _ hE, hFx, hOw, hLn, hRX65, hFX65, Frm.rf, hCq67, by omega, (by unfold fvC; rw [ht68o, ht68l]; exact (fvF_0 (by omega) (by (try delta Hid at *); omega) (by unfold bdC andZ; (try delta Hid at *); split <;> omega)).symm), fun q => (by exfalso; omega), fun _ => Or.inr (Or.inl ⟨(by rw [ht68o]; omega), (by rw [ht68l]; (try delta Hid at *); omega), rfl, (by first | (rw [ht68o, ht68l, htw69, if_pos ⟨by omega, by omega⟩]; exact hX65) | (exfalso; (try delta Hid at *); omega)), rfl, rfl⟩)⟩
          · refine lv_lload hx hb dX8_fillField_78 (lv_at hl 0 rfl) ?_
            refine lv_ldc2 (v := jL (-1)) hx hb hown (hts (.constantLong RX8 88 (-1)) (by first | exact gj_X8_fillField_0 _ (gp_4 (gp_1 gp_h)) | decide +kernel)) dX8_fillField_80 ?_
            refine x_lcmp hx hb (by omega) (by omega) dX8_fillField_83 ?_
            obtain ⟨z70, ez70⟩ : ∃ y : Int, y = cmpZ (X 12 g slot) (-1) := ⟨_, rfl⟩
            rw [← ez70]
            have gz70 : (z70 < 0 ↔ ((X 12 g slot) : Int) < (-1)) ∧ (z70 = 0 ↔ ((X 12 g slot) : Int) = (-1)) ∧ -1 ≤ z70 ∧ z70 ≤ 1 := by rw [ez70]; exact ⟨cmpZ_lt, cmpZ_eq, (cmpZ_r _ _).1, (cmpZ_r _ _).2⟩
            clear ez70
            refine x_if_eq (tgt := 111) hx hb (by omega) dX8_fillField_84 (by decide) (fun c71 => ?_) (fun c71 => ?_)
            · replace c71 := cz_eqT gz70 c71
              clear gz70
              refine lv_iload hx hb dX8_fillField_111 (lv_at hl 1 rfl) ?_
              refine gos_i (run_S (As := [.int (jI (X 21 r2 z4))]) (rest := []) hx hb hml hown hts (c_X8_isRowLane l D tc base ad cnt X Y ln (X 21 r2 z4) (by omega)) (cwS 1 hts gX8_fillField_X8_isRowLane rfl rfl rfl (by first | exact hd_X8_isRowLane | decide +kernel) ⟨Nat.le_of_ble_eq_true rfl, Nat.le_of_ble_eq_true rfl⟩) hK hw rfl hl.1 rfl (Nat.le_of_ble_eq_true rfl) dX8_fillField_113 ⟨(by show _ ≤ (2 : Nat); omega), (by show _ ≤ (14 : Nat); omega)⟩) hS (fun z72 u73 H locs p74 hw hS => ?_)
              obtain ⟨eu73, p74⟩ := p74
              subst eu73
              rcases p74 with ⟨ez72, p74⟩ | ⟨ez72, p74⟩
              · subst ez72
                refine x_if_eqF (tgt := 152) hx hb (by omega) (by decide) dX8_fillField_116 (by decide) ?_
                refine lv_aload_n hx hb dX8_fillField_119 rfl (lv_at hl 4 rfl) ?_
                refine x_geto hx hb hf6 hw (by omega) (by omega) sl_15_2 lk158 dX8_fillField_120 ?_
                refine lv_iload hx hb dX8_fillField_123 (lv_at hl 2 rfl) ?_
                refine lv_lload hx hb dX8_fillField_125 (lv_at hl 0 rfl) ?_
                refine lv_ldc2 (v := jL (-1)) hx hb hown (hts (.constantLong RX8 88 (-1)) (by first | exact gj_X8_fillField_0 _ (gp_4 (gp_1 gp_h)) | decide +kernel)) dX8_fillField_127 ?_
                refine x_lcmp hx hb (by omega) (by omega) dX8_fillField_130 ?_
                obtain ⟨z75, ez75⟩ : ∃ y : Int, y = cmpZ (X 12 g slot) (-1) := ⟨_, rfl⟩
                rw [← ez75]
                have gz75 : (z75 < 0 ↔ ((X 12 g slot) : Int) < (-1)) ∧ (z75 = 0 ↔ ((X 12 g slot) : Int) = (-1)) ∧ -1 ≤ z75 ∧ z75 ≤ 1 := by rw [ez75]; exact ⟨cmpZ_lt, cmpZ_eq, (cmpZ_r _ _).1, (cmpZ_r _ _).2⟩
                clear ez75
                refine x_if_ne (tgt := 138) hx hb (by omega) dX8_fillField_131 (by decide) (fun c76 => ?_) (fun c76 => ?_)
                · replace c76 := cz_neT gz75 c76
                  clear gz75
                  have hv9 := hv (by omega)
                  refine lv_aload_n hx hb dX8_fillField_138 rfl (lv_at hl 3 rfl) ?_
                  refine lv_aload_n hx hb dX8_fillField_139 rfl (lv_at hl 5 rfl) ?_
                  refine lv_lload hx hb dX8_fillField_140 (lv_at hl 0 rfl) ?_
                  refine x_l2i hx hb dX8_fillField_142 ?_
                  refine lv_iload hx hb dX8_fillField_143 (lv_at hl 1 rfl) ?_
                  refine gos_r (run_V (As := [.ref (ad 7 g), .int (jI (X 12 g slot)), .int (jI (X 21 r2 z4))]) (rest := [.int (jI z4), .ref (ad 17 x)]) hx hb hml hown hts (c_X8_rowPutBack l D tc base ad cnt X Y ln hR hFx hLn hCI hOw hN g (X 12 g slot) (X 21 r2 z4) (by omega) (by omega) (by omega)) (cwV 3 hts gX8_fillField_X8_rowPutBack rfl rfl rfl (by first | exact hd_X8_rowPutBack | decide +kernel) ⟨Nat.le_of_ble_eq_true rfl, Nat.le_of_ble_eq_true rfl⟩) hK hw (by first | exact Int.le_refl 0 | omega) (by first | exact zlt hc0 | omega) sl_0_0 rfl rfl hl.1 rfl (Nat.le_of_ble_eq_true rfl) dX8_fillField_145 ⟨(by show _ ≤ (2 : Nat); omega), (by show _ ≤ (14 : Nat); omega)⟩) hS (fun u78 H locs p79 hw hS => ?_) (fun z77 u78 H locs p79 hw hS => ?_)
                  · obtain ⟨ad, cnt, X80, Y81, ln, eu78, hE82, hFx, hOw, hLn, hRX80, hG83, hJ84, hCIX80, p79, hrpX80⟩ := p79
                    subst eu78
                    obtain ⟨r9, e9, -⟩ := p79
                    cases e9
                  · obtain ⟨ad, cnt, X85, Y86, ln, eu78, hE87, hFx, hOw, hLn, hRX85, hG88, hJ89, hCIX85, p79, hrpX85⟩ := p79
                    subst eu78
                    have hFX85 : Frm [1600, 2602, 2700] X X85 := Frm.tr Frm.rf (Frm.mono hG88 (by first | exact nls_of rfl | decide))
                    have hHY86 : Frm [1700, 600] Y Y86 := Frm.tr Frm.rf (Frm.mono hJ89 (by first | exact nls_of rfl | decide))
                    have hz77 : 0 ≤ z77 ∧ z77 < cnt 26 := by obtain ⟨r9, e9, h1, h2⟩ := p79; cases e9; exact ⟨h1, h2⟩
                    have hE := Ext.tr hE hE87
                    have hm90 := hE87.2.1 19
                    have hm91 := hE87.2.1 25
                    have hm92 := hE87.2.1 26
                    have hN : 0 ≤ cnt 25 ∧ 0 ≤ cnt 26 := by omega
                    have ha93 := hE87.1 0 0 (by omega) (by omega)
                    have ha94 := hE87.1 15 x (by omega) (by omega)
                    have ha95 := hE87.1 7 g (by omega) (by omega)
                    have ha96 := hE87.1 17 x (by omega) (by omega)
                    have hc0 : cnt 0 = 1 := hFx.at 0 1 (by decide)
                    have hc6 : cnt 6 = 1 := hFx.at 6 1 (by decide)
                    have hc7 : cnt 7 = 6 := hFx.at 7 6 (by decide)
                    have hc10 : cnt 10 = 6 := hFx.at 10 6 (by decide)
                    have hc11 : cnt 11 = 6 := hFx.at 11 6 (by decide)
                    have hc12 : cnt 12 = 6 := hFx.at 12 6 (by decide)
                    have hc15 : cnt 15 = 30 := hFx.at 15 30 (by decide)
                    have hc16 : cnt 16 = 30 := hFx.at 16 30 (by decide)
                    have hc17 : cnt 17 = 30 := hFx.at 17 30 (by decide)
                    have hc21 : cnt 21 = cnt 19 := hFx.2.1 21 (by decide)
                    have hc27 : cnt 27 = cnt 26 := hFx.2.2
                    have hl : lv_has ls 10 [(8, .long (jL (X 12 g slot))), (7, .int (jI (X 21 r2 z4))), (6, .int (jI z4)), (0, .ref (ad 0 0)), (1, .ref (ad 15 x)), (2, .ref (ad 7 g)), (3, .int (jI slot)), (4, .int (jI f)), (5, .int (jI rule))] := by rw [ha93, ha94, ha95]; exact hl
                    refine W.eq (g2 := F0 m 148 ls [.ref (ad 26 z77), .int (jI z4), .ref (ad 17 x)]) (by first | rfl | (rw [ha96]; done) | (rw [ha96]; rfl)) ?_
                    refine x_aast hx hb hK.1 hw hS (by omega) (by omega) ar_17 rfl rfl sl_26_0 (len_E ar_17 (by first | exact Nat.ne_of_beq_eq_false rfl | decide)) (by omega) (by omega) (by omega) (by omega) (by omega) dX8_fillField_148 (fun H locs hw hS => ?_)
                    obtain ⟨Y97, hY97⟩ : ∃ Yq, Yq = u3 Y86 17 x z4 (some z77) := ⟨_, rfl⟩
                    rw [← hY97] at hw
                    have hVY97 : Y97 17 x z4 = (some z77) := by rw [hY97]; exact u3_s _ _ _ _ _
                    have hHY97 : Frm [1700, 600] Y Y97 := by rw [hY97]; exact Frm.set hHY86 (show 1700 ∈ [1700, 600] by first | exact nlm_in rfl | decide)
                    refine lv_goto (tgt := 192) hx hb dX8_fillField_149 (by decide) ?_
                    refine lv_iconst (v := jI 0) hx hb dX8_fillField_192 rfl ?_
                    rw [hQ9]
                    refine ret_i (mc := 2) (ms := 14) hx hb hr hlocks hw hS (by first | exact Nat.le_of_ble_eq_true rfl | omega) (by first | exact Nat.le_of_ble_eq_true rfl | omega) dX8_fillField_193 ?_
                    have q98 : Frm [1700] Y86 Y97 := by rw [hY97]; exact Frm.set Frm.rf (show 1700 ∈ [1700] by first | exact nlm_in rfl | decide)
                    have hCq99 : CInv cnt X85 Y97 ln := cinv_frm (M := []) (N := [1700]) hCIX85 Frm.rf q98 (by decide) (by decide)
                    have ht100o : toC X Y x g slot = z4 := by unfold toC; rw [tyo_some y1]; exact (p6.2.2.2).symm
                    have ht100l : tlC X Y x g slot = X 21 r2 z4 := by unfold tlC; rw [ht100o, tyo_some y1]
                    have htw101 : twC X Y x g slot = X 12 g slot := (by unfold twC bdC; rw [ht100l]; (try delta Hid at *); (repeat' split) <;> omega)
                    exact ⟨ad, cnt, X85, Y97, ln, rfl, hE9 _ _ _ hE, hFx, hOw, hLn, hRX85, hFX85, hHY97, hCq99, by omega, (by unfold fvC; rw [ht100o, ht100l]; exact (fvF_0 (by omega) (by (try delta Hid at *); omega) (by unfold bdC andZ; (try delta Hid at *); split <;> omega)).symm), fun q => (by exfalso; omega), fun _ => Or.inr (Or.inr (Or.inr ⟨(by rw [ht100o]; omega), (by rw [ht100l]; (try delta Hid at *); omega), (by rw [htw101]; omega), (by obtain ⟨q9, q8, q7⟩ := hrpX85; exact ⟨Y86, q9, (by first | (rw [htw101, ht100l]; exact q7) | (exfalso; (try delta Hid at *); omega)), (by rw [ht100o, ← q8]; exact hY97)⟩)⟩))⟩
                · replace c76 := cz_neF gz75 c76
                  clear gz75
                  refine lv_null hx hb dX8_fillField_134 ?_
                  refine lv_goto (tgt := 148) hx hb dX8_fillField_135 (by decide) ?_
                  refine x_aastn hx hb hK.1 hw hS (by omega) (by omega) ar_17 rfl (len_E ar_17 (by first | exact Nat.ne_of_beq_eq_false rfl | decide)) (by omega) (by omega) (by omega) dX8_fillField_148 (fun H locs hw hS => ?_)
                  obtain ⟨Y102, hY102⟩ : ∃ Yq, Yq = u3 Y 17 x z4 none := ⟨_, rfl⟩
                  rw [← hY102] at hw
                  have hVY102 : Y102 17 x z4 = none := by rw [hY102]; exact u3_s _ _ _ _ _
                  have hHY102 : Frm [1700, 600] Y Y102 := by rw [hY102]; exact Frm.set Frm.rf (show 1700 ∈ [1700, 600] by first | exact nlm_in rfl | decide)
                  refine lv_goto (tgt := 192) hx hb dX8_fillField_149 (by decide) ?_
                  refine lv_iconst (v := jI 0) hx hb dX8_fillField_192 rfl ?_
                  rw [hQ9]
                  refine ret_i (mc := 2) (ms := 14) hx hb hr hlocks hw hS (by first | exact Nat.le_of_ble_eq_true rfl | omega) (by first | exact Nat.le_of_ble_eq_true rfl | omega) dX8_fillField_193 ?_
                  have q103 : Frm [1700] Y Y102 := by rw [hY102]; exact Frm.set Frm.rf (show 1700 ∈ [1700] by first | exact nlm_in rfl | decide)
                  have hCq104 : CInv cnt X Y102 ln := cinv_frm (M := []) (N := [1700]) hCI Frm.rf q103 (by decide) (by decide)
                  have ht105o : toC X Y x g slot = z4 := by unfold toC; rw [tyo_some y1]; exact (p6.2.2.2).symm
                  have ht105l : tlC X Y x g slot = X 21 r2 z4 := by unfold tlC; rw [ht105o, tyo_some y1]
                  have htw106 : twC X Y x g slot = -1 := (by unfold twC bdC; rw [ht105l]; (try delta Hid at *); (repeat' split) <;> omega)
                  exact ⟨ad, cnt, X, Y102, ln, rfl, hE9 _ _ _ hE, hFx, hOw, hLn, hR, Frm.rf, hHY102, hCq104, by omega, (by unfold fvC; rw [ht105o, ht105l]; exact (fvF_0 (by omega) (by (try delta Hid at *); omega) (by unfold bdC andZ; (try delta Hid at *); split <;> omega)).symm), fun q => (by exfalso; omega), fun _ => Or.inr (Or.inr (Or.inl ⟨(by rw [ht105o]; omega), (by rw [ht105l]; (try delta Hid at *); omega), htw106, rfl, rfl, (by rw [ht105o]; exact hY102), rfl⟩))⟩
              · subst ez72
                refine x_if_eqT (tgt := 152) hx hb (by omega) (by decide) dX8_fillField_116 (by decide) ?_
                refine lv_iload hx hb dX8_fillField_152 (lv_at hl 1 rfl) ?_
                refine lv_iconst (v := jI 2) hx hb dX8_fillField_154 rfl ?_
                refine x_icmp_ne (tgt := 183) hx hb (by omega) (by omega) dX8_fillField_155 (by decide) (fun c107 => ?_) (fun c107 => ?_)
                · refine lv_aload_n hx hb dX8_fillField_183 rfl (lv_at hl 4 rfl) ?_
                  refine x_geto hx hb hf6 hw (by omega) (by omega) sl_15_1 lk193 dX8_fillField_184 ?_
                  refine lv_iload hx hb dX8_fillField_187 (lv_at hl 2 rfl) ?_
                  refine lv_lload hx hb dX8_fillField_189 (lv_at hl 0 rfl) ?_
                  refine x_last hx hb hK.1 hw hS (by omega) (by omega) ar_16 (len_E ar_16 (by first | exact Nat.ne_of_beq_eq_false rfl | decide)) (by omega) (by omega) (by omega) dX8_fillField_191 (fun H locs hw hS => ?_)
                  obtain ⟨X108, hX108⟩ : ∃ Xq, Xq = u3 X 16 x z4 (X 12 g slot) := ⟨_, rfl⟩
                  rw [← hX108] at hw
                  have hRX108 : Rng X108 := by rw [hX108]; exact rng_set hR (show (-9223372036854775808) ≤ (X 12 g slot) ∧ (X 12 g slot) ≤ 9223372036854775807 by omega)
                  have hVX108 : X108 16 x z4 = (X 12 g slot) := by rw [hX108]; exact u3_s _ _ _ _ _
                  have hFX108 : Frm [1600, 2602, 2700] X X108 := by rw [hX108]; exact Frm.set Frm.rf (show 1600 ∈ [1600, 2602, 2700] by first | exact nlm_in rfl | decide)
                  refine lv_iconst (v := jI 0) hx hb dX8_fillField_192 rfl ?_
                  rw [hQ9]
                  refine ret_i (mc := 2) (ms := 14) hx hb hr hlocks hw hS (by first | exact Nat.le_of_ble_eq_true rfl | omega) (by first | exact Nat.le_of_ble_eq_true rfl | omega) dX8_fillField_193 ?_
                  have q109 : Frm [1600] X X108 := by rw [hX108]; exact Frm.set Frm.rf (show 1600 ∈ [1600] by first | exact nlm_in rfl | decide)
                  have hCq110 : CInv cnt X108 Y ln := cinv_frm (M := [1600]) (N := []) hCI q109 Frm.rf (by decide) (by decide)
                  have ht111o : toC X Y x g slot = z4 := by unfold toC; rw [tyo_some y1]; exact (p6.2.2.2).symm
                  have ht111l : tlC X Y x g slot = X 21 r2 z4 := by unfold tlC; rw [ht111o, tyo_some y1]
                  have htw112 : twC X Y x g slot = (X 12 g slot) := (by unfold twC bdC; rw [ht111l]; (try delta Hid at *); (repeat' split) <;> omega)
                  exact ⟨ad, cnt, X108, Y, ln, rfl, hE9 _ _ _ hE, hFx, hOw, hLn, hRX108, hFX108, Frm.rf, hCq110, by omega, (by unfold fvC; rw [ht111o, ht111l]; exact (fvF_0 (by omega) (by (try delta Hid at *); omega) (by unfold bdC andZ; (try delta Hid at *); split <;> omega)).symm), fun q => (by exfalso; omega), fun _ => Or.inr (Or.inl ⟨(by rw [ht111o]; omega), (by rw [ht111l]; (try delta Hid at *); omega), rfl, (by rw [ht111o, ht111l, htw112, if_neg (fun q9 => by omega)]; exact hX108), rfl, rfl⟩)⟩
                · refine lv_lload hx hb dX8_fillField_158 (lv_at hl 0 rfl) ?_
                  refine lv_ldc2 (v := jL (-1)) hx hb hown (hts (.constantLong RX8 88 (-1)) (by first | exact gj_X8_fillField_0 _ (gp_4 (gp_1 gp_h)) | decide +kernel)) dX8_fillField_160 ?_
                  refine x_lcmp hx hb (by omega) (by omega) dX8_fillField_163 ?_
                  obtain ⟨z113, ez113⟩ : ∃ y : Int, y = cmpZ (X 12 g slot) (-1) := ⟨_, rfl⟩
                  rw [← ez113]
                  have gz113 : (z113 < 0 ↔ ((X 12 g slot) : Int) < (-1)) ∧ (z113 = 0 ↔ ((X 12 g slot) : Int) = (-1)) ∧ -1 ≤ z113 ∧ z113 ≤ 1 := by rw [ez113]; exact ⟨cmpZ_lt, cmpZ_eq, (cmpZ_r _ _).1, (cmpZ_r _ _).2⟩
                  clear ez113
                  refine x_if_eq (tgt := 183) hx hb (by omega) dX8_fillField_164 (by decide) (fun c114 => ?_) (fun c114 => ?_)
                  · replace c114 := cz_eqT gz113 c114
                    clear gz113
                    refine lv_aload_n hx hb dX8_fillField_183 rfl (lv_at hl 4 rfl) ?_
                    refine x_geto hx hb hf6 hw (by omega) (by omega) sl_15_1 lk193 dX8_fillField_184 ?_
                    refine lv_iload hx hb dX8_fillField_187 (lv_at hl 2 rfl) ?_
                    refine lv_lload hx hb dX8_fillField_189 (lv_at hl 0 rfl) ?_
                    refine x_last hx hb hK.1 hw hS (by omega) (by omega) ar_16 (len_E ar_16 (by first | exact Nat.ne_of_beq_eq_false rfl | decide)) (by omega) (by omega) (by omega) dX8_fillField_191 (fun H locs hw hS => ?_)
                    obtain ⟨X115, hX115⟩ : ∃ Xq, Xq = u3 X 16 x z4 (X 12 g slot) := ⟨_, rfl⟩
                    rw [← hX115] at hw
                    have hRX115 : Rng X115 := by rw [hX115]; exact rng_set hR (show (-9223372036854775808) ≤ (X 12 g slot) ∧ (X 12 g slot) ≤ 9223372036854775807 by omega)
                    have hVX115 : X115 16 x z4 = (X 12 g slot) := by rw [hX115]; exact u3_s _ _ _ _ _
                    have hFX115 : Frm [1600, 2602, 2700] X X115 := by rw [hX115]; exact Frm.set Frm.rf (show 1600 ∈ [1600, 2602, 2700] by first | exact nlm_in rfl | decide)
                    refine lv_iconst (v := jI 0) hx hb dX8_fillField_192 rfl ?_
                    rw [hQ9]
                    refine ret_i (mc := 2) (ms := 14) hx hb hr hlocks hw hS (by first | exact Nat.le_of_ble_eq_true rfl | omega) (by first | exact Nat.le_of_ble_eq_true rfl | omega) dX8_fillField_193 ?_
                    have q116 : Frm [1600] X X115 := by rw [hX115]; exact Frm.set Frm.rf (show 1600 ∈ [1600] by first | exact nlm_in rfl | decide)
                    have hCq117 : CInv cnt X115 Y ln := cinv_frm (M := [1600]) (N := []) hCI q116 Frm.rf (by decide) (by decide)
                    have ht118o : toC X Y x g slot = z4 := by unfold toC; rw [tyo_some y1]; exact (p6.2.2.2).symm
                    have ht118l : tlC X Y x g slot = X 21 r2 z4 := by unfold tlC; rw [ht118o, tyo_some y1]
                    have htw119 : twC X Y x g slot = (X 12 g slot) := (by unfold twC bdC; rw [ht118l]; (try delta Hid at *); (repeat' split) <;> omega)
                    exact ⟨ad, cnt, X115, Y, ln, rfl, hE9 _ _ _ hE, hFx, hOw, hLn, hRX115, hFX115, Frm.rf, hCq117, by omega, (by unfold fvC; rw [ht118o, ht118l]; exact (fvF_0 (by omega) (by (try delta Hid at *); omega) (by unfold bdC andZ; (try delta Hid at *); split <;> omega)).symm), fun q => (by exfalso; omega), fun _ => Or.inr (Or.inl ⟨(by rw [ht118o]; omega), (by rw [ht118l]; (try delta Hid at *); omega), rfl, (by rw [ht118o, ht118l, htw119, if_neg (fun q9 => by omega)]; exact hX115), rfl, rfl⟩)⟩
                  · replace c114 := cz_eqF gz113 c114
                    clear gz113
                    have hv9 := hv (by omega)
                    refine lv_aload_n hx hb dX8_fillField_167 rfl (lv_at hl 4 rfl) ?_
                    refine x_geto hx hb hf6 hw (by omega) (by omega) sl_15_1 lk193 dX8_fillField_168 ?_
                    refine lv_iload hx hb dX8_fillField_171 (lv_at hl 2 rfl) ?_
                    refine lv_iload hx hb dX8_fillField_173 (lv_at hl 7 rfl) ?_
                    refine x_i2l hx hb (by omega) dX8_fillField_175 ?_
                    refine lv_lload hx hb dX8_fillField_176 (lv_at hl 0 rfl) ?_
                    refine x_ladd hx hb dX8_fillField_178 ?_
                    refine x_last hx hb hK.1 hw hS (by omega) (by omega) ar_16 (len_E ar_16 (by first | exact Nat.ne_of_beq_eq_false rfl | decide)) (by omega) (by omega) (by omega) dX8_fillField_179 (fun H locs hw hS => ?_)
                    obtain ⟨X120, hX120⟩ : ∃ Xq, Xq = u3 X 16 x z4 (f + (X 12 g slot)) := ⟨_, rfl⟩
                    rw [← hX120] at hw
                    have hRX120 : Rng X120 := by rw [hX120]; exact rng_set hR (show (-9223372036854775808) ≤ (f + (X 12 g slot)) ∧ (f + (X 12 g slot)) ≤ 9223372036854775807 by omega)
                    have hVX120 : X120 16 x z4 = (f + (X 12 g slot)) := by rw [hX120]; exact u3_s _ _ _ _ _
                    have hFX120 : Frm [1600, 2602, 2700] X X120 := by rw [hX120]; exact Frm.set Frm.rf (show 1600 ∈ [1600, 2602, 2700] by first | exact nlm_in rfl | decide)
                    refine lv_goto (tgt := 192) hx hb dX8_fillField_180 (by decide) ?_
                    refine lv_iconst (v := jI 0) hx hb dX8_fillField_192 rfl ?_
                    rw [hQ9]
                    refine ret_i (mc := 2) (ms := 14) hx hb hr hlocks hw hS (by first | exact Nat.le_of_ble_eq_true rfl | omega) (by first | exact Nat.le_of_ble_eq_true rfl | omega) dX8_fillField_193 ?_
                    have q121 : Frm [1600] X X120 := by rw [hX120]; exact Frm.set Frm.rf (show 1600 ∈ [1600] by first | exact nlm_in rfl | decide)
                    have hCq122 : CInv cnt X120 Y ln := cinv_frm (M := [1600]) (N := []) hCI q121 Frm.rf (by decide) (by decide)
                    have ht123o : toC X Y x g slot = z4 := by unfold toC; rw [tyo_some y1]; exact (p6.2.2.2).symm
                    have ht123l : tlC X Y x g slot = X 21 r2 z4 := by unfold tlC; rw [ht123o, tyo_some y1]
                    have htw124 : twC X Y x g slot = X 12 g slot := (by unfold twC bdC; rw [ht123l]; (try delta Hid at *); (repeat' split) <;> omega)
                    exact ⟨ad, cnt, X120, Y, ln, rfl, hE9 _ _ _ hE, hFx, hOw, hLn, hRX120, hFX120, Frm.rf, hCq122, by omega, (by unfold fvC; rw [ht123o, ht123l]; exact (fvF_0 (by omega) (by (try delta Hid at *); omega) (by unfold bdC andZ; (try delta Hid at *); split <;> omega)).symm), fun q => (by exfalso; omega), fun _ => Or.inr (Or.inl ⟨(by rw [ht123o]; omega), (by rw [ht123l]; (try delta Hid at *); omega), rfl, (by first | (rw [ht123o, ht123l, htw124, if_pos ⟨by omega, by omega⟩]; exact hX120) | (exfalso; (try delta Hid at *); omega)), rfl, rfl⟩)⟩
            · replace c71 := cz_eqF gz70 c71
              clear gz70
              refine lv_aload_n hx hb dX8_fillField_87 rfl (lv_at hl 3 rfl) ?_
              refine lv_lload hx hb dX8_fillField_88 (lv_at hl 0 rfl) ?_
              refine gos_i (run_V (As := [.long (jL (X 12 g slot))]) (rest := []) hx hb hml hown hts (c_X8_isWordInUse l D tc base ad cnt X Y ln hR hFx hLn (X 12 g slot) (by omega)) (cwV 1 hts gX8_fillField_X8_isWordInUse rfl rfl rfl (by first | exact hd_X8_isWordInUse | decide +kernel) ⟨Nat.le_of_ble_eq_true rfl, Nat.le_of_ble_eq_true rfl⟩) hK hw (by first | exact Int.le_refl 0 | omega) (by first | exact zlt hc0 | omega) sl_0_0 rfl rfl hl.1 rfl (Nat.le_of_ble_eq_true rfl) dX8_fillField_90 ⟨(by show _ ≤ (2 : Nat); omega), (by show _ ≤ (14 : Nat); omega)⟩) hS (fun z125 u126 H locs p127 hw hS => ?_)
              obtain ⟨eu126, p127⟩ := p127
              subst eu126
              rcases p127 with ⟨ez125, p127⟩ | ⟨ez125, p127⟩
              · subst ez125
                refine x_if_neT (tgt := 111) hx hb (by omega) (by decide) dX8_fillField_93 (by decide) ?_
                refine lv_iload hx hb dX8_fillField_111 (lv_at hl 1 rfl) ?_
                refine gos_i (run_S (As := [.int (jI (X 21 r2 z4))]) (rest := []) hx hb hml hown hts (c_X8_isRowLane l D tc base ad cnt X Y ln (X 21 r2 z4) (by omega)) (cwS 1 hts gX8_fillField_X8_isRowLane rfl rfl rfl (by first | exact hd_X8_isRowLane | decide +kernel) ⟨Nat.le_of_ble_eq_true rfl, Nat.le_of_ble_eq_true rfl⟩) hK hw rfl hl.1 rfl (Nat.le_of_ble_eq_true rfl) dX8_fillField_113 ⟨(by show _ ≤ (2 : Nat); omega), (by show _ ≤ (14 : Nat); omega)⟩) hS (fun z128 u129 H locs p130 hw hS => ?_)
                obtain ⟨eu129, p130⟩ := p130
                subst eu129
                rcases p130 with ⟨ez128, p130⟩ | ⟨ez128, p130⟩
                · subst ez128
                  refine x_if_eqF (tgt := 152) hx hb (by omega) (by decide) dX8_fillField_116 (by decide) ?_
                  refine lv_aload_n hx hb dX8_fillField_119 rfl (lv_at hl 4 rfl) ?_
                  refine x_geto hx hb hf6 hw (by omega) (by omega) sl_15_2 lk158 dX8_fillField_120 ?_
                  refine lv_iload hx hb dX8_fillField_123 (lv_at hl 2 rfl) ?_
                  refine lv_lload hx hb dX8_fillField_125 (lv_at hl 0 rfl) ?_
                  refine lv_ldc2 (v := jL (-1)) hx hb hown (hts (.constantLong RX8 88 (-1)) (by first | exact gj_X8_fillField_0 _ (gp_4 (gp_1 gp_h)) | decide +kernel)) dX8_fillField_127 ?_
                  refine x_lcmp hx hb (by omega) (by omega) dX8_fillField_130 ?_
                  obtain ⟨z131, ez131⟩ : ∃ y : Int, y = cmpZ (X 12 g slot) (-1) := ⟨_, rfl⟩
                  rw [← ez131]
                  have gz131 : (z131 < 0 ↔ ((X 12 g slot) : Int) < (-1)) ∧ (z131 = 0 ↔ ((X 12 g slot) : Int) = (-1)) ∧ -1 ≤ z131 ∧ z131 ≤ 1 := by rw [ez131]; exact ⟨cmpZ_lt, cmpZ_eq, (cmpZ_r _ _).1, (cmpZ_r _ _).2⟩
                  clear ez131
                  refine x_if_ne (tgt := 138) hx hb (by omega) dX8_fillField_131 (by decide) (fun c132 => ?_) (fun c132 => ?_)
                  · replace c132 := cz_neT gz131 c132
                    clear gz131
                    have hv9 := hv (by omega)
                    refine lv_aload_n hx hb dX8_fillField_138 rfl (lv_at hl 3 rfl) ?_
                    refine lv_aload_n hx hb dX8_fillField_139 rfl (lv_at hl 5 rfl) ?_
                    refine lv_lload hx hb dX8_fillField_140 (lv_at hl 0 rfl) ?_
                    refine x_l2i hx hb dX8_fillField_142 ?_
                    refine lv_iload hx hb dX8_fillField_143 (lv_at hl 1 rfl) ?_
                    refine gos_r (run_V (As := [.ref (ad 7 g), .int (jI (X 12 g slot)), .int (jI (X 21 r2 z4))]) (rest := [.int (jI z4), .ref (ad 17 x)]) hx hb hml hown hts (c_X8_rowPutBack l D tc base ad cnt X Y ln hR hFx hLn hCI hOw hN g (X 12 g slot) (X 21 r2 z4) (by omega) (by omega) (by omega)) (cwV 3 hts gX8_fillField_X8_rowPutBack rfl rfl rfl (by first | exact hd_X8_rowPutBack | decide +kernel) ⟨Nat.le_of_ble_eq_true rfl, Nat.le_of_ble_eq_true rfl⟩) hK hw (by first | exact Int.le_refl 0 | omega) (by first | exact zlt hc0 | omega) sl_0_0 rfl rfl hl.1 rfl (Nat.le_of_ble_eq_true rfl) dX8_fillField_145 ⟨(by show _ ≤ (2 : Nat); omega), (by show _ ≤ (14 : Nat); omega)⟩) hS (fun u134 H locs p135 hw hS => ?_) (fun z133 u134 H locs p135 hw hS => ?_)
                    · obtain ⟨ad, cnt, X136, Y137, ln, eu134, hE138, hFx, hOw, hLn, hRX136, hG139, hJ140, hCIX136, p135, hrpX136⟩ := p135
                      subst eu134
                      obtain ⟨r9, e9, -⟩ := p135
                      cases e9
                    · obtain ⟨ad, cnt, X141, Y142, ln, eu134, hE143, hFx, hOw, hLn, hRX141, hG144, hJ145, hCIX141, p135, hrpX141⟩ := p135
                      subst eu134
                      have hFX141 : Frm [1600, 2602, 2700] X X141 := Frm.tr Frm.rf (Frm.mono hG144 (by first | exact nls_of rfl | decide))
                      have hHY142 : Frm [1700, 600] Y Y142 := Frm.tr Frm.rf (Frm.mono hJ145 (by first | exact nls_of rfl | decide))
                      have hz133 : 0 ≤ z133 ∧ z133 < cnt 26 := by obtain ⟨r9, e9, h1, h2⟩ := p135; cases e9; exact ⟨h1, h2⟩
                      have hE := Ext.tr hE hE143
                      have hm146 := hE143.2.1 19
                      have hm147 := hE143.2.1 25
                      have hm148 := hE143.2.1 26
                      have hN : 0 ≤ cnt 25 ∧ 0 ≤ cnt 26 := by omega
                      have ha149 := hE143.1 0 0 (by omega) (by omega)
                      have ha150 := hE143.1 15 x (by omega) (by omega)
                      have ha151 := hE143.1 7 g (by omega) (by omega)
                      have ha152 := hE143.1 17 x (by omega) (by omega)
                      have hc0 : cnt 0 = 1 := hFx.at 0 1 (by decide)
                      have hc6 : cnt 6 = 1 := hFx.at 6 1 (by decide)
                      have hc7 : cnt 7 = 6 := hFx.at 7 6 (by decide)
                      have hc10 : cnt 10 = 6 := hFx.at 10 6 (by decide)
                      have hc11 : cnt 11 = 6 := hFx.at 11 6 (by decide)
                      have hc12 : cnt 12 = 6 := hFx.at 12 6 (by decide)
                      have hc15 : cnt 15 = 30 := hFx.at 15 30 (by decide)
                      have hc16 : cnt 16 = 30 := hFx.at 16 30 (by decide)
                      have hc17 : cnt 17 = 30 := hFx.at 17 30 (by decide)
                      have hc21 : cnt 21 = cnt 19 := hFx.2.1 21 (by decide)
                      have hc27 : cnt 27 = cnt 26 := hFx.2.2
                      have hl : lv_has ls 10 [(8, .long (jL (X 12 g slot))), (7, .int (jI (X 21 r2 z4))), (6, .int (jI z4)), (0, .ref (ad 0 0)), (1, .ref (ad 15 x)), (2, .ref (ad 7 g)), (3, .int (jI slot)), (4, .int (jI f)), (5, .int (jI rule))] := by rw [ha149, ha150, ha151]; exact hl
                      refine W.eq (g2 := F0 m 148 ls [.ref (ad 26 z133), .int (jI z4), .ref (ad 17 x)]) (by first | rfl | (rw [ha152]; done) | (rw [ha152]; rfl)) ?_
                      refine x_aast hx hb hK.1 hw hS (by omega) (by omega) ar_17 rfl rfl sl_26_0 (len_E ar_17 (by first | exact Nat.ne_of_beq_eq_false rfl | decide)) (by omega) (by omega) (by omega) (by omega) (by omega) dX8_fillField_148 (fun H locs hw hS => ?_)
                      obtain ⟨Y153, hY153⟩ : ∃ Yq, Yq = u3 Y142 17 x z4 (some z133) := ⟨_, rfl⟩
                      rw [← hY153] at hw
                      have hVY153 : Y153 17 x z4 = (some z133) := by rw [hY153]; exact u3_s _ _ _ _ _
                      have hHY153 : Frm [1700, 600] Y Y153 := by rw [hY153]; exact Frm.set hHY142 (show 1700 ∈ [1700, 600] by first | exact nlm_in rfl | decide)
                      refine lv_goto (tgt := 192) hx hb dX8_fillField_149 (by decide) ?_
                      refine lv_iconst (v := jI 0) hx hb dX8_fillField_192 rfl ?_
                      rw [hQ9]
                      refine ret_i (mc := 2) (ms := 14) hx hb hr hlocks hw hS (by first | exact Nat.le_of_ble_eq_true rfl | omega) (by first | exact Nat.le_of_ble_eq_true rfl | omega) dX8_fillField_193 ?_
                      have q154 : Frm [1700] Y142 Y153 := by rw [hY153]; exact Frm.set Frm.rf (show 1700 ∈ [1700] by first | exact nlm_in rfl | decide)
                      have hCq155 : CInv cnt X141 Y153 ln := cinv_frm (M := []) (N := [1700]) hCIX141 Frm.rf q154 (by decide) (by decide)
                      have ht156o : toC X Y x g slot = z4 := by unfold toC; rw [tyo_some y1]; exact (p6.2.2.2).symm
                      have ht156l : tlC X Y x g slot = X 21 r2 z4 := by unfold tlC; rw [ht156o, tyo_some y1]
                      have htw157 : twC X Y x g slot = X 12 g slot := (by unfold twC bdC; rw [ht156l]; (try delta Hid at *); (repeat' split) <;> omega)
                      exact ⟨ad, cnt, X141, Y153, ln, rfl, hE9 _ _ _ hE, hFx, hOw, hLn, hRX141, hFX141, hHY153, hCq155, by omega, (by unfold fvC; rw [ht156o, ht156l]; exact (fvF_0 (by omega) (by (try delta Hid at *); omega) (by unfold bdC andZ; (try delta Hid at *); split <;> omega)).symm), fun q => (by exfalso; omega), fun _ => Or.inr (Or.inr (Or.inr ⟨(by rw [ht156o]; omega), (by rw [ht156l]; (try delta Hid at *); omega), (by rw [htw157]; omega), (by obtain ⟨q9, q8, q7⟩ := hrpX141; exact ⟨Y142, q9, (by first | (rw [htw157, ht156l]; exact q7) | (exfalso; (try delta Hid at *); omega)), (by rw [ht156o, ← q8]; exact hY153)⟩)⟩))⟩
                  · replace c132 := cz_neF gz131 c132
                    clear gz131
                    refine lv_null hx hb dX8_fillField_134 ?_
                    refine lv_goto (tgt := 148) hx hb dX8_fillField_135 (by decide) ?_
                    refine x_aastn hx hb hK.1 hw hS (by omega) (by omega) ar_17 rfl (len_E ar_17 (by first | exact Nat.ne_of_beq_eq_false rfl | decide)) (by omega) (by omega) (by omega) dX8_fillField_148 (fun H locs hw hS => ?_)
                    obtain ⟨Y158, hY158⟩ : ∃ Yq, Yq = u3 Y 17 x z4 none := ⟨_, rfl⟩
                    rw [← hY158] at hw
                    have hVY158 : Y158 17 x z4 = none := by rw [hY158]; exact u3_s _ _ _ _ _
                    have hHY158 : Frm [1700, 600] Y Y158 := by rw [hY158]; exact Frm.set Frm.rf (show 1700 ∈ [1700, 600] by first | exact nlm_in rfl | decide)
                    refine lv_goto (tgt := 192) hx hb dX8_fillField_149 (by decide) ?_
                    refine lv_iconst (v := jI 0) hx hb dX8_fillField_192 rfl ?_
                    rw [hQ9]
                    refine ret_i (mc := 2) (ms := 14) hx hb hr hlocks hw hS (by first | exact Nat.le_of_ble_eq_true rfl | omega) (by first | exact Nat.le_of_ble_eq_true rfl | omega) dX8_fillField_193 ?_
                    have q159 : Frm [1700] Y Y158 := by rw [hY158]; exact Frm.set Frm.rf (show 1700 ∈ [1700] by first | exact nlm_in rfl | decide)
                    have hCq160 : CInv cnt X Y158 ln := cinv_frm (M := []) (N := [1700]) hCI Frm.rf q159 (by decide) (by decide)
                    have ht161o : toC X Y x g slot = z4 := by unfold toC; rw [tyo_some y1]; exact (p6.2.2.2).symm
                    have ht161l : tlC X Y x g slot = X 21 r2 z4 := by unfold tlC; rw [ht161o, tyo_some y1]
                    have htw162 : twC X Y x g slot = -1 := (by unfold twC bdC; rw [ht161l]; (try delta Hid at *); (repeat' split) <;> omega)
                    exact ⟨ad, cnt, X, Y158, ln, rfl, hE9 _ _ _ hE, hFx, hOw, hLn, hR, Frm.rf, hHY158, hCq160, by omega, (by unfold fvC; rw [ht161o, ht161l]; exact (fvF_0 (by omega) (by (try delta Hid at *); omega) (by unfold bdC andZ; (try delta Hid at *); split <;> omega)).symm), fun q => (by exfalso; omega), fun _ => Or.inr (Or.inr (Or.inl ⟨(by rw [ht161o]; omega), (by rw [ht161l]; (try delta Hid at *); omega), htw162, rfl, rfl, (by rw [ht161o]; exact hY158), rfl⟩))⟩
                · subst ez128
                  refine x_if_eqT (tgt := 152) hx hb (by omega) (by decide) dX8_fillField_116 (by decide) ?_
                  refine lv_iload hx hb dX8_fillField_152 (lv_at hl 1 rfl) ?_
                  refine lv_iconst (v := jI 2) hx hb dX8_fillField_154 rfl ?_
                  refine x_icmp_ne (tgt := 183) hx hb (by omega) (by omega) dX8_fillField_155 (by decide) (fun c163 => ?_) (fun c163 => ?_)
                  · refine lv_aload_n hx hb dX8_fillField_183 rfl (lv_at hl 4 rfl) ?_
                    refine x_geto hx hb hf6 hw (by omega) (by omega) sl_15_1 lk193 dX8_fillField_184 ?_
                    refine lv_iload hx hb dX8_fillField_187 (lv_at hl 2 rfl) ?_
                    refine lv_lload hx hb dX8_fillField_189 (lv_at hl 0 rfl) ?_
                    refine x_last hx hb hK.1 hw hS (by omega) (by omega) ar_16 (len_E ar_16 (by first | exact Nat.ne_of_beq_eq_false rfl | decide)) (by omega) (by omega) (by omega) dX8_fillField_191 (fun H locs hw hS => ?_)
                    obtain ⟨X164, hX164⟩ : ∃ Xq, Xq = u3 X 16 x z4 (X 12 g slot) := ⟨_, rfl⟩
                    rw [← hX164] at hw
                    have hRX164 : Rng X164 := by rw [hX164]; exact rng_set hR (show (-9223372036854775808) ≤ (X 12 g slot) ∧ (X 12 g slot) ≤ 9223372036854775807 by omega)
                    have hVX164 : X164 16 x z4 = (X 12 g slot) := by rw [hX164]; exact u3_s _ _ _ _ _
                    have hFX164 : Frm [1600, 2602, 2700] X X164 := by rw [hX164]; exact Frm.set Frm.rf (show 1600 ∈ [1600, 2602, 2700] by first | exact nlm_in rfl | decide)
                    refine lv_iconst (v := jI 0) hx hb dX8_fillField_192 rfl ?_
                    rw [hQ9]
                    refine ret_i (mc := 2) (ms := 14) hx hb hr hlocks hw hS (by first | exact Nat.le_of_ble_eq_true rfl | omega) (by first | exact Nat.le_of_ble_eq_true rfl | omega) dX8_fillField_193 ?_
                    have q165 : Frm [1600] X X164 := by rw [hX164]; exact Frm.set Frm.rf (show 1600 ∈ [1600] by first | exact nlm_in rfl | decide)
                    have hCq166 : CInv cnt X164 Y ln := cinv_frm (M := [1600]) (N := []) hCI q165 Frm.rf (by decide) (by decide)
                    have ht167o : toC X Y x g slot = z4 := by unfold toC; rw [tyo_some y1]; exact (p6.2.2.2).symm
                    have ht167l : tlC X Y x g slot = X 21 r2 z4 := by unfold tlC; rw [ht167o, tyo_some y1]
                    have htw168 : twC X Y x g slot = (X 12 g slot) := (by unfold twC bdC; rw [ht167l]; (try delta Hid at *); (repeat' split) <;> omega)
                    exact ⟨ad, cnt, X164, Y, ln, rfl, hE9 _ _ _ hE, hFx, hOw, hLn, hRX164, hFX164, Frm.rf, hCq166, by omega, (by unfold fvC; rw [ht167o, ht167l]; exact (fvF_0 (by omega) (by (try delta Hid at *); omega) (by unfold bdC andZ; (try delta Hid at *); split <;> omega)).symm), fun q => (by exfalso; omega), fun _ => Or.inr (Or.inl ⟨(by rw [ht167o]; omega), (by rw [ht167l]; (try delta Hid at *); omega), rfl, (by rw [ht167o, ht167l, htw168, if_neg (fun q9 => by omega)]; exact hX164), rfl, rfl⟩)⟩
                  · refine lv_lload hx hb dX8_fillField_158 (lv_at hl 0 rfl) ?_
                    refine lv_ldc2 (v := jL (-1)) hx hb hown (hts (.constantLong RX8 88 (-1)) (by first | exact gj_X8_fillField_0 _ (gp_4 (gp_1 gp_h)) | decide +kernel)) dX8_fillField_160 ?_
                    refine x_lcmp hx hb (by omega) (by omega) dX8_fillField_163 ?_
                    obtain ⟨z169, ez169⟩ : ∃ y : Int, y = cmpZ (X 12 g slot) (-1) := ⟨_, rfl⟩
                    rw [← ez169]
                    have gz169 : (z169 < 0 ↔ ((X 12 g slot) : Int) < (-1)) ∧ (z169 = 0 ↔ ((X 12 g slot) : Int) = (-1)) ∧ -1 ≤ z169 ∧ z169 ≤ 1 := by rw [ez169]; exact ⟨cmpZ_lt, cmpZ_eq, (cmpZ_r _ _).1, (cmpZ_r _ _).2⟩
                    clear ez169
                    refine x_if_eq (tgt := 183) hx hb (by omega) dX8_fillField_164 (by decide) (fun c170 => ?_) (fun c170 => ?_)
                    · replace c170 := cz_eqT gz169 c170
                      clear gz169
                      refine lv_aload_n hx hb dX8_fillField_183 rfl (lv_at hl 4 rfl) ?_
                      refine x_geto hx hb hf6 hw (by omega) (by omega) sl_15_1 lk193 dX8_fillField_184 ?_
                      refine lv_iload hx hb dX8_fillField_187 (lv_at hl 2 rfl) ?_
                      refine lv_lload hx hb dX8_fillField_189 (lv_at hl 0 rfl) ?_
                      refine x_last hx hb hK.1 hw hS (by omega) (by omega) ar_16 (len_E ar_16 (by first | exact Nat.ne_of_beq_eq_false rfl | decide)) (by omega) (by omega) (by omega) dX8_fillField_191 (fun H locs hw hS => ?_)
                      obtain ⟨X171, hX171⟩ : ∃ Xq, Xq = u3 X 16 x z4 (X 12 g slot) := ⟨_, rfl⟩
                      rw [← hX171] at hw
                      have hRX171 : Rng X171 := by rw [hX171]; exact rng_set hR (show (-9223372036854775808) ≤ (X 12 g slot) ∧ (X 12 g slot) ≤ 9223372036854775807 by omega)
                      have hVX171 : X171 16 x z4 = (X 12 g slot) := by rw [hX171]; exact u3_s _ _ _ _ _
                      have hFX171 : Frm [1600, 2602, 2700] X X171 := by rw [hX171]; exact Frm.set Frm.rf (show 1600 ∈ [1600, 2602, 2700] by first | exact nlm_in rfl | decide)
                      refine lv_iconst (v := jI 0) hx hb dX8_fillField_192 rfl ?_
                      rw [hQ9]
                      refine ret_i (mc := 2) (ms := 14) hx hb hr hlocks hw hS (by first | exact Nat.le_of_ble_eq_true rfl | omega) (by first | exact Nat.le_of_ble_eq_true rfl | omega) dX8_fillField_193 ?_
                      have q172 : Frm [1600] X X171 := by rw [hX171]; exact Frm.set Frm.rf (show 1600 ∈ [1600] by first | exact nlm_in rfl | decide)
                      have hCq173 : CInv cnt X171 Y ln := cinv_frm (M := [1600]) (N := []) hCI q172 Frm.rf (by decide) (by decide)
                      have ht174o : toC X Y x g slot = z4 := by unfold toC; rw [tyo_some y1]; exact (p6.2.2.2).symm
                      have ht174l : tlC X Y x g slot = X 21 r2 z4 := by unfold tlC; rw [ht174o, tyo_some y1]
                      have htw175 : twC X Y x g slot = (X 12 g slot) := (by unfold twC bdC; rw [ht174l]; (try delta Hid at *); (repeat' split) <;> omega)
                      exact ⟨ad, cnt, X171, Y, ln, rfl, hE9 _ _ _ hE, hFx, hOw, hLn, hRX171, hFX171, Frm.rf, hCq173, by omega, (by unfold fvC; rw [ht174o, ht174l]; exact (fvF_0 (by omega) (by (try delta Hid at *); omega) (by unfold bdC andZ; (try delta Hid at *); split <;> omega)).symm), fun q => (by exfalso; omega), fun _ => Or.inr (Or.inl ⟨(by rw [ht174o]; omega), (by rw [ht174l]; (try delta Hid at *); omega), rfl, (by rw [ht174o, ht174l, htw175, if_neg (fun q9 => by omega)]; exact hX171), rfl, rfl⟩)⟩
                    · replace c170 := cz_eqF gz169 c170
                      clear gz169
                      have hv9 := hv (by omega)
                      refine lv_aload_n hx hb dX8_fillField_167 rfl (lv_at hl 4 rfl) ?_
                      refine x_geto hx hb hf6 hw (by omega) (by omega) sl_15_1 lk193 dX8_fillField_168 ?_
                      refine lv_iload hx hb dX8_fillField_171 (lv_at hl 2 rfl) ?_
                      refine lv_iload hx hb dX8_fillField_173 (lv_at hl 7 rfl) ?_
                      refine x_i2l hx hb (by omega) dX8_fillField_175 ?_
                      refine lv_lload hx hb dX8_fillField_176 (lv_at hl 0 rfl) ?_
                      refine x_ladd hx hb dX8_fillField_178 ?_
                      refine x_last hx hb hK.1 hw hS (by omega) (by omega) ar_16 (len_E ar_16 (by first | exact Nat.ne_of_beq_eq_false rfl | decide)) (by omega) (by omega) (by omega) dX8_fillField_179 (fun H locs hw hS => ?_)
                      obtain ⟨X176, hX176⟩ : ∃ Xq, Xq = u3 X 16 x z4 (f + (X 12 g slot)) := ⟨_, rfl⟩
                      rw [← hX176] at hw
                      have hRX176 : Rng X176 := by rw [hX176]; exact rng_set hR (show (-9223372036854775808) ≤ (f + (X 12 g slot)) ∧ (f + (X 12 g slot)) ≤ 9223372036854775807 by omega)
                      have hVX176 : X176 16 x z4 = (f + (X 12 g slot)) := by rw [hX176]; exact u3_s _ _ _ _ _
                      have hFX176 : Frm [1600, 2602, 2700] X X176 := by rw [hX176]; exact Frm.set Frm.rf (show 1600 ∈ [1600, 2602, 2700] by first | exact nlm_in rfl | decide)
                      refine lv_goto (tgt := 192) hx hb dX8_fillField_180 (by decide) ?_
                      refine lv_iconst (v := jI 0) hx hb dX8_fillField_192 rfl ?_
                      rw [hQ9]
                      refine ret_i (mc := 2) (ms := 14) hx hb hr hlocks hw hS (by first | exact Nat.le_of_ble_eq_true rfl | omega) (by first | exact Nat.le_of_ble_eq_true rfl | omega) dX8_fillField_193 ?_
                      have q177 : Frm [1600] X X176 := by rw [hX176]; exact Frm.set Frm.rf (show 1600 ∈ [1600] by first | exact nlm_in rfl | decide)
                      have hCq178 : CInv cnt X176 Y ln := cinv_frm (M := [1600]) (N := []) hCI q177 Frm.rf (by decide) (by decide)
                      have ht179o : toC X Y x g slot = z4 := by unfold toC; rw [tyo_some y1]; exact (p6.2.2.2).symm
                      have ht179l : tlC X Y x g slot = X 21 r2 z4 := by unfold tlC; rw [ht179o, tyo_some y1]
                      have htw180 : twC X Y x g slot = X 12 g slot := (by unfold twC bdC; rw [ht179l]; (try delta Hid at *); (repeat' split) <;> omega)
                      exact ⟨ad, cnt, X176, Y, ln, rfl, hE9 _ _ _ hE, hFx, hOw, hLn, hRX176, hFX176, Frm.rf, hCq178, by omega, (by unfold fvC; rw [ht179o, ht179l]; exact (fvF_0 (by omega) (by (try delta Hid at *); omega) (by unfold bdC andZ; (try delta Hid at *); split <;> omega)).symm), fun q => (by exfalso; omega), fun _ => Or.inr (Or.inl ⟨(by rw [ht179o]; omega), (by rw [ht179l]; (try delta Hid at *); omega), rfl, (by first | (rw [ht179o, ht179l, htw180, if_pos ⟨by omega, by omega⟩]; exact hX176) | (exfalso; (try delta Hid at *); omega)), rfl, rfl⟩)⟩
              · subst ez125
                refine x_if_neF (tgt := 111) hx hb (by omega) (by decide) dX8_fillField_93 (by decide) ?_
                refine lv_iload hx hb dX8_fillField_96 (lv_at hl 8 rfl) ?_
                refine lv_iconst (v := jI 2) hx hb dX8_fillField_98 rfl ?_
                refine lv_iand hx hb dX8_fillField_99 ?_
                refine x_eqi (fun z181 hz181 ez181 => ?_)
                refine x_if_ne (tgt := 106) hx hb (by omega) dX8_fillField_100 (by decide) (fun c182 => ?_) (fun c182 => ?_)
                · refine lv_ldc2 (v := jL (-1)) hx hb hown (hts (.constantLong RX8 88 (-1)) (by first | exact gj_X8_fillField_0 _ (gp_4 (gp_1 gp_h)) | decide +kernel)) dX8_fillField_106 ?_
                  refine lv_lstore (lv' := [(8, .long (jL (-1))), (7, .int (jI (X 21 r2 z4))), (6, .int (jI z4)), (0, .ref (ad 0 0)), (1, .ref (ad 15 x)), (2, .ref (ad 7 g)), (3, .int (jI slot)), (4, .int (jI f)), (5, .int (jI rule))]) hx hb dX8_fillField_109 hl (by decide) rfl (fun ls hl => ?_)
                  refine lv_iload hx hb dX8_fillField_111 (lv_at hl 1 rfl) ?_
                  refine gos_i (run_S (As := [.int (jI (X 21 r2 z4))]) (rest := []) hx hb hml hown hts (c_X8_isRowLane l D tc base ad cnt X Y ln (X 21 r2 z4) (by omega)) (cwS 1 hts gX8_fillField_X8_isRowLane rfl rfl rfl (by first | exact hd_X8_isRowLane | decide +kernel) ⟨Nat.le_of_ble_eq_true rfl, Nat.le_of_ble_eq_true rfl⟩) hK hw rfl hl.1 rfl (Nat.le_of_ble_eq_true rfl) dX8_fillField_113 ⟨(by show _ ≤ (2 : Nat); omega), (by show _ ≤ (14 : Nat); omega)⟩) hS (fun z183 u184 H locs p185 hw hS => ?_)
                  obtain ⟨eu184, p185⟩ := p185
                  subst eu184
                  rcases p185 with ⟨ez183, p185⟩ | ⟨ez183, p185⟩
                  · subst ez183
                    refine x_if_eqF (tgt := 152) hx hb (by omega) (by decide) dX8_fillField_116 (by decide) ?_
                    refine lv_aload_n hx hb dX8_fillField_119 rfl (lv_at hl 4 rfl) ?_
                    refine x_geto hx hb hf6 hw (by omega) (by omega) sl_15_2 lk158 dX8_fillField_120 ?_
                    refine lv_iload hx hb dX8_fillField_123 (lv_at hl 2 rfl) ?_
                    refine lv_lload hx hb dX8_fillField_125 (lv_at hl 0 rfl) ?_
                    refine lv_ldc2 (v := jL (-1)) hx hb hown (hts (.constantLong RX8 88 (-1)) (by first | exact gj_X8_fillField_0 _ (gp_4 (gp_1 gp_h)) | decide +kernel)) dX8_fillField_127 ?_
                    refine x_lcmp hx hb (by omega) (by omega) dX8_fillField_130 ?_
                    obtain ⟨z186, ez186⟩ : ∃ y : Int, y = cmpZ (-1) (-1) := ⟨_, rfl⟩
                    rw [← ez186]
                    have gz186 : (z186 < 0 ↔ ((-1) : Int) < (-1)) ∧ (z186 = 0 ↔ ((-1) : Int) = (-1)) ∧ -1 ≤ z186 ∧ z186 ≤ 1 := by rw [ez186]; exact ⟨cmpZ_lt, cmpZ_eq, (cmpZ_r _ _).1, (cmpZ_r _ _).2⟩
                    clear ez186
                    refine x_if_ne (tgt := 138) hx hb (by omega) dX8_fillField_131 (by decide) (fun c187 => ?_) (fun c187 => ?_)
                    · replace c187 := cz_neT gz186 c187
                      clear gz186
                      have hv9 := hv (by omega)
                      refine lv_aload_n hx hb dX8_fillField_138 rfl (lv_at hl 3 rfl) ?_
                      refine lv_aload_n hx hb dX8_fillField_139 rfl (lv_at hl 5 rfl) ?_
                      refine lv_lload hx hb dX8_fillField_140 (lv_at hl 0 rfl) ?_
                      refine x_l2i hx hb dX8_fillField_142 ?_
                      refine lv_iload hx hb dX8_fillField_143 (lv_at hl 1 rfl) ?_
                      refine gos_r (run_V (As := [.ref (ad 7 g), .int (jI (-1)), .int (jI (X 21 r2 z4))]) (rest := [.int (jI z4), .ref (ad 17 x)]) hx hb hml hown hts (c_X8_rowPutBack l D tc base ad cnt X Y ln hR hFx hLn hCI hOw hN g (-1) (X 21 r2 z4) (by omega) (by omega) (by omega)) (cwV 3 hts gX8_fillField_X8_rowPutBack rfl rfl rfl (by first | exact hd_X8_rowPutBack | decide +kernel) ⟨Nat.le_of_ble_eq_true rfl, Nat.le_of_ble_eq_true rfl⟩) hK hw (by first | exact Int.le_refl 0 | omega) (by first | exact zlt hc0 | omega) sl_0_0 rfl rfl hl.1 rfl (Nat.le_of_ble_eq_true rfl) dX8_fillField_145 ⟨(by show _ ≤ (2 : Nat); omega), (by show _ ≤ (14 : Nat); omega)⟩) hS (fun u189 H locs p190 hw hS => ?_) (fun z188 u189 H locs p190 hw hS => ?_)
                      · obtain ⟨ad, cnt, X191, Y192, ln, eu189, hE193, hFx, hOw, hLn, hRX191, hG194, hJ195, hCIX191, p190, hrpX191⟩ := p190
                        subst eu189
                        obtain ⟨r9, e9, -⟩ := p190
                        cases e9
                      · obtain ⟨ad, cnt, X196, Y197, ln, eu189, hE198, hFx, hOw, hLn, hRX196, hG199, hJ200, hCIX196, p190, hrpX196⟩ := p190
                        subst eu189
                        have hFX196 : Frm [1600, 2602, 2700] X X196 := Frm.tr Frm.rf (Frm.mono hG199 (by first | exact nls_of rfl | decide))
                        have hHY197 : Frm [1700, 600] Y Y197 := Frm.tr Frm.rf (Frm.mono hJ200 (by first | exact nls_of rfl | decide))
                        have hz188 : 0 ≤ z188 ∧ z188 < cnt 26 := by obtain ⟨r9, e9, h1, h2⟩ := p190; cases e9; exact ⟨h1, h2⟩
                        have hE := Ext.tr hE hE198
                        have hm201 := hE198.2.1 19
                        have hm202 := hE198.2.1 25
                        have hm203 := hE198.2.1 26
                        have hN : 0 ≤ cnt 25 ∧ 0 ≤ cnt 26 := by omega
                        have ha204 := hE198.1 0 0 (by omega) (by omega)
                        have ha205 := hE198.1 15 x (by omega) (by omega)
                        have ha206 := hE198.1 7 g (by omega) (by omega)
                        have ha207 := hE198.1 17 x (by omega) (by omega)
                        have hc0 : cnt 0 = 1 := hFx.at 0 1 (by decide)
                        have hc6 : cnt 6 = 1 := hFx.at 6 1 (by decide)
                        have hc7 : cnt 7 = 6 := hFx.at 7 6 (by decide)
                        have hc10 : cnt 10 = 6 := hFx.at 10 6 (by decide)
                        have hc11 : cnt 11 = 6 := hFx.at 11 6 (by decide)
                        have hc12 : cnt 12 = 6 := hFx.at 12 6 (by decide)
                        have hc15 : cnt 15 = 30 := hFx.at 15 30 (by decide)
                        have hc16 : cnt 16 = 30 := hFx.at 16 30 (by decide)
                        have hc17 : cnt 17 = 30 := hFx.at 17 30 (by decide)
                        have hc21 : cnt 21 = cnt 19 := hFx.2.1 21 (by decide)
                        have hc27 : cnt 27 = cnt 26 := hFx.2.2
                        have hl : lv_has ls 10 [(8, .long (jL (-1))), (7, .int (jI (X 21 r2 z4))), (6, .int (jI z4)), (0, .ref (ad 0 0)), (1, .ref (ad 15 x)), (2, .ref (ad 7 g)), (3, .int (jI slot)), (4, .int (jI f)), (5, .int (jI rule))] := by rw [ha204, ha205, ha206]; exact hl
                        refine W.eq (g2 := F0 m 148 ls [.ref (ad 26 z188), .int (jI z4), .ref (ad 17 x)]) (by first | rfl | (rw [ha207]; done) | (rw [ha207]; rfl)) ?_
                        refine x_aast hx hb hK.1 hw hS (by omega) (by omega) ar_17 rfl rfl sl_26_0 (len_E ar_17 (by first | exact Nat.ne_of_beq_eq_false rfl | decide)) (by omega) (by omega) (by omega) (by omega) (by omega) dX8_fillField_148 (fun H locs hw hS => ?_)
                        obtain ⟨Y208, hY208⟩ : ∃ Yq, Yq = u3 Y197 17 x z4 (some z188) := ⟨_, rfl⟩
                        rw [← hY208] at hw
                        have hVY208 : Y208 17 x z4 = (some z188) := by rw [hY208]; exact u3_s _ _ _ _ _
                        have hHY208 : Frm [1700, 600] Y Y208 := by rw [hY208]; exact Frm.set hHY197 (show 1700 ∈ [1700, 600] by first | exact nlm_in rfl | decide)
                        refine lv_goto (tgt := 192) hx hb dX8_fillField_149 (by decide) ?_
                        refine lv_iconst (v := jI 0) hx hb dX8_fillField_192 rfl ?_
                        rw [hQ9]
                        refine ret_i (mc := 2) (ms := 14) hx hb hr hlocks hw hS (by first | exact Nat.le_of_ble_eq_true rfl | omega) (by first | exact Nat.le_of_ble_eq_true rfl | omega) dX8_fillField_193 ?_
                        have q209 : Frm [1700] Y197 Y208 := by rw [hY208]; exact Frm.set Frm.rf (show 1700 ∈ [1700] by first | exact nlm_in rfl | decide)
                        have hCq210 : CInv cnt X196 Y208 ln := cinv_frm (M := []) (N := [1700]) hCIX196 Frm.rf q209 (by decide) (by decide)
                        have ht211o : toC X Y x g slot = z4 := by unfold toC; rw [tyo_some y1]; exact (p6.2.2.2).symm
                        have ht211l : tlC X Y x g slot = X 21 r2 z4 := by unfold tlC; rw [ht211o, tyo_some y1]
                        have htw212 : twC X Y x g slot = X 12 g slot := (by unfold twC bdC; rw [ht211l]; (try delta Hid at *); (repeat' split) <;> omega)
                        exact ⟨ad, cnt, X196, Y208, ln, rfl, hE9 _ _ _ hE, hFx, hOw, hLn, hRX196, hFX196, hHY208, hCq210, by omega, (by unfold fvC; rw [ht211o, ht211l]; exact (fvF_0 (by omega) (by (try delta Hid at *); omega) (by unfold bdC andZ; (try delta Hid at *); split <;> omega)).symm), fun q => (by exfalso; omega), fun _ => Or.inr (Or.inr (Or.inr ⟨(by rw [ht211o]; omega), (by rw [ht211l]; (try delta Hid at *); omega), (by rw [htw212]; omega), (by obtain ⟨q9, q8, q7⟩ := hrpX196; exact ⟨Y197, q9, (by first | (rw [htw212, ht211l]; exact q7) | (exfalso; (try delta Hid at *); omega)), (by rw [ht211o, ← q8]; exact hY208)⟩)⟩))⟩
                    · replace c187 := cz_neF gz186 c187
                      clear gz186
                      refine lv_null hx hb dX8_fillField_134 ?_
                      refine lv_goto (tgt := 148) hx hb dX8_fillField_135 (by decide) ?_
                      refine x_aastn hx hb hK.1 hw hS (by omega) (by omega) ar_17 rfl (len_E ar_17 (by first | exact Nat.ne_of_beq_eq_false rfl | decide)) (by omega) (by omega) (by omega) dX8_fillField_148 (fun H locs hw hS => ?_)
                      obtain ⟨Y213, hY213⟩ : ∃ Yq, Yq = u3 Y 17 x z4 none := ⟨_, rfl⟩
                      rw [← hY213] at hw
                      have hVY213 : Y213 17 x z4 = none := by rw [hY213]; exact u3_s _ _ _ _ _
                      have hHY213 : Frm [1700, 600] Y Y213 := by rw [hY213]; exact Frm.set Frm.rf (show 1700 ∈ [1700, 600] by first | exact nlm_in rfl | decide)
                      refine lv_goto (tgt := 192) hx hb dX8_fillField_149 (by decide) ?_
                      refine lv_iconst (v := jI 0) hx hb dX8_fillField_192 rfl ?_
                      rw [hQ9]
                      refine ret_i (mc := 2) (ms := 14) hx hb hr hlocks hw hS (by first | exact Nat.le_of_ble_eq_true rfl | omega) (by first | exact Nat.le_of_ble_eq_true rfl | omega) dX8_fillField_193 ?_
                      have q214 : Frm [1700] Y Y213 := by rw [hY213]; exact Frm.set Frm.rf (show 1700 ∈ [1700] by first | exact nlm_in rfl | decide)
                      have hCq215 : CInv cnt X Y213 ln := cinv_frm (M := []) (N := [1700]) hCI Frm.rf q214 (by decide) (by decide)
                      have ht216o : toC X Y x g slot = z4 := by unfold toC; rw [tyo_some y1]; exact (p6.2.2.2).symm
                      have ht216l : tlC X Y x g slot = X 21 r2 z4 := by unfold tlC; rw [ht216o, tyo_some y1]
                      have htw217 : twC X Y x g slot = -1 := (by unfold twC bdC; rw [ht216l]; (try delta Hid at *); (repeat' split) <;> omega)
                      exact ⟨ad, cnt, X, Y213, ln, rfl, hE9 _ _ _ hE, hFx, hOw, hLn, hR, Frm.rf, hHY213, hCq215, by omega, (by unfold fvC; rw [ht216o, ht216l]; exact (fvF_0 (by omega) (by (try delta Hid at *); omega) (by unfold bdC andZ; (try delta Hid at *); split <;> omega)).symm), fun q => (by exfalso; omega), fun _ => Or.inr (Or.inr (Or.inl ⟨(by rw [ht216o]; omega), (by rw [ht216l]; (try delta Hid at *); omega), htw217, rfl, rfl, (by rw [ht216o]; exact hY213), rfl⟩))⟩
                  · subst ez183
                    refine x_if_eqT (tgt := 152) hx hb (by omega) (by decide) dX8_fillField_116 (by decide) ?_
                    refine lv_iload hx hb dX8_fillField_152 (lv_at hl 1 rfl) ?_
                    refine lv_iconst (v := jI 2) hx hb dX8_fillField_154 rfl ?_
                    refine x_icmp_ne (tgt := 183) hx hb (by omega) (by omega) dX8_fillField_155 (by decide) (fun c218 => ?_) (fun c218 => ?_)
                    · refine lv_aload_n hx hb dX8_fillField_183 rfl (lv_at hl 4 rfl) ?_
                      refine x_geto hx hb hf6 hw (by omega) (by omega) sl_15_1 lk193 dX8_fillField_184 ?_
                      refine lv_iload hx hb dX8_fillField_187 (lv_at hl 2 rfl) ?_
                      refine lv_lload hx hb dX8_fillField_189 (lv_at hl 0 rfl) ?_
                      refine x_last hx hb hK.1 hw hS (by omega) (by omega) ar_16 (len_E ar_16 (by first | exact Nat.ne_of_beq_eq_false rfl | decide)) (by omega) (by omega) (by omega) dX8_fillField_191 (fun H locs hw hS => ?_)
                      obtain ⟨X219, hX219⟩ : ∃ Xq, Xq = u3 X 16 x z4 (-1) := ⟨_, rfl⟩
                      rw [← hX219] at hw
                      have hRX219 : Rng X219 := by rw [hX219]; exact rng_set hR (show (-9223372036854775808) ≤ (-1) ∧ (-1) ≤ 9223372036854775807 by omega)
                      have hVX219 : X219 16 x z4 = (-1) := by rw [hX219]; exact u3_s _ _ _ _ _
                      have hFX219 : Frm [1600, 2602, 2700] X X219 := by rw [hX219]; exact Frm.set Frm.rf (show 1600 ∈ [1600, 2602, 2700] by first | exact nlm_in rfl | decide)
                      refine lv_iconst (v := jI 0) hx hb dX8_fillField_192 rfl ?_
                      rw [hQ9]
                      refine ret_i (mc := 2) (ms := 14) hx hb hr hlocks hw hS (by first | exact Nat.le_of_ble_eq_true rfl | omega) (by first | exact Nat.le_of_ble_eq_true rfl | omega) dX8_fillField_193 ?_
                      have q220 : Frm [1600] X X219 := by rw [hX219]; exact Frm.set Frm.rf (show 1600 ∈ [1600] by first | exact nlm_in rfl | decide)
                      have hCq221 : CInv cnt X219 Y ln := cinv_frm (M := [1600]) (N := []) hCI q220 Frm.rf (by decide) (by decide)
                      have ht222o : toC X Y x g slot = z4 := by unfold toC; rw [tyo_some y1]; exact (p6.2.2.2).symm
                      have ht222l : tlC X Y x g slot = X 21 r2 z4 := by unfold tlC; rw [ht222o, tyo_some y1]
                      have htw223 : twC X Y x g slot = (-1) := (by unfold twC bdC; rw [ht222l]; (try delta Hid at *); (repeat' split) <;> omega)
                      exact ⟨ad, cnt, X219, Y, ln, rfl, hE9 _ _ _ hE, hFx, hOw, hLn, hRX219, hFX219, Frm.rf, hCq221, by omega, (by unfold fvC; rw [ht222o, ht222l]; exact (fvF_0 (by omega) (by (try delta Hid at *); omega) (by unfold bdC andZ; (try delta Hid at *); split <;> omega)).symm), fun q => (by exfalso; omega), fun _ => Or.inr (Or.inl ⟨(by rw [ht222o]; omega), (by rw [ht222l]; (try delta Hid at *); omega), rfl, (by rw [ht222o, ht222l, htw223, if_neg (fun q9 => by omega)]; exact hX219), rfl, rfl⟩)⟩
                    · refine lv_lload hx hb dX8_fillField_158 (lv_at hl 0 rfl) ?_
                      refine lv_ldc2 (v := jL (-1)) hx hb hown (hts (.constantLong RX8 88 (-1)) (by first | exact gj_X8_fillField_0 _ (gp_4 (gp_1 gp_h)) | decide +kernel)) dX8_fillField_160 ?_
                      refine x_lcmp hx hb (by omega) (by omega) dX8_fillField_163 ?_
                      obtain ⟨z224, ez224⟩ : ∃ y : Int, y = cmpZ (-1) (-1) := ⟨_, rfl⟩
                      rw [← ez224]
                      have gz224 : (z224 < 0 ↔ ((-1) : Int) < (-1)) ∧ (z224 = 0 ↔ ((-1) : Int) = (-1)) ∧ -1 ≤ z224 ∧ z224 ≤ 1 := by rw [ez224]; exact ⟨cmpZ_lt, cmpZ_eq, (cmpZ_r _ _).1, (cmpZ_r _ _).2⟩
                      clear ez224
                      refine x_if_eq (tgt := 183) hx hb (by omega) dX8_fillField_164 (by decide) (fun c225 => ?_) (fun c225 => ?_)
                      · replace c225 := cz_eqT gz224 c225
                        clear gz224
                        refine lv_aload_n hx hb dX8_fillField_183 rfl (lv_at hl 4 rfl) ?_
                        refine x_geto hx hb hf6 hw (by omega) (by omega) sl_15_1 lk193 dX8_fillField_184 ?_
                        refine lv_iload hx hb dX8_fillField_187 (lv_at hl 2 rfl) ?_
                        refine lv_lload hx hb dX8_fillField_189 (lv_at hl 0 rfl) ?_
                        refine x_last hx hb hK.1 hw hS (by omega) (by omega) ar_16 (len_E ar_16 (by first | exact Nat.ne_of_beq_eq_false rfl | decide)) (by omega) (by omega) (by omega) dX8_fillField_191 (fun H locs hw hS => ?_)
                        obtain ⟨X226, hX226⟩ : ∃ Xq, Xq = u3 X 16 x z4 (-1) := ⟨_, rfl⟩
                        rw [← hX226] at hw
                        have hRX226 : Rng X226 := by rw [hX226]; exact rng_set hR (show (-9223372036854775808) ≤ (-1) ∧ (-1) ≤ 9223372036854775807 by omega)
                        have hVX226 : X226 16 x z4 = (-1) := by rw [hX226]; exact u3_s _ _ _ _ _
                        have hFX226 : Frm [1600, 2602, 2700] X X226 := by rw [hX226]; exact Frm.set Frm.rf (show 1600 ∈ [1600, 2602, 2700] by first | exact nlm_in rfl | decide)
                        refine lv_iconst (v := jI 0) hx hb dX8_fillField_192 rfl ?_
                        rw [hQ9]
                        refine ret_i (mc := 2) (ms := 14) hx hb hr hlocks hw hS (by first | exact Nat.le_of_ble_eq_true rfl | omega) (by first | exact Nat.le_of_ble_eq_true rfl | omega) dX8_fillField_193 ?_
                        have q227 : Frm [1600] X X226 := by rw [hX226]; exact Frm.set Frm.rf (show 1600 ∈ [1600] by first | exact nlm_in rfl | decide)
                        have hCq228 : CInv cnt X226 Y ln := cinv_frm (M := [1600]) (N := []) hCI q227 Frm.rf (by decide) (by decide)
                        have ht229o : toC X Y x g slot = z4 := by unfold toC; rw [tyo_some y1]; exact (p6.2.2.2).symm
                        have ht229l : tlC X Y x g slot = X 21 r2 z4 := by unfold tlC; rw [ht229o, tyo_some y1]
                        have htw230 : twC X Y x g slot = (-1) := (by unfold twC bdC; rw [ht229l]; (try delta Hid at *); (repeat' split) <;> omega)
                        exact ⟨ad, cnt, X226, Y, ln, rfl, hE9 _ _ _ hE, hFx, hOw, hLn, hRX226, hFX226, Frm.rf, hCq228, by omega, (by unfold fvC; rw [ht229o, ht229l]; exact (fvF_0 (by omega) (by (try delta Hid at *); omega) (by unfold bdC andZ; (try delta Hid at *); split <;> omega)).symm), fun q => (by exfalso; omega), fun _ => Or.inr (Or.inl ⟨(by rw [ht229o]; omega), (by rw [ht229l]; (try delta Hid at *); omega), rfl, (by rw [ht229o, ht229l, htw230, if_neg (fun q9 => by omega)]; exact hX226), rfl, rfl⟩)⟩
                      · replace c225 := cz_eqF gz224 c225
                        clear gz224
                        have hv9 := hv (by omega)
                        refine lv_aload_n hx hb dX8_fillField_167 rfl (lv_at hl 4 rfl) ?_
                        refine x_geto hx hb hf6 hw (by omega) (by omega) sl_15_1 lk193 dX8_fillField_168 ?_
                        refine lv_iload hx hb dX8_fillField_171 (lv_at hl 2 rfl) ?_
                        refine lv_iload hx hb dX8_fillField_173 (lv_at hl 7 rfl) ?_
                        refine x_i2l hx hb (by omega) dX8_fillField_175 ?_
                        refine lv_lload hx hb dX8_fillField_176 (lv_at hl 0 rfl) ?_
                        refine x_ladd hx hb dX8_fillField_178 ?_
                        refine x_last hx hb hK.1 hw hS (by omega) (by omega) ar_16 (len_E ar_16 (by first | exact Nat.ne_of_beq_eq_false rfl | decide)) (by omega) (by omega) (by omega) dX8_fillField_179 (fun H locs hw hS => ?_)
                        obtain ⟨X231, hX231⟩ : ∃ Xq, Xq = u3 X 16 x z4 (f + (-1)) := ⟨_, rfl⟩
                        rw [← hX231] at hw
                        have hRX231 : Rng X231 := by rw [hX231]; exact rng_set hR (show (-9223372036854775808) ≤ (f + (-1)) ∧ (f + (-1)) ≤ 9223372036854775807 by omega)
                        have hVX231 : X231 16 x z4 = (f + (-1)) := by rw [hX231]; exact u3_s _ _ _ _ _
                        have hFX231 : Frm [1600, 2602, 2700] X X231 := by rw [hX231]; exact Frm.set Frm.rf (show 1600 ∈ [1600, 2602, 2700] by first | exact nlm_in rfl | decide)
                        refine lv_goto (tgt := 192) hx hb dX8_fillField_180 (by decide) ?_
                        refine lv_iconst (v := jI 0) hx hb dX8_fillField_192 rfl ?_
                        rw [hQ9]
                        refine ret_i (mc := 2) (ms := 14) hx hb hr hlocks hw hS (by first | exact Nat.le_of_ble_eq_true rfl | omega) (by first | exact Nat.le_of_ble_eq_true rfl | omega) dX8_fillField_193 ?_
                        have q232 : Frm [1600] X X231 := by rw [hX231]; exact Frm.set Frm.rf (show 1600 ∈ [1600] by first | exact nlm_in rfl | decide)
                        have hCq233 : CInv cnt X231 Y ln := cinv_frm (M := [1600]) (N := []) hCI q232 Frm.rf (by decide) (by decide)
                        have ht234o : toC X Y x g slot = z4 := by unfold toC; rw [tyo_some y1]; exact (p6.2.2.2).symm
                        have ht234l : tlC X Y x g slot = X 21 r2 z4 := by unfold tlC; rw [ht234o, tyo_some y1]
                        have htw235 : twC X Y x g slot = X 12 g slot := (by unfold twC bdC; rw [ht234l]; (try delta Hid at *); (repeat' split) <;> omega)
                        exact ⟨ad, cnt, X231, Y, ln, rfl, hE9 _ _ _ hE, hFx, hOw, hLn, hRX231, hFX231, Frm.rf, hCq233, by omega, (by unfold fvC; rw [ht234o, ht234l]; exact (fvF_0 (by omega) (by (try delta Hid at *); omega) (by unfold bdC andZ; (try delta Hid at *); split <;> omega)).symm), fun q => (by exfalso; omega), fun _ => Or.inr (Or.inl ⟨(by rw [ht234o]; omega), (by rw [ht234l]; (try delta Hid at *); omega), rfl, (by first | (rw [ht234o, ht234l, htw235, if_pos ⟨by omega, by omega⟩]; exact hX231) | (exfalso; (try delta Hid at *); omega)), rfl, rfl⟩)⟩
                · refine lv_bipush (v := jI 7) hx hb dX8_fillField_103 (by decide) ?_
                  rw [hQ9]
                  refine ret_i (mc := 2) (ms := 14) hx hb hr hlocks hw hS (by first | exact Nat.le_of_ble_eq_true rfl | omega) (by first | exact Nat.le_of_ble_eq_true rfl | omega) dX8_fillField_105 ?_
                  have ht236o : toC X Y x g slot = z4 := by unfold toC; rw [tyo_some y1]; exact (p6.2.2.2).symm
                  have ht236l : tlC X Y x g slot = X 21 r2 z4 := by unfold tlC; rw [ht236o, tyo_some y1]
                  exact ⟨ad, cnt, X, Y, ln, rfl, hE9 _ _ _ hE, hFx, hOw, hLn, hR, Frm.rf, Frm.rf, hCI, by omega, (by unfold fvC; rw [ht236o, ht236l]; exact (fvF_w (by omega) (by (try delta Hid at *); omega) ⟨by omega, by omega, (by unfold bdC; (try delta Hid at *); split <;> omega), (by unfold andZ; omega)⟩).symm), fun _ => ⟨rfl, rfl, rfl, rfl⟩, fun q => (by exfalso; omega)⟩
        · subst ez12
          refine x_if_neF (tgt := 64) hx hb (by omega) (by decide) dX8_fillField_58 (by decide) ?_
          refine lv_bipush (v := jI 9) hx hb dX8_fillField_61 (by decide) ?_
          rw [hQ9]
          refine ret_i (mc := 2) (ms := 14) hx hb hr hlocks hw hS (by first | exact Nat.le_of_ble_eq_true rfl | omega) (by first | exact Nat.le_of_ble_eq_true rfl | omega) dX8_fillField_63 ?_
          have ht237o : toC X Y x g slot = z4 := by unfold toC; rw [tyo_some y1]; exact (p6.2.2.2).symm
          have ht237l : tlC X Y x g slot = X 21 r2 z4 := by unfold tlC; rw [ht237o, tyo_some y1]
          exact ⟨ad, cnt, X, Y, ln, rfl, hE9 _ _ _ hE, hFx, hOw, hLn, hR, Frm.rf, Frm.rf, hCI, by omega, (by unfold fvC; rw [ht237o, ht237l]; exact (fvF_l (by omega) (by (try delta Hid at *); omega)).symm), fun _ => ⟨rfl, rfl, rfl, rfl⟩, fun q => (by exfalso; omega)⟩
    · refine lv_iload hx hb dX8_fillField_21 (lv_at hl 6 rfl) ?_
      refine lv_iconst (v := jI 1) hx hb dX8_fillField_23 rfl ?_
      refine lv_iand hx hb dX8_fillField_24 ?_
      refine x_eqi (fun z238 hz238 ez238 => ?_)
      refine x_if_eq (tgt := 32) hx hb (by omega) dX8_fillField_25 (by decide) (fun c239 => ?_) (fun c239 => ?_)
      · refine lv_bipush (v := jI 8) hx hb dX8_fillField_32 (by decide) ?_
        rw [hQ9]
        refine ret_i (mc := 2) (ms := 14) hx hb hr hlocks hw hS (by first | exact Nat.le_of_ble_eq_true rfl | omega) (by first | exact Nat.le_of_ble_eq_true rfl | omega) dX8_fillField_34 ?_
        have ht240o : toC X Y x g slot = z4 := by unfold toC; rw [tyo_some y1]; exact (p6.2.2.2).symm
        have ht240l : tlC X Y x g slot = X 21 r2 z4 := by unfold tlC; rw [ht240o, tyo_some y1]
        exact ⟨ad, cnt, X, Y, ln, rfl, hE9 _ _ _ hE, hFx, hOw, hLn, hR, Frm.rf, Frm.rf, hCI, by omega, (by unfold fvC; rw [ht240o, ht240l]; exact (fvF_g (by omega) (by unfold andZ; omega)).symm), fun _ => ⟨rfl, rfl, rfl, rfl⟩, fun q => (by exfalso; omega)⟩
      · refine lv_iconst (v := jI 0) hx hb dX8_fillField_28 rfl ?_
        refine lv_goto (tgt := 34) hx hb dX8_fillField_29 (by decide) ?_
        rw [hQ9]
        refine ret_i (mc := 2) (ms := 14) hx hb hr hlocks hw hS (by first | exact Nat.le_of_ble_eq_true rfl | omega) (by first | exact Nat.le_of_ble_eq_true rfl | omega) dX8_fillField_34 ?_
        have ht241o : toC X Y x g slot = z4 := by unfold toC; rw [tyo_some y1]; exact (p6.2.2.2).symm
        have ht241l : tlC X Y x g slot = X 21 r2 z4 := by unfold tlC; rw [ht241o, tyo_some y1]
        exact ⟨ad, cnt, X, Y, ln, rfl, hE9 _ _ _ hE, hFx, hOw, hLn, hR, Frm.rf, Frm.rf, hCI, by omega, (by unfold fvC; rw [ht241o, ht241l]; exact (fvF_g0 (by omega) (by unfold andZ; omega)).symm), fun q => (by exfalso; omega), fun _ => Or.inl ⟨(by rw [ht241o]; omega), rfl, rfl, rfl, rfl⟩⟩
end
section
set_option maxHeartbeats 4000000 in
set_option maxRecDepth 100000 in
theorem c_X8_fillThings (l : Launch) (D : va_G) (tc : Nat → ClassId) (base : Nat) (ad : Nat → Int → Nat) (cnt : Nat → Int) (X : Nat → Int → Int → Int) (Y : Nat → Int → Int → Option Int) (ln : Int → Int) (hR : Rng X) (hFx : Fx cnt) (hLn : LnOK ln) (hCI : CInv cnt X Y ln) (hOw : Own cnt) (hN : 0 ≤ cnt 25 ∧ 0 ≤ cnt 26) (g f rule : Int) (hg : 0 ≤ g ∧ g < 6) (hf : 0 ≤ f ∧ f + X 7 g 0 ≤ X 0 0 3) (hrule : -2147483648 ≤ rule ∧ rule ≤ 2147483647) (hRv : cRv X) : KI l D tc base yX8_fillThings wsX8_fillThings ({ frames := 5, cells := 300, slots := 2100, locals := 109 } : Room) [.ref (ad 0 0), .ref (ad 7 g), .int (jI f), .int (jI rule)] (ad, cnt, X, Y, ln) 300 2100 (fun z u => ∃ (ad1 : Nat → Int → Nat) (cnt1 : Nat → Int) (X1 : Nat → Int → Int → Int) (Y1 : Nat → Int → Int → Option Int) (ln1 : Int → Int), u = (ad1, cnt1, X1, Y1, ln1) ∧ Ext ad cnt ln ad1 cnt1 ln1 ∧ Fx cnt1 ∧ Own cnt1 ∧ LnOK ln1 ∧ Rng X1 ∧ Frm [1600, 2602, 2700, 3201, 3202, 3203, 3204] X X1 ∧ Frm [1700, 600] Y Y1 ∧ CInv cnt1 X1 Y1 ln1 ∧ (0 ≤ z ∧ z ≤ 10) ∧ ∃ Yz : Nat → Int → Int → Option Int, Frm [600] Y Yz ∧ (∀ j, 0 ≤ j → j < 3 * X 7 g 6 → Yz 6 0 j = none) ∧ ((z = 0 ∧ rTrC g f rule (X 7 g 0).toNat (cnt 26) X Yz ln (cnt1 26) X1 Y1 ln1) ∨ (z ≠ 0 ∧ ∃ (r k cA cP : Int) (XA XP : Nat → Int → Int → Int) (YA YP : Nat → Int → Int → Option Int) (lA lP : Int → Int), 0 ≤ r ∧ r < X 7 g 0 ∧ 0 ≤ k ∧ k < X 9 g r ∧ rTrC g f rule r.toNat (cnt 26) X Yz ln cA XA YA lA ∧ fTrC g r f rule k.toNat cA XA YA lA cP XP YP lP ∧ fvC XP YP (f + r) g (5 * r + k) rule = z ∧ cnt1 26 = cP ∧ Y1 = YP ∧ ln1 = lP ∧ Frm [3201, 3202, 3203, 3204] XP X1))) := by
  refine K_of (cc := cX8_fillThings) (maxL := 8) (ret := (some .int)) (by decide) rfl (Nat.le_of_ble_eq_true rfl) ?_
  intro p e s m below meth c ls hx hb hr hml hown hts hlocks hl hK hw hS
  have hown : s.vm.findClass RX8 = some m.cls := hown
  have hbs : base ≤ s.heap.size := wd_size hw
  obtain ⟨av9, hav9⟩ : ∃ a9 : Array Value, a9 = ([.ref (ad 0 0), .ref (ad 7 g), .int (jI f), .int (jI rule)] : List Value).toArray := ⟨_, rfl⟩
  rw [← hav9] at hts ⊢
  obtain ⟨Q9, hQ9⟩ : ∃ q9Q : State → Prop, q9Q = MQ below (QI D tc base (fun z u => ∃ (ad1 : Nat → Int → Nat) (cnt1 : Nat → Int) (X1 : Nat → Int → Int → Int) (Y1 : Nat → Int → Int → Option Int) (ln1 : Int → Int), u = (ad1, cnt1, X1, Y1, ln1) ∧ Ext ad cnt ln ad1 cnt1 ln1 ∧ Fx cnt1 ∧ Own cnt1 ∧ LnOK ln1 ∧ Rng X1 ∧ Frm [1600, 2602, 2700, 3201, 3202, 3203, 3204] X X1 ∧ Frm [1700, 600] Y Y1 ∧ CInv cnt1 X1 Y1 ln1 ∧ (0 ≤ z ∧ z ≤ 10) ∧ ∃ Yz : Nat → Int → Int → Option Int, Frm [600] Y Yz ∧ (∀ j, 0 ≤ j → j < 3 * X 7 g 6 → Yz 6 0 j = none) ∧ ((z = 0 ∧ rTrC g f rule (X 7 g 0).toNat (cnt 26) X Yz ln (cnt1 26) X1 Y1 ln1) ∨ (z ≠ 0 ∧ ∃ (r k cA cP : Int) (XA XP : Nat → Int → Int → Int) (YA YP : Nat → Int → Int → Option Int) (lA lP : Int → Int), 0 ≤ r ∧ r < X 7 g 0 ∧ 0 ≤ k ∧ k < X 9 g r ∧ rTrC g f rule r.toNat (cnt 26) X Yz ln cA XA YA lA ∧ fTrC g r f rule k.toNat cA XA YA lA cP XP YP lP ∧ fvC XP YP (f + r) g (5 * r + k) rule = z ∧ cnt1 26 = cP ∧ Y1 = YP ∧ ln1 = lP ∧ Frm [3201, 3202, 3203, 3204] XP X1)))) av9 s 300 2100 (frA base) := ⟨_, rfl⟩
  rw [← hQ9]
  obtain ⟨ad0, ha0⟩ : ∃ a, a = ad := ⟨_, rfl⟩
  obtain ⟨cnt0, hc0⟩ : ∃ a, a = cnt := ⟨_, rfl⟩
  obtain ⟨ln0, hl0⟩ : ∃ a, a = ln := ⟨_, rfl⟩
  have hE9 : ∀ a c n, Ext ad0 cnt0 ln0 a c n → Ext ad cnt ln a c n := by rw [ha0, hc0, hl0]; exact fun _ _ _ h => h
  have hE : Ext ad0 cnt0 ln0 ad cnt ln := by rw [ha0, hc0, hl0]; exact Ext.rf
  clear ha0 hc0 hl0
  have hi4 : ∀ w ∈ wsX40, w ∈ wsX8_fillThings := fun w h => List.mem_cons_of_mem _ (List.mem_append_left _ (List.mem_append_left _ (List.mem_append_left _ (List.mem_append_left _ (List.mem_append_left _ (List.mem_append_right _ h))))))
  have hf4 : fctx s m _ RX8 wsX8_fillThings D tc RX4 TX4 9 4 := ⟨hts, hi4, hown, hK.1, rfl⟩
  have hi8 : ∀ w ∈ wsX80, w ∈ wsX8_fillThings := fun w h => List.mem_cons_of_mem _ (List.mem_append_left _ (List.mem_append_left _ (List.mem_append_left _ (List.mem_append_left _ (List.mem_append_right _ h)))))
  have hf8 : fctx s m _ RX8 wsX8_fillThings D tc RX8 TX8 12 8 := ⟨hts, hi8, hown, hK.1, rfl⟩
  have lk17 := hts (.fieldLink RX8 17 (TX8 2).1 (TX8 2).2.1 (TX8 2).2.2.1) (gj_X8_fillThings_0 _ (gp_4 gp_h))
  have lk44 := hts (.fieldLink RX8 44 (TX8 9).1 (TX8 9).2.1 (TX8 9).2.2.1) (gj_X8_fillThings_0 _ (gp_1 gp_h))
  have lk58 := hts (.fieldLink RX8 58 (TX8 11).1 (TX8 11).2.1 (TX8 11).2.2.1) (gj_X8_fillThings_0 _ (gp_4 (gp_1 gp_h)))
  have lk224 := hts (.fieldLink RX8 224 (TX4 3).1 (TX4 3).2.1 (TX4 3).2.2.1) (gj_X8_fillThings_0 _ (gp_4 (gp_1 (gp_1 gp_h))))
  have lk231 := hts (.fieldLink RX8 231 (TX4 0).1 (TX4 0).2.1 (TX4 0).2.2.1) (gj_X8_fillThings_0 _ (gp_1 (gp_1 gp_h)))
  have lk234 := hts (.fieldLink RX8 234 (TX4 6).1 (TX4 6).2.1 (TX4 6).2.2.1) (gj_X8_fillThings_0 _ (gp_h))
  have lk338 := hts (.fieldLink RX8 338 (TX4 2).1 (TX4 2).2.1 (TX4 2).2.2.1) (gj_X8_fillThings_0 _ (gp_1 (gp_1 (gp_1 gp_h))))
  have hc0 : cnt 0 = 1 := hFx.at 0 1 (by decide)
  have hc2 : cnt 2 = 1 := hFx.at 2 1 (by decide)
  have hc6 : cnt 6 = 1 := hFx.at 6 1 (by decide)
  have hc7 : cnt 7 = 6 := hFx.at 7 6 (by decide)
  have hc9 : cnt 9 = 6 := hFx.at 9 6 (by decide)
  have hc10 : cnt 10 = 6 := hFx.at 10 6 (by decide)
  have hc15 : cnt 15 = 30 := hFx.at 15 30 (by decide)
  have hc16 : cnt 16 = 30 := hFx.at 16 30 (by decide)
  have hc17 : cnt 17 = 30 := hFx.at 17 30 (by decide)
  have hc27 : cnt 27 = cnt 26 := hFx.2.2
  have hc32 : cnt 32 = 1 := hFx.at 32 1 (by decide)
  have hl : lv_has ls 8 [(0, .ref (ad 0 0)), (1, .ref (ad 7 g)), (2, .int (jI f)), (3, .int (jI rule))] := hl
  have ftc : 0 ≤ X 0 0 3 ∧ X 0 0 3 ≤ 30 := hR 0 0 3
  have fty : 0 ≤ X 0 0 1 ∧ X 0 0 1 ≤ 8 := hR 0 0 1
  have hct : cnt 19 = X 0 0 1 := hCI.2.2.2.1.1
  have hfj : 0 ≤ X 29 0 3 ∧ X 29 0 3 ≤ 4 := hR 29 0 3
  have hfn : 0 ≤ X 29 0 1 ∧ X 29 0 1 ≤ 80 := hR 29 0 1
  have frc : 0 ≤ X 7 g 0 ∧ X 7 g 0 ≤ 30 := hR 7 g 0
  have frw : 0 ≤ X 7 g 6 ∧ X 7 g 6 ≤ 150 := hR 7 g 6
  refine lv_iconst (v := jI 0) hx hb dX8_fillThings_0 rfl ?_
  refine lv_istore (lv' := [(4, .int (jI 0)), (0, .ref (ad 0 0)), (1, .ref (ad 7 g)), (2, .int (jI f)), (3, .int (jI rule))]) hx hb dX8_fillThings_1 hl (by decide) rfl (fun ls hl => ?_)
  have lp3 : ∀ (nn : Nat) (j : Int) (Yz : Nat → Int → Int → Option Int) (H : Heap) (locs : List Loc) (ls : Array Slot), (450 - j) < (nn : Int) → (Frm [600] Y Yz) → (0 ≤ j ∧ j ≤ 450) → (∀ j9, 0 ≤ j9 → j9 < j → Yz 6 0 j9 = none) → wd D tc base (ad, cnt, X, Yz, ln) H → va_S (frA base) s.heap H locs → lv_has ls 8 [(0, .ref (ad 0 0)), (1, .ref (ad 7 g)), (2, .int (jI f)), (3, .int (jI rule)), (4, .int (jI j))] → W p l e ({ frames := 5, cells := 300, slots := 2100, locals := 109 } : Room) s m av9 below meth c H locs 0 0 Q9 (F0 m 3 ls []) := by
    intro nn
    induction nn with
    | zero => intro j Yz H locs ls hm hGYz hj hnul hw hS hl; exfalso; omega
    | succ nn ih3 =>
      intro j Yz H locs ls hm hGYz hj hnul hw hS hl
      have hHYz : Frm [1700, 600] Y Yz := Frm.tr Frm.rf (Frm.mono hGYz (by first | exact nls_of rfl | decide))
      refine lv_iload hx hb dX8_fillThings_3 (lv_at hl 4 rfl) ?_
      refine lv_aload_n hx hb dX8_fillThings_5 rfl (lv_at hl 1 rfl) ?_
      refine x_geti (jz := 6) hx hb hf4 hw (by omega) (by omega) sl_7_6 rfl lk234 dX8_fillThings_6 ?_
      have f1 : 0 ≤ X 7 g 6 ∧ X 7 g 6 ≤ 150 := hR 7 g 6
      refine lv_iconst (v := jI 3) hx hb dX8_fillThings_9 rfl ?_
      refine x_imul hx hb dX8_fillThings_10 ?_
      refine x_icmp_ge (tgt := 28) hx hb (by omega) (by omega) dX8_fillThings_11 (by decide) (fun c2 => ?_) (fun c2 => ?_)
      · obtain ⟨cB, hcB⟩ : ∃ q : Int, q = cnt 26 := ⟨_, rfl⟩
        obtain ⟨lnB, hlB⟩ : ∃ q : Int → Int, q = ln := ⟨_, rfl⟩
        refine lv_iconst (v := jI 0) hx hb dX8_fillThings_28 rfl ?_
        refine lv_istore (lv' := [(4, .int (jI 0)), (0, .ref (ad 0 0)), (1, .ref (ad 7 g)), (2, .int (jI f)), (3, .int (jI rule))]) hx hb dX8_fillThings_29 hl (by decide) rfl (fun ls hl => ?_)
        have lp31 : ∀ (nn : Nat) (r : Int) (Xa : Nat → Int → Int → Int) (Ya : Nat → Int → Int → Option Int) (ad : Nat → Int → Nat) (cnt : Nat → Int) (ln : Int → Int) (cl sl : Nat) (H : Heap) (locs : List Loc) (ls : Array Slot), (30 - r) < (nn : Int) → (Rng Xa) → (Frm [1600, 2602, 2700] X Xa) → (Frm [1700, 600] Yz Ya) → (Ext ad0 cnt0 ln0 ad cnt ln) → (Fx cnt) → (Own cnt) → (LnOK ln) → (0 ≤ cnt 25 ∧ 0 ≤ cnt 26) → (0 ≤ r ∧ r ≤ 30) → ((cl : Int) ≤ 10 * r ∧ (sl : Int) ≤ 70 * r) → (CInv cnt Xa Ya ln) → (r ≤ X 7 g 0) → (rTrC g f rule r.toNat cB X Yz lnB (cnt 26) Xa Ya ln) → wd D tc base (ad, cnt, Xa, Ya, ln) H → va_S (frA base) s.heap H locs → lv_has ls 8 [(0, .ref (ad 0 0)), (1, .ref (ad 7 g)), (2, .int (jI f)), (3, .int (jI rule)), (4, .int (jI r))] → W p l e ({ frames := 5, cells := 300, slots := 2100, locals := 109 } : Room) s m av9 below meth c H locs cl sl Q9 (F0 m 31 ls []) := by
          intro nn
          induction nn with
          | zero => intro r Xa Ya ad cnt ln cl sl H locs ls hm hRXa hGXa hGYa hE hFx hOw hLn hN hr0 hcl hCIXa hrf hTr hw hS hl; exfalso; omega
          | succ nn ih31 =>
            intro r Xa Ya ad cnt ln cl sl H locs ls hm hRXa hGXa hGYa hE hFx hOw hLn hN hr0 hcl hCIXa hrf hTr hw hS hl
            have hc0 : cnt 0 = 1 := hFx.at 0 1 (by decide)
            have hc2 : cnt 2 = 1 := hFx.at 2 1 (by decide)
            have hc6 : cnt 6 = 1 := hFx.at 6 1 (by decide)
            have hc7 : cnt 7 = 6 := hFx.at 7 6 (by decide)
            have hc9 : cnt 9 = 6 := hFx.at 9 6 (by decide)
            have hc10 : cnt 10 = 6 := hFx.at 10 6 (by decide)
            have hc15 : cnt 15 = 30 := hFx.at 15 30 (by decide)
            have hc16 : cnt 16 = 30 := hFx.at 16 30 (by decide)
            have hc17 : cnt 17 = 30 := hFx.at 17 30 (by decide)
            have hc27 : cnt 27 = cnt 26 := hFx.2.2
            have hc32 : cnt 32 = 1 := hFx.at 32 1 (by decide)
            have hHYa : Frm [1700, 600] Y Ya := Frm.tr hHYz (Frm.mono hGYa (by first | exact nls_of rfl | decide))
            have hFXa : Frm [1600, 2602, 2700, 3201, 3202, 3203, 3204] X Xa := Frm.tr Frm.rf (Frm.mono hGXa (by first | exact nls_of rfl | decide))
            obtain ⟨cA, hcA⟩ : ∃ q : Int, q = cnt 26 := ⟨_, rfl⟩
            obtain ⟨lnA, hlA⟩ : ∃ q : Int → Int, q = ln := ⟨_, rfl⟩
            have hTr9 : rTrC g f rule r.toNat cB X Yz lnB cA Xa Ya lnA := by rw [hcA, hlA]; exact hTr
            refine lv_iload hx hb dX8_fillThings_31 (lv_at hl 4 rfl) ?_
            refine lv_aload_n hx hb dX8_fillThings_33 rfl (lv_at hl 1 rfl) ?_
            refine x_geti (jz := 0) hx hb hf4 hw (by omega) (by omega) sl_7_0 rfl lk231 dX8_fillThings_34 ?_
            have e3 : Xa 7 g 0 = X 7 g 0 := by rw [hGXa 7 g 0 (show 701 ∉ [1600, 2602, 2700] by first | exact nlm_ni rfl | decide)]
            rw [e3]
            have f4 : 0 ≤ X 7 g 0 ∧ X 7 g 0 ≤ 30 := hR 7 g 0
            refine x_icmp_ge (tgt := 121) hx hb (by omega) (by omega) dX8_fillThings_37 (by decide) (fun c5 => ?_) (fun c5 => ?_)
            · refine lv_iconst (v := jI 0) hx hb dX8_fillThings_121 rfl ?_
              rw [hQ9]
              refine ret_i (mc := 300) (ms := 2100) hx hb hr hlocks hw hS (by first | exact Nat.le_of_ble_eq_true rfl | omega) (by first | exact Nat.le_of_ble_eq_true rfl | omega) dX8_fillThings_122 ?_
              exact ⟨ad, cnt, Xa, Ya, ln, rfl, hE9 _ _ _ hE, hFx, hOw, hLn, hRXa, hFXa, hHYa, hCIXa, by omega, ⟨Yz, hGYz, (fun j9 a b => hnul j9 a (by omega)), Or.inl ⟨rfl, (by rw [← hcB, ← hlB, show X 7 g 0 = r by omega]; exact hTr)⟩⟩⟩
            · refine lv_iconst (v := jI 0) hx hb dX8_fillThings_40 rfl ?_
              refine lv_istore (lv' := [(5, .int (jI 0)), (0, .ref (ad 0 0)), (1, .ref (ad 7 g)), (2, .int (jI f)), (3, .int (jI rule)), (4, .int (jI r))]) hx hb dX8_fillThings_41 hl (by decide) rfl (fun ls hl => ?_)
              have lp43 : ∀ (nn : Nat) (k : Int) (Xb : Nat → Int → Int → Int) (Yb : Nat → Int → Int → Option Int) (ad : Nat → Int → Nat) (cnt : Nat → Int) (ln : Int → Int) (cl sl : Nat) (H : Heap) (locs : List Loc) (ls : Array Slot), (5 - k) < (nn : Int) → (Rng Xb) → (Frm [1600, 2602, 2700] Xa Xb) → (Frm [1700, 600] Ya Yb) → (Ext ad0 cnt0 ln0 ad cnt ln) → (Fx cnt) → (Own cnt) → (LnOK ln) → (0 ≤ cnt 25 ∧ 0 ≤ cnt 26) → (0 ≤ k ∧ k ≤ 5) → ((cl : Int) ≤ 10 * r + 2 * k ∧ (sl : Int) ≤ 70 * r + 14 * k) → (CInv cnt Xb Yb ln) → (k ≤ X 9 g r) → (fTrC g r f rule k.toNat cA Xa Ya lnA (cnt 26) Xb Yb ln) → wd D tc base (ad, cnt, Xb, Yb, ln) H → va_S (frA base) s.heap H locs → lv_has ls 8 [(0, .ref (ad 0 0)), (1, .ref (ad 7 g)), (2, .int (jI f)), (3, .int (jI rule)), (4, .int (jI r)), (5, .int (jI k))] → W p l e ({ frames := 5, cells := 300, slots := 2100, locals := 109 } : Room) s m av9 below meth c H locs cl sl Q9 (F0 m 43 ls []) := by
                intro nn
                induction nn with
                | zero => intro k Xb Yb ad cnt ln cl sl H locs ls hm hRXb hGXb hGYb hE hFx hOw hLn hN hk hcl hCIXb hkf hTk hw hS hl; exfalso; omega
                | succ nn ih43 =>
                  intro k Xb Yb ad cnt ln cl sl H locs ls hm hRXb hGXb hGYb hE hFx hOw hLn hN hk hcl hCIXb hkf hTk hw hS hl
                  have hc0 : cnt 0 = 1 := hFx.at 0 1 (by decide)
                  have hc2 : cnt 2 = 1 := hFx.at 2 1 (by decide)
                  have hc6 : cnt 6 = 1 := hFx.at 6 1 (by decide)
                  have hc7 : cnt 7 = 6 := hFx.at 7 6 (by decide)
                  have hc9 : cnt 9 = 6 := hFx.at 9 6 (by decide)
                  have hc10 : cnt 10 = 6 := hFx.at 10 6 (by decide)
                  have hc15 : cnt 15 = 30 := hFx.at 15 30 (by decide)
                  have hc16 : cnt 16 = 30 := hFx.at 16 30 (by decide)
                  have hc17 : cnt 17 = 30 := hFx.at 17 30 (by decide)
                  have hc27 : cnt 27 = cnt 26 := hFx.2.2
                  have hc32 : cnt 32 = 1 := hFx.at 32 1 (by decide)
                  have hHYb : Frm [1700, 600] Y Yb := Frm.tr hHYa (Frm.mono hGYb (by first | exact nls_of rfl | decide))
                  have hFXb : Frm [1600, 2602, 2700, 3201, 3202, 3203, 3204] X Xb := Frm.tr hFXa (Frm.mono hGXb (by first | exact nls_of rfl | decide))
                  refine lv_iload hx hb dX8_fillThings_43 (lv_at hl 5 rfl) ?_
                  refine lv_aload_n hx hb dX8_fillThings_45 rfl (lv_at hl 1 rfl) ?_
                  refine x_geto hx hb hf4 hw (by omega) (by omega) sl_7_2 lk338 dX8_fillThings_46 ?_
                  refine lv_iload hx hb dX8_fillThings_49 (lv_at hl 4 rfl) ?_
                  refine x_iald hx hb hK.1 hw (by omega) (by omega) ar_9 (len_E ar_9 (by first | exact Nat.ne_of_beq_eq_false rfl | decide)) (by omega) (by omega) (by omega) dX8_fillThings_51 ?_
                  have e6 : ∀ p9 q9 : Int, Xb 9 p9 q9 = X 9 p9 q9 := fun p9 q9 => by rw [hGXb 9 p9 q9 (show 900 ∉ [1600, 2602, 2700] by first | exact nlm_ni rfl | decide), hGXa 9 p9 q9 (show 900 ∉ [1600, 2602, 2700] by first | exact nlm_ni rfl | decide)]
                  rw [e6 g r]
                  have f7 : 0 ≤ X 9 g r ∧ X 9 g r ≤ 5 := hR 9 g r
                  refine x_icmp_ge (tgt := 115) hx hb (by omega) (by omega) dX8_fillThings_52 (by decide) (fun c8 => ?_) (fun c8 => ?_)
                  · refine lv_iinc (v := jI (r + 1)) (lv' := [(4, .int (jI (r + 1))), (0, .ref (ad 0 0)), (1, .ref (ad 7 g)), (2, .int (jI f)), (3, .int (jI rule)), (5, .int (jI k))]) hx hb dX8_fillThings_115 hl (k := 4) rfl (jI_add _ _) (by decide) rfl (fun ls hl => ?_)
                    refine lv_goto (tgt := 31) hx hb dX8_fillThings_118 (by decide) ?_
                    have q9 : Frm [1600, 2602, 2700] X Xa := Frm.tr Frm.rf (Frm.mono hGXa (by first | exact nls_of rfl | decide))
                    have q10 : Frm [1600, 2602, 2700] X Xb := Frm.tr q9 (Frm.mono hGXb (by first | exact nls_of rfl | decide))
                    have q11 : Frm [1700, 600] Yz Ya := Frm.tr Frm.rf (Frm.mono hGYa (by first | exact nls_of rfl | decide))
                    have q12 : Frm [1700, 600] Yz Yb := Frm.tr q11 (Frm.mono hGYb (by first | exact nls_of rfl | decide))
                    exact ih31 (r + 1) Xb Yb ad cnt ln _ _ _ _ _ (by omega) hRXb q10 q12 (hE) (hFx) (hOw) (hLn) (hN) (by omega) (by omega) (hCIXb) (by omega) ((rTrC.push (c1 := cA) (ln1 := lnA) hTr9 (by omega) (by rw [show Xa 9 g r = X 9 g r from (by rw [hGXa 9 g r (show 900 ∉ [1600, 2602, 2700] by first | exact nlm_ni rfl | decide)]), show X 9 g r = k by omega]; exact hTk))) hw hS (lv_sub hl [1, 2, 3, 4, 0] rfl)
                  · refine lv_iload hx hb dX8_fillThings_55 (lv_at hl 4 rfl) ?_
                    refine lv_iconst (v := jI 5) hx hb dX8_fillThings_57 rfl ?_
                    refine x_imul hx hb dX8_fillThings_58 ?_
                    refine lv_iload hx hb dX8_fillThings_59 (lv_at hl 5 rfl) ?_
                    refine x_iadd hx hb dX8_fillThings_61 ?_
                    refine lv_istore (lv' := [(6, .int (jI ((r * 5) + k))), (0, .ref (ad 0 0)), (1, .ref (ad 7 g)), (2, .int (jI f)), (3, .int (jI rule)), (4, .int (jI r)), (5, .int (jI k))]) hx hb dX8_fillThings_62 hl (by decide) rfl (fun ls hl => ?_)
                    have hv9 := hRv g ((r * 5) + k) (by omega) (by omega) (by omega) (by omega)
                    refine lv_aload_n hx hb dX8_fillThings_64 rfl (lv_at hl 1 rfl) ?_
                    refine lv_aload_n hx hb dX8_fillThings_65 rfl (lv_at hl 1 rfl) ?_
                    refine x_geto hx hb hf8 hw (by first | exact Int.le_refl 0 | omega) (by first | exact zlt hc0 | omega) sl_0_2 lk17 dX8_fillThings_66 ?_
                    refine lv_iload_n hx hb dX8_fillThings_69 rfl (lv_at hl 3 rfl) ?_
                    refine lv_iload hx hb dX8_fillThings_70 (lv_at hl 5 rfl) ?_
                    refine x_iadd hx hb dX8_fillThings_72 ?_
                    refine x_aald hx hb hK.1 hw (by first | exact Int.le_refl 0 | omega) (by first | exact zlt hc2 | omega) ar_2 rfl (len_E ar_2 (by first | exact Nat.ne_of_beq_eq_false rfl | decide)) (by omega) (by omega) (by omega) dX8_fillThings_73 (fun y13 => ?_) (fun r14 y13 gr14 lr14 => ?_)
                    · exfalso
                      have e15 : ∀ p9 q9 : Int, Yb 2 p9 q9 = Y 2 p9 q9 := fun p9 q9 => by rw [hGYb 2 p9 q9 (show 200 ∉ [1700, 600] by first | exact nlm_ni rfl | decide), hGYa 2 p9 q9 (show 200 ∉ [1700, 600] by first | exact nlm_ni rfl | decide), hGYz 2 p9 q9 (show 200 ∉ [600] by first | exact nlm_ni rfl | decide)]
                      rw [e15] at y13
                      have h9 := hCI.1 (f + r) (by omega) (by omega); rw [h9] at y13; cases y13
                    · have e16 : ∀ p9 q9 : Int, Yb 2 p9 q9 = Y 2 p9 q9 := fun p9 q9 => by rw [hGYb 2 p9 q9 (show 200 ∉ [1700, 600] by first | exact nlm_ni rfl | decide), hGYa 2 p9 q9 (show 200 ∉ [1700, 600] by first | exact nlm_ni rfl | decide), hGYz 2 p9 q9 (show 200 ∉ [600] by first | exact nlm_ni rfl | decide)]
                      rw [e16] at y13
                      have er14 : r14 = (f + r) := by have h9 := hCI.1 (f + r) (by omega) (by omega); rw [h9] at y13; cases y13; rfl
                      rw [er14]
                      refine lv_aload_n hx hb dX8_fillThings_74 rfl (lv_at hl 2 rfl) ?_
                      refine lv_iload hx hb dX8_fillThings_75 (lv_at hl 0 rfl) ?_
                      refine lv_iload_n hx hb dX8_fillThings_77 rfl (lv_at hl 3 rfl) ?_
                      refine lv_iload_n hx hb dX8_fillThings_78 rfl (lv_at hl 4 rfl) ?_
                      have e17 : ∀ p9 q9 : Int, Xb 11 p9 q9 = X 11 p9 q9 := fun p9 q9 => by rw [hGXb 11 p9 q9 (show 1100 ∉ [1600, 2602, 2700] by first | exact nlm_ni rfl | decide), hGXa 11 p9 q9 (show 1100 ∉ [1600, 2602, 2700] by first | exact nlm_ni rfl | decide)]
                      have e18 : ∀ p9 q9 : Int, Xb 12 p9 q9 = X 12 p9 q9 := fun p9 q9 => by rw [hGXb 12 p9 q9 (show 1200 ∉ [1600, 2602, 2700] by first | exact nlm_ni rfl | decide), hGXa 12 p9 q9 (show 1200 ∉ [1600, 2602, 2700] by first | exact nlm_ni rfl | decide)]
                      have e19 : Xb 0 0 3 = X 0 0 3 := by rw [hGXb 0 0 3 (show 4 ∉ [1600, 2602, 2700] by first | exact nlm_ni rfl | decide), hGXa 0 0 3 (show 4 ∉ [1600, 2602, 2700] by first | exact nlm_ni rfl | decide)]
                      refine gos_i (run_V (As := [.ref (ad 15 (f + r)), .ref (ad 7 g), .int (jI ((r * 5) + k)), .int (jI f), .int (jI rule)]) (rest := []) hx hb hml hown hts (c_X8_fillField l D tc base ad cnt Xb Yb ln hRXb hFx hLn hCIXb hOw hN (f + r) g ((r * 5) + k) f rule (by omega) (by simp only [e19]; omega) (by omega) (by omega) (by omega) (by omega) (by rw [e17, e18]; exact hv9)) (cwV 5 hts gX8_fillThings_X8_fillField rfl rfl rfl (by first | exact hd_X8_fillField | decide +kernel) ⟨Nat.le_of_ble_eq_true rfl, Nat.le_of_ble_eq_true rfl⟩) hK hw (by first | exact Int.le_refl 0 | omega) (by first | exact zlt hc0 | omega) sl_0_0 rfl rfl hl.1 rfl (Nat.le_of_ble_eq_true rfl) dX8_fillThings_79 ⟨(by show _ ≤ (300 : Nat); omega), (by show _ ≤ (2100 : Nat); omega)⟩) hS (fun z20 u21 H locs p22 hw hS => ?_)
                      obtain ⟨ad, cnt, X23, Y24, ln, eu21, hE25, hFx, hOw, hLn, hRX23, hG26, hJ27, hCIX23, p22, hfzX23, hfnX23, hfsX23⟩ := p22
                      subst eu21
                      have hFX23 : Frm [1600, 2602, 2700, 3201, 3202, 3203, 3204] X X23 := Frm.tr hFXb (Frm.mono hG26 (by first | exact nls_of rfl | decide))
                      have hHY24 : Frm [1700, 600] Y Y24 := Frm.tr hHYb (Frm.mono hJ27 (by first | exact nls_of rfl | decide))
                      have hE := Ext.tr hE hE25
                      have hm28 := hE25.2.1 19
                      have hm29 := hE25.2.1 25
                      have hm30 := hE25.2.1 26
                      have hN : 0 ≤ cnt 25 ∧ 0 ≤ cnt 26 := by omega
                      have ha31 := hE25.1 0 0 (by omega) (by omega)
                      have ha32 := hE25.1 7 g (by omega) (by omega)
                      have hc0 : cnt 0 = 1 := hFx.at 0 1 (by decide)
                      have hc2 : cnt 2 = 1 := hFx.at 2 1 (by decide)
                      have hc6 : cnt 6 = 1 := hFx.at 6 1 (by decide)
                      have hc7 : cnt 7 = 6 := hFx.at 7 6 (by decide)
                      have hc9 : cnt 9 = 6 := hFx.at 9 6 (by decide)
                      have hc10 : cnt 10 = 6 := hFx.at 10 6 (by decide)
                      have hc15 : cnt 15 = 30 := hFx.at 15 30 (by decide)
                      have hc16 : cnt 16 = 30 := hFx.at 16 30 (by decide)
                      have hc17 : cnt 17 = 30 := hFx.at 17 30 (by decide)
                      have hc27 : cnt 27 = cnt 26 := hFx.2.2
                      have hc32 : cnt 32 = 1 := hFx.at 32 1 (by decide)
                      have hl : lv_has ls 8 [(6, .int (jI ((r * 5) + k))), (0, .ref (ad 0 0)), (1, .ref (ad 7 g)), (2, .int (jI f)), (3, .int (jI rule)), (4, .int (jI r)), (5, .int (jI k))] := by rw [ha31, ha32]; exact hl
                      refine W.eq (g2 := F0 m 82 ls [.int (jI z20)]) rfl ?_
                      refine lv_istore (lv' := [(7, .int (jI z20)), (6, .int (jI ((r * 5) + k))), (0, .ref (ad 0 0)), (1, .ref (ad 7 g)), (2, .int (jI f)), (3, .int (jI rule)), (4, .int (jI r)), (5, .int (jI k))]) hx hb dX8_fillThings_82 hl (by decide) rfl (fun ls hl => ?_)
                      refine lv_iload hx hb dX8_fillThings_84 (lv_at hl 0 rfl) ?_
                      refine x_if_eq (tgt := 109) hx hb (by omega) dX8_fillThings_86 (by decide) (fun c33 => ?_) (fun c33 => ?_)
                      · refine lv_iinc (v := jI (k + 1)) (lv' := [(5, .int (jI (k + 1))), (7, .int (jI z20)), (6, .int (jI ((r * 5) + k))), (0, .ref (ad 0 0)), (1, .ref (ad 7 g)), (2, .int (jI f)), (3, .int (jI rule)), (4, .int (jI r))]) hx hb dX8_fillThings_109 hl (k := 7) rfl (jI_add _ _) (by decide) rfl (fun ls hl => ?_)
                        refine lv_goto (tgt := 43) hx hb dX8_fillThings_112 (by decide) ?_
                        have q34 : Frm [1600, 2602, 2700] Xa Xb := Frm.tr Frm.rf (Frm.mono hGXb (by first | exact nls_of rfl | decide))
                        have q35 : Frm [1600, 2602, 2700] Xa X23 := Frm.tr q34 (Frm.mono hG26 (by first | exact nls_of rfl | decide))
                        have q36 : Frm [1700, 600] Ya Yb := Frm.tr Frm.rf (Frm.mono hGYb (by first | exact nls_of rfl | decide))
                        have q37 : Frm [1700, 600] Ya Y24 := Frm.tr q36 (Frm.mono hJ27 (by first | exact nls_of rfl | decide))
                        exact ih43 (k + 1) X23 Y24 ad cnt ln _ _ _ _ _ (by omega) hRX23 q35 q37 (hE) (hFx) (hOw) (hLn) (hN) (by omega) (by omega) (hCIX23) (by omega) ((by have h9 := hfzX23; have h8 := hfsX23 (by omega); rw [show r * 5 + k = 5 * r + k by omega] at h8 h9; exact fTrC.push hTk (by omega) (by omega) h8)) hw hS (lv_sub hl [3, 4, 5, 6, 7, 0] rfl)
                      · refine lv_aload_n hx hb dX8_fillThings_89 rfl (lv_at hl 2 rfl) ?_
                        refine x_geto hx hb hf8 hw (by first | exact Int.le_refl 0 | omega) (by first | exact zlt hc0 | omega) sl_0_11 lk58 dX8_fillThings_90 ?_
                        refine lv_iload hx hb dX8_fillThings_93 (lv_at hl 6 rfl) ?_
                        refine lv_aload_n hx hb dX8_fillThings_95 rfl (lv_at hl 3 rfl) ?_
                        refine x_geto hx hb hf4 hw (by omega) (by omega) sl_7_3 lk224 dX8_fillThings_96 ?_
                        refine lv_iload hx hb dX8_fillThings_99 (lv_at hl 1 rfl) ?_
                        refine x_iald hx hb hK.1 hw (by omega) (by omega) ar_10 (len_E ar_10 (by first | exact Nat.ne_of_beq_eq_false rfl | decide)) (by omega) (by omega) (by omega) dX8_fillThings_101 ?_
                        have e38 : ∀ p9 q9 : Int, X23 10 p9 q9 = X 10 p9 q9 := fun p9 q9 => by rw [hG26 10 p9 q9 (show 1000 ∉ [1600, 2602, 2700] by first | exact nlm_ni rfl | decide), hGXb 10 p9 q9 (show 1000 ∉ [1600, 2602, 2700] by first | exact nlm_ni rfl | decide), hGXa 10 p9 q9 (show 1000 ∉ [1600, 2602, 2700] by first | exact nlm_ni rfl | decide)]
                        rw [e38 g ((r * 5) + k)]
                        have f39 : 0 ≤ X 10 g ((r * 5) + k) ∧ X 10 g ((r * 5) + k) ≤ 19 := hR 10 g ((r * 5) + k)
                        refine lv_iconst (v := jI (-1)) hx hb dX8_fillThings_102 rfl ?_
                        refine gos_v (run_V (As := [.int (jI r), .int (jI (X 10 g ((r * 5) + k))), .int (jI (-1))]) (rest := []) hx hb hml hown hts (c_X1_tell l D tc base ad cnt X23 Y24 ln hRX23 hFx hLn hCIX23 r (X 10 g ((r * 5) + k)) (-1) (by omega) (by omega) (by omega)) (cwV 3 hts gX8_fillThings_X1_tell rfl rfl rfl (by first | exact hd_X1_tell | decide +kernel) ⟨Nat.le_of_ble_eq_true rfl, Nat.le_of_ble_eq_true rfl⟩) hK hw (by first | exact Int.le_refl 0 | omega) (by first | exact zlt hc32 | omega) sl_32_0 rfl rfl hl.1 rfl (Nat.le_of_ble_eq_true rfl) dX8_fillThings_103 ⟨(by show _ ≤ (300 : Nat); omega), (by show _ ≤ (2100 : Nat); omega)⟩) hS (fun u41 H locs p42 hw hS => ?_)
                        obtain ⟨X43, eu41, hRX43, hG44, hCIX43, p42⟩ := p42
                        subst eu41
                        have hFX43 : Frm [1600, 2602, 2700, 3201, 3202, 3203, 3204] X X43 := Frm.tr hFX23 (Frm.mono hG44 (by first | exact nls_of rfl | decide))
                        refine lv_iload hx hb dX8_fillThings_106 (lv_at hl 0 rfl) ?_
                        rw [hQ9]
                        refine ret_i (mc := 300) (ms := 2100) hx hb hr hlocks hw hS (by first | exact Nat.le_of_ble_eq_true rfl | omega) (by first | exact Nat.le_of_ble_eq_true rfl | omega) dX8_fillThings_108 ?_
                        have q45 : Frm [3201, 3202, 3203, 3204] X23 X43 := Frm.tr Frm.rf (Frm.mono hG44 (by first | exact nls_of rfl | decide))
                        exact ⟨ad, cnt, X43, Y24, ln, rfl, hE9 _ _ _ hE, hFx, hOw, hLn, hRX43, hFX43, hHY24, hCIX43, by omega, ⟨Yz, hGYz, (fun j9 a b => hnul j9 a (by omega)), Or.inr ⟨by omega, (by have h9 := hfzX23; obtain ⟨q1, q2, q3, q4⟩ := hfnX23 (by omega); rw [show r * 5 + k = 5 * r + k by omega] at h9; exact ⟨r, k, cA, _, Xa, Xb, Ya, Yb, lnA, _, by omega, by omega, by omega, by omega, (by rw [← hcB, ← hlB]; exact hTr9), hTk, h9.symm, q1, q3, q4, (by rw [← q2]; exact q45)⟩)⟩⟩⟩
              exact lp43 (5 - 0 : Int).toNat.succ 0 Xa Ya ad cnt ln _ _ _ _ _ (by omega) hRXa Frm.rf Frm.rf (hE) (hFx) (hOw) (hLn) (hN) (by omega) (by omega) (hCIXa) ((hR 9 g r).1) (⟨hcA.symm, rfl, rfl, hlA.symm⟩) hw hS (lv_sub hl [1, 2, 3, 4, 5, 0] rfl)
        have q46 : Frm [600] Y Yz := Frm.tr Frm.rf (Frm.mono hGYz (by first | exact nls_of rfl | decide))
        have hCq47 : CInv cnt X Yz ln := cinv_frm (M := []) (N := [600]) hCI Frm.rf q46 (by decide) (by decide)
        exact lp31 (30 - 0 : Int).toNat.succ 0 X Yz ad cnt ln _ _ _ _ _ (by omega) hR Frm.rf Frm.rf (hE) (hFx) (hOw) (hLn) (hN) (by omega) (by omega) (hCq47) (by omega) (⟨hcB.symm, rfl, rfl, hlB.symm⟩) hw hS (lv_sub hl [1, 2, 3, 4, 0] rfl)
      · refine lv_aload_n hx hb dX8_fillThings_14 rfl (lv_at hl 0 rfl) ?_
        refine x_geto hx hb hf8 hw (by first | exact Int.le_refl 0 | omega) (by first | exact zlt hc0 | omega) sl_0_9 lk44 dX8_fillThings_15 ?_
        refine lv_iload hx hb dX8_fillThings_18 (lv_at hl 4 rfl) ?_
        refine lv_null hx hb dX8_fillThings_20 ?_
        refine x_aastn hx hb hK.1 hw hS (by first | exact Int.le_refl 0 | omega) (by first | exact zlt hc6 | omega) ar_6 rfl (len_E ar_6 (by first | exact Nat.ne_of_beq_eq_false rfl | decide)) (by omega) (by omega) (by omega) dX8_fillThings_21 (fun H locs hw hS => ?_)
        obtain ⟨Y48, hY48⟩ : ∃ Yq, Yq = u3 Yz 6 0 j none := ⟨_, rfl⟩
        rw [← hY48] at hw
        have hVY48 : Y48 6 0 j = none := by rw [hY48]; exact u3_s _ _ _ _ _
        have hHY48 : Frm [1700, 600] Y Y48 := by rw [hY48]; exact Frm.set hHYz (show 600 ∈ [1700, 600] by first | exact nlm_in rfl | decide)
        refine lv_iinc (v := jI (j + 1)) (lv' := [(4, .int (jI (j + 1))), (0, .ref (ad 0 0)), (1, .ref (ad 7 g)), (2, .int (jI f)), (3, .int (jI rule))]) hx hb dX8_fillThings_22 hl (k := 4) rfl (jI_add _ _) (by decide) rfl (fun ls hl => ?_)
        refine lv_goto (tgt := 3) hx hb dX8_fillThings_25 (by decide) ?_
        have q49 : Frm [600] Y Yz := Frm.tr Frm.rf (Frm.mono hGYz (by first | exact nls_of rfl | decide))
        have q50 : Frm [600] Y Y48 := by rw [hY48]; exact Frm.set q49 (show 600 ∈ [600] by first | exact nlm_in rfl | decide)
        exact ih3 (j + 1) Y48 _ _ _ (by omega) q50 (by omega) (fun j9 a b => if hj9 : j9 = j then (by rw [hj9]; exact hVY48) else (by rw [hY48, u3_ij (fun q9 => hj9 q9.2)]; exact hnul j9 a (by omega))) hw hS (lv_sub hl [1, 2, 3, 4, 0] rfl)
  exact lp3 (450 - 0 : Int).toNat.succ 0 Y _ _ _ (by omega) Frm.rf (by omega) (fun j9 a b => by omega) hw hS (lv_sub hl [1, 2, 3, 4, 0] rfl)

set_option maxHeartbeats 4000000 in
set_option maxRecDepth 100000 in
theorem c_X8_restore (l : Launch) (D : va_G) (tc : Nat → ClassId) (base : Nat) (ad : Nat → Int → Nat) (cnt : Nat → Int) (X : Nat → Int → Int → Int) (Y : Nat → Int → Int → Option Int) (ln : Int → Int) (hR : Rng X) (hFx : Fx cnt) (hLn : LnOK ln) (hCI : CInv cnt X Y ln) (hOw : Own cnt) (hN : 0 ≤ cnt 25 ∧ 0 ≤ cnt 26) (sv rule : Int) (hsv : -2147483648 ≤ sv ∧ sv ≤ 2147483647) (hrule : -2147483648 ≤ rule ∧ rule ≤ 2147483647) (hRv : cRv X) : KI l D tc base yX8_restore wsX8_restore ({ frames := 7, cells := 300, slots := 2100, locals := 155 } : Room) [.ref (ad 0 0), .int (jI sv), .int (jI rule)] (ad, cnt, X, Y, ln) 300 2100 (fun z u => ∃ (ad1 : Nat → Int → Nat) (cnt1 : Nat → Int) (X1 : Nat → Int → Int → Int) (Y1 : Nat → Int → Int → Option Int) (ln1 : Int → Int), u = (ad1, cnt1, X1, Y1, ln1) ∧ Ext ad cnt ln ad1 cnt1 ln1 ∧ Fx cnt1 ∧ Own cnt1 ∧ LnOK ln1 ∧ Rng X1 ∧ Frm [4, 1600, 2602, 2700, 3201, 3202, 3203, 3204] X X1 ∧ Frm [1501, 1700, 600] Y Y1 ∧ CInv cnt1 X1 Y1 ln1 ∧ (-2147483648 ≤ z ∧ z ≤ 2147483647) ∧ ((¬ (0 ≤ sv ∧ sv < 4 ∧ X 7 (tyo (Y 4 0 sv)) 0 ≠ 0) ∧ z = -1 ∧ X1 = X ∧ Y1 = Y ∧ cnt1 26 = cnt 26 ∧ ln1 = ln) ∨ ((0 ≤ sv ∧ sv < 4 ∧ X 7 (tyo (Y 4 0 sv)) 0 ≠ 0) ∧ ¬ (0 ≤ rule ∧ rule < 4) ∧ z = -2 ∧ X1 = X ∧ Y1 = Y ∧ cnt1 26 = cnt 26 ∧ ln1 = ln) ∨ ((0 ≤ sv ∧ sv < 4 ∧ X 7 (tyo (Y 4 0 sv)) 0 ≠ 0) ∧ (0 ≤ rule ∧ rule < 4) ∧ 30 < X 0 0 3 + X 7 (tyo (Y 4 0 sv)) 0 ∧ z = -4 ∧ X1 = X ∧ Y1 = Y ∧ cnt1 26 = cnt 26 ∧ ln1 = ln) ∨ ((0 ≤ sv ∧ sv < 4 ∧ X 7 (tyo (Y 4 0 sv)) 0 ≠ 0) ∧ (0 ≤ rule ∧ rule < 4) ∧ X 0 0 3 + X 7 (tyo (Y 4 0 sv)) 0 ≤ 30 ∧ ∃ (g : Int) (A B : Nat → Int → Int → Int) (YA YB : Nat → Int → Int → Option Int) (cB zf : Int) (lB : Int → Int), Y 4 0 sv = some g ∧ (A 0 0 3 = X 0 0 3 + X 7 g 0 ∧ (∀ r9, 0 ≤ r9 → r9 < X 7 g 0 → YA 15 (X 0 0 3 + r9) 0 = some (X 8 g r9) ∧ ∀ j, 0 ≤ j → j < X 19 (X 8 g r9) 1 → A 16 (X 0 0 3 + r9) j = X 22 (X 8 g r9) j ∧ YA 17 (X 0 0 3 + r9) j = none) ∧ (∀ y, y < X 0 0 3 → YA 15 y 0 = Y 15 y 0 ∧ ∀ j, A 16 y j = X 16 y j ∧ YA 17 y j = Y 17 y j) ∧ Frm [4, 1600] X A ∧ Frm [1501, 1700] Y YA) ∧ (∃ Yz : Nat → Int → Int → Option Int, Frm [600] YA Yz ∧ (∀ j, 0 ≤ j → j < 3 * A 7 g 6 → Yz 6 0 j = none) ∧ ((zf = 0 ∧ rTrC g (X 0 0 3) rule (A 7 g 0).toNat (cnt 26) A Yz ln (cB) B YB lB) ∨ (zf ≠ 0 ∧ ∃ (r k cA cP : Int) (XA XP : Nat → Int → Int → Int) (YA YP : Nat → Int → Int → Option Int) (lA lP : Int → Int), 0 ≤ r ∧ r < A 7 g 0 ∧ 0 ≤ k ∧ k < A 9 g r ∧ rTrC g (X 0 0 3) rule r.toNat (cnt 26) A Yz ln cA XA YA lA ∧ fTrC g r (X 0 0 3) rule k.toNat cA XA YA lA cP XP YP lP ∧ fvC XP YP (X 0 0 3 + r) g (5 * r + k) rule = zf ∧ cB = cP ∧ YB = YP ∧ lB = lP ∧ Frm [3201, 3202, 3203, 3204] XP B))) ∧ ((zf = 0 ∧ (∀ y, X 0 0 3 ≤ y → y < B 0 0 3 → jdC B YB lB y 0) ∧ z = X 0 0 3 ∧ Frm [3201, 3202, 3203, 3204] B X1 ∧ Y1 = YB ∧ cnt1 26 = cB ∧ ln1 = lB) ∨ (X1 0 0 3 = X 0 0 3 ∧ Frm [4, 3201, 3202, 3203, 3204] B X1 ∧ Y1 = YB ∧ cnt1 26 = cB ∧ ln1 = lB ∧ ((zf ≠ 0 ∧ z = -10 - zf) ∨ (zf = 0 ∧ ∃ y how, X 0 0 3 ≤ y ∧ y < B 0 0 3 ∧ (∀ y', X 0 0 3 ≤ y' → y' < y → jdC B YB lB y' 0) ∧ how ≠ 0 ∧ jdC B YB lB y how ∧ z = -10 - how))))))) := by
  refine K_of (cc := cX8_restore) (maxL := 5) (ret := (some .int)) (by decide) rfl (Nat.le_of_ble_eq_true rfl) ?_
  intro p e s m below meth c ls hx hb hr hml hown hts hlocks hl hK hw hS
  have hown : s.vm.findClass RX8 = some m.cls := hown
  have hbs : base ≤ s.heap.size := wd_size hw
  obtain ⟨av9, hav9⟩ : ∃ a9 : Array Value, a9 = ([.ref (ad 0 0), .int (jI sv), .int (jI rule)] : List Value).toArray := ⟨_, rfl⟩
  rw [← hav9] at hts ⊢
  obtain ⟨Q9, hQ9⟩ : ∃ q9Q : State → Prop, q9Q = MQ below (QI D tc base (fun z u => ∃ (ad1 : Nat → Int → Nat) (cnt1 : Nat → Int) (X1 : Nat → Int → Int → Int) (Y1 : Nat → Int → Int → Option Int) (ln1 : Int → Int), u = (ad1, cnt1, X1, Y1, ln1) ∧ Ext ad cnt ln ad1 cnt1 ln1 ∧ Fx cnt1 ∧ Own cnt1 ∧ LnOK ln1 ∧ Rng X1 ∧ Frm [4, 1600, 2602, 2700, 3201, 3202, 3203, 3204] X X1 ∧ Frm [1501, 1700, 600] Y Y1 ∧ CInv cnt1 X1 Y1 ln1 ∧ (-2147483648 ≤ z ∧ z ≤ 2147483647) ∧ ((¬ (0 ≤ sv ∧ sv < 4 ∧ X 7 (tyo (Y 4 0 sv)) 0 ≠ 0) ∧ z = -1 ∧ X1 = X ∧ Y1 = Y ∧ cnt1 26 = cnt 26 ∧ ln1 = ln) ∨ ((0 ≤ sv ∧ sv < 4 ∧ X 7 (tyo (Y 4 0 sv)) 0 ≠ 0) ∧ ¬ (0 ≤ rule ∧ rule < 4) ∧ z = -2 ∧ X1 = X ∧ Y1 = Y ∧ cnt1 26 = cnt 26 ∧ ln1 = ln) ∨ ((0 ≤ sv ∧ sv < 4 ∧ X 7 (tyo (Y 4 0 sv)) 0 ≠ 0) ∧ (0 ≤ rule ∧ rule < 4) ∧ 30 < X 0 0 3 + X 7 (tyo (Y 4 0 sv)) 0 ∧ z = -4 ∧ X1 = X ∧ Y1 = Y ∧ cnt1 26 = cnt 26 ∧ ln1 = ln) ∨ ((0 ≤ sv ∧ sv < 4 ∧ X 7 (tyo (Y 4 0 sv)) 0 ≠ 0) ∧ (0 ≤ rule ∧ rule < 4) ∧ X 0 0 3 + X 7 (tyo (Y 4 0 sv)) 0 ≤ 30 ∧ ∃ (g : Int) (A B : Nat → Int → Int → Int) (YA YB : Nat → Int → Int → Option Int) (cB zf : Int) (lB : Int → Int), Y 4 0 sv = some g ∧ (A 0 0 3 = X 0 0 3 + X 7 g 0 ∧ (∀ r9, 0 ≤ r9 → r9 < X 7 g 0 → YA 15 (X 0 0 3 + r9) 0 = some (X 8 g r9) ∧ ∀ j, 0 ≤ j → j < X 19 (X 8 g r9) 1 → A 16 (X 0 0 3 + r9) j = X 22 (X 8 g r9) j ∧ YA 17 (X 0 0 3 + r9) j = none) ∧ (∀ y, y < X 0 0 3 → YA 15 y 0 = Y 15 y 0 ∧ ∀ j, A 16 y j = X 16 y j ∧ YA 17 y j = Y 17 y j) ∧ Frm [4, 1600] X A ∧ Frm [1501, 1700] Y YA) ∧ (∃ Yz : Nat → Int → Int → Option Int, Frm [600] YA Yz ∧ (∀ j, 0 ≤ j → j < 3 * A 7 g 6 → Yz 6 0 j = none) ∧ ((zf = 0 ∧ rTrC g (X 0 0 3) rule (A 7 g 0).toNat (cnt 26) A Yz ln (cB) B YB lB) ∨ (zf ≠ 0 ∧ ∃ (r k cA cP : Int) (XA XP : Nat → Int → Int → Int) (YA YP : Nat → Int → Int → Option Int) (lA lP : Int → Int), 0 ≤ r ∧ r < A 7 g 0 ∧ 0 ≤ k ∧ k < A 9 g r ∧ rTrC g (X 0 0 3) rule r.toNat (cnt 26) A Yz ln cA XA YA lA ∧ fTrC g r (X 0 0 3) rule k.toNat cA XA YA lA cP XP YP lP ∧ fvC XP YP (X 0 0 3 + r) g (5 * r + k) rule = zf ∧ cB = cP ∧ YB = YP ∧ lB = lP ∧ Frm [3201, 3202, 3203, 3204] XP B))) ∧ ((zf = 0 ∧ (∀ y, X 0 0 3 ≤ y → y < B 0 0 3 → jdC B YB lB y 0) ∧ z = X 0 0 3 ∧ Frm [3201, 3202, 3203, 3204] B X1 ∧ Y1 = YB ∧ cnt1 26 = cB ∧ ln1 = lB) ∨ (X1 0 0 3 = X 0 0 3 ∧ Frm [4, 3201, 3202, 3203, 3204] B X1 ∧ Y1 = YB ∧ cnt1 26 = cB ∧ ln1 = lB ∧ ((zf ≠ 0 ∧ z = -10 - zf) ∨ (zf = 0 ∧ ∃ y how, X 0 0 3 ≤ y ∧ y < B 0 0 3 ∧ (∀ y', X 0 0 3 ≤ y' → y' < y → jdC B YB lB y' 0) ∧ how ≠ 0 ∧ jdC B YB lB y how ∧ z = -10 - how)))))))) av9 s 300 2100 (frA base) := ⟨_, rfl⟩
  rw [← hQ9]
  obtain ⟨ad0, ha0⟩ : ∃ a, a = ad := ⟨_, rfl⟩
  obtain ⟨cnt0, hc0⟩ : ∃ a, a = cnt := ⟨_, rfl⟩
  obtain ⟨ln0, hl0⟩ : ∃ a, a = ln := ⟨_, rfl⟩
  have hE9 : ∀ a c n, Ext ad0 cnt0 ln0 a c n → Ext ad cnt ln a c n := by rw [ha0, hc0, hl0]; exact fun _ _ _ h => h
  have hE : Ext ad0 cnt0 ln0 ad cnt ln := by rw [ha0, hc0, hl0]; exact Ext.rf
  clear ha0 hc0 hl0
  have hi4 : ∀ w ∈ wsX40, w ∈ wsX8_restore := fun w h => List.mem_cons_of_mem _ (List.mem_append_left _ (List.mem_append_left _ (List.mem_append_left _ (List.mem_append_left _ (List.mem_append_left _ (List.mem_append_right _ h))))))
  have hf4 : fctx s m _ RX8 wsX8_restore D tc RX4 TX4 9 4 := ⟨hts, hi4, hown, hK.1, rfl⟩
  have hi8 : ∀ w ∈ wsX80, w ∈ wsX8_restore := fun w h => List.mem_cons_of_mem _ (List.mem_append_left _ (List.mem_append_left _ (List.mem_append_left _ (List.mem_append_left _ (List.mem_append_left _ (List.mem_append_left _ (List.mem_append_right _ h)))))))
  have hf8 : fctx s m _ RX8 wsX8_restore D tc RX8 TX8 12 8 := ⟨hts, hi8, hown, hK.1, rfl⟩
  have lk27 := hts (.fieldLink RX8 27 (TX8 5).1 (TX8 5).2.1 (TX8 5).2.2.1) (gj_X8_restore_0 _ (gp_h))
  have lk94 := hts (.fieldLink RX8 94 (TX8 3).1 (TX8 3).2.1 (TX8 3).2.2.1) (gj_X8_restore_0 _ (gp_1 (gp_1 gp_h)))
  have lk231 := hts (.fieldLink RX8 231 (TX4 0).1 (TX4 0).2.1 (TX4 0).2.2.1) (gj_X8_restore_0 _ (gp_1 gp_h))
  have hc0 : cnt 0 = 1 := hFx.at 0 1 (by decide)
  have hc4 : cnt 4 = 1 := hFx.at 4 1 (by decide)
  have hc7 : cnt 7 = 6 := hFx.at 7 6 (by decide)
  have hl : lv_has ls 5 [(0, .ref (ad 0 0)), (1, .int (jI sv)), (2, .int (jI rule))] := hl
  have ftc : 0 ≤ X 0 0 3 ∧ X 0 0 3 ≤ 30 := hR 0 0 3
  have fty : 0 ≤ X 0 0 1 ∧ X 0 0 1 ≤ 8 := hR 0 0 1
  have hct : cnt 19 = X 0 0 1 := hCI.2.2.2.1.1
  have hfj : 0 ≤ X 29 0 3 ∧ X 29 0 3 ≤ 4 := hR 29 0 3
  have hfn : 0 ≤ X 29 0 1 ∧ X 29 0 1 ≤ 80 := hR 29 0 1
  refine lv_iload_n hx hb dX8_restore_0 rfl (lv_at hl 1 rfl) ?_
  refine lv_iconst (v := jI 4) hx hb dX8_restore_1 rfl ?_
  refine gos_i (run_S (As := [.int (jI sv), .int (jI 4)]) (rest := []) hx hb hml hown hts (c_X8_isBelow l D tc base ad cnt X Y ln sv 4 (by omega) (by omega)) (cwS 2 hts gX8_restore_X8_isBelow rfl rfl rfl (by first | exact hd_X8_isBelow | decide +kernel) ⟨Nat.le_of_ble_eq_true rfl, Nat.le_of_ble_eq_true rfl⟩) hK hw rfl hl.1 rfl (Nat.le_of_ble_eq_true rfl) dX8_restore_2 ⟨(by show _ ≤ (300 : Nat); omega), (by show _ ≤ (2100 : Nat); omega)⟩) hS (fun z1 u2 H locs p3 hw hS => ?_)
  obtain ⟨eu2, p3⟩ := p3
  subst eu2
  rcases p3 with ⟨ez1, p3⟩ | ⟨ez1, p3⟩
  · subst ez1
    refine x_if_eqF (tgt := 20) hx hb (by omega) (by decide) dX8_restore_5 (by decide) ?_
    refine lv_aload_n hx hb dX8_restore_8 rfl (lv_at hl 0 rfl) ?_
    refine x_geto hx hb hf8 hw (by first | exact Int.le_refl 0 | omega) (by first | exact zlt hc0 | omega) sl_0_5 lk27 dX8_restore_9 ?_
    refine lv_iload_n hx hb dX8_restore_12 rfl (lv_at hl 1 rfl) ?_
    refine x_aald hx hb hK.1 hw (by first | exact Int.le_refl 0 | omega) (by first | exact zlt hc4 | omega) ar_4 rfl (len_E ar_4 (by first | exact Nat.ne_of_beq_eq_false rfl | decide)) (by omega) (by omega) (by omega) dX8_restore_13 (fun y4 => ?_) (fun r5 y4 gr5 lr5 => ?_)
    · exfalso
      exact absurd y4 (hCI.2.2.1.1 sv (by omega) (by omega))
    · refine x_geti (jz := 0) hx hb hf4 hw (by omega) (by omega) sl_7_0 rfl lk231 dX8_restore_14 ?_
      have f6 : 0 ≤ X 7 r5 0 ∧ X 7 r5 0 ≤ 30 := hR 7 r5 0
      refine x_if_ne (tgt := 22) hx hb (by omega) dX8_restore_17 (by decide) (fun c7 => ?_) (fun c7 => ?_)
      · refine lv_iload_n hx hb dX8_restore_22 rfl (lv_at hl 2 rfl) ?_
        refine lv_iconst (v := jI 4) hx hb dX8_restore_23 rfl ?_
        refine gos_i (run_S (As := [.int (jI rule), .int (jI 4)]) (rest := []) hx hb hml hown hts (c_X8_isBelow l D tc base ad cnt X Y ln rule 4 (by omega) (by omega)) (cwS 2 hts gX8_restore_X8_isBelow rfl rfl rfl (by first | exact hd_X8_isBelow | decide +kernel) ⟨Nat.le_of_ble_eq_true rfl, Nat.le_of_ble_eq_true rfl⟩) hK hw rfl hl.1 rfl (Nat.le_of_ble_eq_true rfl) dX8_restore_24 ⟨(by show _ ≤ (300 : Nat); omega), (by show _ ≤ (2100 : Nat); omega)⟩) hS (fun z8 u9 H locs p10 hw hS => ?_)
        obtain ⟨eu9, p10⟩ := p10
        subst eu9
        rcases p10 with ⟨ez8, p10⟩ | ⟨ez8, p10⟩
        · subst ez8
          refine x_if_neT (tgt := 33) hx hb (by omega) (by decide) dX8_restore_27 (by decide) ?_
          refine lv_aload_n hx hb dX8_restore_33 rfl (lv_at hl 0 rfl) ?_
          refine x_geti (jz := 3) hx hb hf8 hw (by first | exact Int.le_refl 0 | omega) (by first | exact zlt hc0 | omega) sl_0_3 rfl lk94 dX8_restore_34 ?_
          have f11 : 0 ≤ X 0 0 3 ∧ X 0 0 3 ≤ 30 := hR 0 0 3
          refine lv_istore_n (lv' := [(3, .int (jI (X 0 0 3))), (0, .ref (ad 0 0)), (1, .int (jI sv)), (2, .int (jI rule))]) hx hb dX8_restore_37 rfl hl (by decide) rfl (fun ls hl => ?_)
          refine lv_iload_n hx hb dX8_restore_38 rfl (lv_at hl 0 rfl) ?_
          refine lv_aload_n hx hb dX8_restore_39 rfl (lv_at hl 1 rfl) ?_
          refine x_geto hx hb hf8 hw (by first | exact Int.le_refl 0 | omega) (by first | exact zlt hc0 | omega) sl_0_5 lk27 dX8_restore_40 ?_
          refine lv_iload_n hx hb dX8_restore_43 rfl (lv_at hl 2 rfl) ?_
          refine x_aald hx hb hK.1 hw (by first | exact Int.le_refl 0 | omega) (by first | exact zlt hc4 | omega) ar_4 rfl (len_E ar_4 (by first | exact Nat.ne_of_beq_eq_false rfl | decide)) (by omega) (by omega) (by omega) dX8_restore_44 (fun y12 => ?_) (fun r13 y12 gr13 lr13 => ?_)
          · exfalso
            rw [y4] at y12; cases y12
          · have er13 : r13 = r5 := by rw [y4] at y12; cases y12; rfl
            rw [er13]
            refine x_geti (jz := 0) hx hb hf4 hw (by omega) (by omega) sl_7_0 rfl lk231 dX8_restore_45 ?_
            have f14 : 0 ≤ X 7 r5 0 ∧ X 7 r5 0 ≤ 30 := hR 7 r5 0
            refine x_iadd hx hb dX8_restore_48 ?_
            refine lv_bipush (v := jI 30) hx hb dX8_restore_49 (by decide) ?_
            refine x_icmp_le (tgt := 57) hx hb (by omega) (by omega) dX8_restore_51 (by decide) (fun c15 => ?_) (fun c15 => ?_)
            · refine lv_aload_n hx hb dX8_restore_57 rfl (lv_at hl 1 rfl) ?_
              refine lv_aload_n hx hb dX8_restore_58 rfl (lv_at hl 1 rfl) ?_
              refine x_geto hx hb hf8 hw (by first | exact Int.le_refl 0 | omega) (by first | exact zlt hc0 | omega) sl_0_5 lk27 dX8_restore_59 ?_
              refine lv_iload_n hx hb dX8_restore_62 rfl (lv_at hl 2 rfl) ?_
              refine x_aald hx hb hK.1 hw (by first | exact Int.le_refl 0 | omega) (by first | exact zlt hc4 | omega) ar_4 rfl (len_E ar_4 (by first | exact Nat.ne_of_beq_eq_false rfl | decide)) (by omega) (by omega) (by omega) dX8_restore_63 (fun y16 => ?_) (fun r17 y16 gr17 lr17 => ?_)
              · exfalso
                rw [y4] at y16; cases y16
              · have er17 : r17 = r5 := by rw [y4] at y16; cases y16; rfl
                rw [er17]
                refine gos_v (run_V (As := [.ref (ad 7 r5)]) (rest := []) hx hb hml hown hts (c_X8_addThings l D tc base ad cnt X Y ln hR hFx hLn hCI r5 (by omega) (by omega)) (cwV 1 hts gX8_restore_X8_addThings rfl rfl rfl (by first | exact hd_X8_addThings | decide +kernel) ⟨Nat.le_of_ble_eq_true rfl, Nat.le_of_ble_eq_true rfl⟩) hK hw (by first | exact Int.le_refl 0 | omega) (by first | exact zlt hc0 | omega) sl_0_0 rfl rfl hl.1 rfl (Nat.le_of_ble_eq_true rfl) dX8_restore_64 ⟨(by show _ ≤ (300 : Nat); omega), (by show _ ≤ (2100 : Nat); omega)⟩) hS (fun u19 H locs p20 hw hS => ?_)
                obtain ⟨X21, Y22, eu19, hRX21, hG23, hJ24, hCIX21, p20, htcX21, hnaX21, hoaX21⟩ := p20
                subst eu19
                have hFX21 : Frm [4, 1600, 2602, 2700, 3201, 3202, 3203, 3204] X X21 := Frm.tr Frm.rf (Frm.mono hG23 (by first | exact nls_of rfl | decide))
                have hHY22 : Frm [1501, 1700, 600] Y Y22 := Frm.tr Frm.rf (Frm.mono hJ24 (by first | exact nls_of rfl | decide))
                refine lv_aload_n hx hb dX8_restore_67 rfl (lv_at hl 1 rfl) ?_
                refine lv_aload_n hx hb dX8_restore_68 rfl (lv_at hl 1 rfl) ?_
                refine x_geto hx hb hf8 hw (by first | exact Int.le_refl 0 | omega) (by first | exact zlt hc0 | omega) sl_0_5 lk27 dX8_restore_69 ?_
                refine lv_iload_n hx hb dX8_restore_72 rfl (lv_at hl 2 rfl) ?_
                refine x_aald hx hb hK.1 hw (by first | exact Int.le_refl 0 | omega) (by first | exact zlt hc4 | omega) ar_4 rfl (len_E ar_4 (by first | exact Nat.ne_of_beq_eq_false rfl | decide)) (by omega) (by omega) (by omega) dX8_restore_73 (fun y25 => ?_) (fun r26 y25 gr26 lr26 => ?_)
                · exfalso
                  have e27 : ∀ p9 q9 : Int, Y22 4 p9 q9 = Y 4 p9 q9 := fun p9 q9 => by rw [hJ24 4 p9 q9 (show 400 ∉ [1501, 1700] by first | exact nlm_ni rfl | decide)]
                  rw [e27] at y25
                  rw [y4] at y25; cases y25
                · have e28 : ∀ p9 q9 : Int, Y22 4 p9 q9 = Y 4 p9 q9 := fun p9 q9 => by rw [hJ24 4 p9 q9 (show 400 ∉ [1501, 1700] by first | exact nlm_ni rfl | decide)]
                  rw [e28] at y25
                  have er26 : r26 = r5 := by rw [y4] at y25; cases y25; rfl
                  rw [er26]
                  refine lv_iload_n hx hb dX8_restore_74 rfl (lv_at hl 0 rfl) ?_
                  refine lv_iload_n hx hb dX8_restore_75 rfl (lv_at hl 3 rfl) ?_
                  have e29 : X21 7 r5 0 = X 7 r5 0 := by rw [hG23 7 r5 0 (show 701 ∉ [4, 1600] by first | exact nlm_ni rfl | decide)]
                  have q31 : Frm [4, 1600] X X21 := Frm.tr Frm.rf (Frm.mono hG23 (by first | exact nls_of rfl | decide))
                  have hRq30 : cRv X21 := hRv.frm q31 (by decide)
                  refine gos_i (run_V (As := [.ref (ad 7 r5), .int (jI (X 0 0 3)), .int (jI rule)]) (rest := []) hx hb hml hown hts (c_X8_fillThings l D tc base ad cnt X21 Y22 ln hRX21 hFx hLn hCIX21 hOw hN r5 (X 0 0 3) rule (by omega) (by simp only [e29]; omega) (by omega) hRq30) (cwV 3 hts gX8_restore_X8_fillThings rfl rfl rfl (by first | exact hd_X8_fillThings | decide +kernel) ⟨Nat.le_of_ble_eq_true rfl, Nat.le_of_ble_eq_true rfl⟩) hK hw (by first | exact Int.le_refl 0 | omega) (by first | exact zlt hc0 | omega) sl_0_0 rfl rfl hl.1 rfl (Nat.le_of_ble_eq_true rfl) dX8_restore_76 ⟨(by show _ ≤ (300 : Nat); omega), (by show _ ≤ (2100 : Nat); omega)⟩) hS (fun z32 u33 H locs p34 hw hS => ?_)
                  obtain ⟨ad, cnt, X35, Y36, ln, eu33, hE37, hFx, hOw, hLn, hRX35, hG38, hJ39, hCIX35, p34, hftX35⟩ := p34
                  subst eu33
                  have hFX35 : Frm [4, 1600, 2602, 2700, 3201, 3202, 3203, 3204] X X35 := Frm.tr hFX21 (Frm.mono hG38 (by first | exact nls_of rfl | decide))
                  have hHY36 : Frm [1501, 1700, 600] Y Y36 := Frm.tr hHY22 (Frm.mono hJ39 (by first | exact nls_of rfl | decide))
                  have hE := Ext.tr hE hE37
                  have hm40 := hE37.2.1 19
                  have hm41 := hE37.2.1 25
                  have hm42 := hE37.2.1 26
                  have hN : 0 ≤ cnt 25 ∧ 0 ≤ cnt 26 := by omega
                  have ha43 := hE37.1 0 0 (by omega) (by omega)
                  have hc0 : cnt 0 = 1 := hFx.at 0 1 (by decide)
                  have hc4 : cnt 4 = 1 := hFx.at 4 1 (by decide)
                  have hc7 : cnt 7 = 6 := hFx.at 7 6 (by decide)
                  have hl : lv_has ls 5 [(3, .int (jI (X 0 0 3))), (0, .ref (ad 0 0)), (1, .int (jI sv)), (2, .int (jI rule))] := by rw [ha43]; exact hl
                  refine W.eq (g2 := F0 m 79 ls [.int (jI z32)]) rfl ?_
                  refine lv_istore (lv' := [(4, .int (jI z32)), (3, .int (jI (X 0 0 3))), (0, .ref (ad 0 0)), (1, .int (jI sv)), (2, .int (jI rule))]) hx hb dX8_restore_79 hl (by decide) rfl (fun ls hl => ?_)
                  refine lv_iload hx hb dX8_restore_81 (lv_at hl 0 rfl) ?_
                  refine x_if_ne (tgt := 93) hx hb (by omega) dX8_restore_83 (by decide) (fun c44 => ?_) (fun c44 => ?_)
                  · refine lv_iload hx hb dX8_restore_93 (lv_at hl 0 rfl) ?_
                    refine x_if_eq (tgt := 109) hx hb (by omega) dX8_restore_95 (by decide) (fun c45 => ?_) (fun c45 => ?_)
                    · refine lv_iload_n hx hb dX8_restore_109 rfl (lv_at hl 1 rfl) ?_
                      rw [hQ9]
                      refine ret_i (mc := 300) (ms := 2100) hx hb hr hlocks hw hS (by first | exact Nat.le_of_ble_eq_true rfl | omega) (by first | exact Nat.le_of_ble_eq_true rfl | omega) dX8_restore_110 ?_
                      exact ⟨ad, cnt, X35, Y36, ln, rfl, hE9 _ _ _ hE, hFx, hOw, hLn, hRX35, hFX35, hHY36, hCIX35, by omega, (by exfalso; omega)⟩
                    · refine lv_aload_n hx hb dX8_restore_98 rfl (lv_at hl 2 rfl) ?_
                      refine lv_iload_n hx hb dX8_restore_99 rfl (lv_at hl 1 rfl) ?_
                      refine x_puti (jz := 3) hx hb hf8 ⟨tyX8_ok, nmX8⟩ hw hS (by first | exact Int.le_refl 0 | omega) (by first | exact zlt hc0 | omega) sl_0_3 rfl lk94 rfl (tyX8_ok 3 (by decide)) rfl rfl dX8_restore_100 (fun H locs hw hS => ?_)
                      obtain ⟨X46, hX46⟩ : ∃ Xq, Xq = u3 X35 0 0 3 (X 0 0 3) := ⟨_, rfl⟩
                      rw [← hX46] at hw
                      have hRX46 : Rng X46 := by rw [hX46]; exact rng_set hRX35 (show 0 ≤ (X 0 0 3) ∧ (X 0 0 3) ≤ 30 by omega)
                      have hVX46 : X46 0 0 3 = (X 0 0 3) := by rw [hX46]; exact u3_s _ _ _ _ _
                      have hFX46 : Frm [4, 1600, 2602, 2700, 3201, 3202, 3203, 3204] X X46 := by rw [hX46]; exact Frm.set hFX35 (show 4 ∈ [4, 1600, 2602, 2700, 3201, 3202, 3203, 3204] by first | exact nlm_in rfl | decide)
                      refine lv_iload hx hb dX8_restore_103 (lv_at hl 0 rfl) ?_
                      refine gos_i (run_S (As := [.int (jI z32)]) (rest := []) hx hb hml hown hts (c_X8_failed l D tc base ad cnt X46 Y36 ln z32 (by omega)) (cwS 1 hts gX8_restore_X8_failed rfl rfl rfl (by first | exact hd_X8_failed | decide +kernel) ⟨Nat.le_of_ble_eq_true rfl, Nat.le_of_ble_eq_true rfl⟩) hK hw rfl hl.1 rfl (Nat.le_of_ble_eq_true rfl) dX8_restore_105 ⟨(by show _ ≤ (300 : Nat); omega), (by show _ ≤ (2100 : Nat); omega)⟩) hS (fun z47 u48 H locs p49 hw hS => ?_)
                      obtain ⟨eu48, p49⟩ := p49
                      subst eu48
                      rw [hQ9]
                      refine ret_i (mc := 300) (ms := 2100) hx hb hr hlocks hw hS (by first | exact Nat.le_of_ble_eq_true rfl | omega) (by first | exact Nat.le_of_ble_eq_true rfl | omega) dX8_restore_108 ?_
                      have e50 : X35 0 0 3 = X21 0 0 3 := (by rw [hG38 0 0 3 (show 4 ∉ [1600, 2602, 2700, 3201, 3202, 3203, 3204] by first | exact nlm_ni rfl | decide)])
                      have q51 : Frm [4] X35 X46 := by rw [hX46]; exact Frm.set Frm.rf (show 4 ∈ [4] by first | exact nlm_in rfl | decide)
                      have q52 : Frm [4, 3201, 3202, 3203, 3204] X35 X46 := by rw [hX46]; exact Frm.set Frm.rf (show 4 ∈ [4, 3201, 3202, 3203, 3204] by first | exact nlm_in rfl | decide)
                      exact ⟨ad, cnt, X46, Y36, ln, rfl, hE9 _ _ _ hE, hFx, hOw, hLn, hRX46, hFX46, hHY36, (cinv_things hCIX35 q51 (fun x9 a b c => by rw [hVX46] at b; rw [e50] at c; omega)), by omega, Or.inr (Or.inr (Or.inr ⟨(by rw [tyo_some y4]; (try delta Hid at *); omega), (by (try delta Hid at *); omega), (by rw [tyo_some y4]; (try delta Hid at *); omega), r5, X21, X35, Y22, Y36, _, z32, _, y4, ⟨htcX21, hnaX21, hoaX21, hG23, hJ24⟩, hftX35, Or.inr ⟨hVX46, q52, rfl, rfl, rfl, Or.inl ⟨by omega, by omega⟩⟩⟩))⟩
                  · refine lv_aload_n hx hb dX8_restore_86 rfl (lv_at hl 2 rfl) ?_
                    refine lv_iload_n hx hb dX8_restore_87 rfl (lv_at hl 1 rfl) ?_
                    refine gos_i (run_V (As := [.int (jI (X 0 0 3))]) (rest := []) hx hb hml hown hts (c_X8_judgeThings l D tc base ad cnt X35 Y36 ln hRX35 hFx hLn hCIX35 (X 0 0 3) (by omega)) (cwV 1 hts gX8_restore_X8_judgeThings rfl rfl rfl (by first | exact hd_X8_judgeThings | decide +kernel) ⟨Nat.le_of_ble_eq_true rfl, Nat.le_of_ble_eq_true rfl⟩) hK hw (by first | exact Int.le_refl 0 | omega) (by first | exact zlt hc0 | omega) sl_0_0 rfl rfl hl.1 rfl (Nat.le_of_ble_eq_true rfl) dX8_restore_88 ⟨(by show _ ≤ (300 : Nat); omega), (by show _ ≤ (2100 : Nat); omega)⟩) hS (fun z53 u54 H locs p55 hw hS => ?_)
                    obtain ⟨X56, eu54, hRX56, hG57, hCIX56, p55, hjtX56⟩ := p55
                    subst eu54
                    have hFX56 : Frm [4, 1600, 2602, 2700, 3201, 3202, 3203, 3204] X X56 := Frm.tr hFX35 (Frm.mono hG57 (by first | exact nls_of rfl | decide))
                    refine lv_istore (lv' := [(4, .int (jI z53)), (3, .int (jI (X 0 0 3))), (0, .ref (ad 0 0)), (1, .int (jI sv)), (2, .int (jI rule))]) hx hb dX8_restore_91 hl (by decide) rfl (fun ls hl => ?_)
                    refine lv_iload hx hb dX8_restore_93 (lv_at hl 0 rfl) ?_
                    refine x_if_eq (tgt := 109) hx hb (by omega) dX8_restore_95 (by decide) (fun c58 => ?_) (fun c58 => ?_)
                    · refine lv_iload_n hx hb dX8_restore_109 rfl (lv_at hl 1 rfl) ?_
                      rw [hQ9]
                      refine ret_i (mc := 300) (ms := 2100) hx hb hr hlocks hw hS (by first | exact Nat.le_of_ble_eq_true rfl | omega) (by first | exact Nat.le_of_ble_eq_true rfl | omega) dX8_restore_110 ?_
                      have q59 : Frm [3201, 3202, 3203, 3204] X35 X56 := Frm.tr Frm.rf (Frm.mono hG57 (by first | exact nls_of rfl | decide))
                      exact ⟨ad, cnt, X56, Y36, ln, rfl, hE9 _ _ _ hE, hFx, hOw, hLn, hRX56, hFX56, hHY36, hCIX56, by omega, Or.inr (Or.inr (Or.inr ⟨(by rw [tyo_some y4]; (try delta Hid at *); omega), (by (try delta Hid at *); omega), (by rw [tyo_some y4]; (try delta Hid at *); omega), r5, X21, X35, Y22, Y36, _, z32, _, y4, ⟨htcX21, hnaX21, hoaX21, hG23, hJ24⟩, hftX35, Or.inl ⟨by omega, (by rcases hjtX56 with ⟨-, q9⟩ | ⟨q9, -⟩; exact q9; exfalso; omega), by omega, q59, rfl, rfl, rfl⟩⟩))⟩
                    · refine lv_aload_n hx hb dX8_restore_98 rfl (lv_at hl 2 rfl) ?_
                      refine lv_iload_n hx hb dX8_restore_99 rfl (lv_at hl 1 rfl) ?_
                      refine x_puti (jz := 3) hx hb hf8 ⟨tyX8_ok, nmX8⟩ hw hS (by first | exact Int.le_refl 0 | omega) (by first | exact zlt hc0 | omega) sl_0_3 rfl lk94 rfl (tyX8_ok 3 (by decide)) rfl rfl dX8_restore_100 (fun H locs hw hS => ?_)
                      obtain ⟨X60, hX60⟩ : ∃ Xq, Xq = u3 X56 0 0 3 (X 0 0 3) := ⟨_, rfl⟩
                      rw [← hX60] at hw
                      have hRX60 : Rng X60 := by rw [hX60]; exact rng_set hRX56 (show 0 ≤ (X 0 0 3) ∧ (X 0 0 3) ≤ 30 by omega)
                      have hVX60 : X60 0 0 3 = (X 0 0 3) := by rw [hX60]; exact u3_s _ _ _ _ _
                      have hFX60 : Frm [4, 1600, 2602, 2700, 3201, 3202, 3203, 3204] X X60 := by rw [hX60]; exact Frm.set hFX56 (show 4 ∈ [4, 1600, 2602, 2700, 3201, 3202, 3203, 3204] by first | exact nlm_in rfl | decide)
                      refine lv_iload hx hb dX8_restore_103 (lv_at hl 0 rfl) ?_
                      refine gos_i (run_S (As := [.int (jI z53)]) (rest := []) hx hb hml hown hts (c_X8_failed l D tc base ad cnt X60 Y36 ln z53 (by omega)) (cwS 1 hts gX8_restore_X8_failed rfl rfl rfl (by first | exact hd_X8_failed | decide +kernel) ⟨Nat.le_of_ble_eq_true rfl, Nat.le_of_ble_eq_true rfl⟩) hK hw rfl hl.1 rfl (Nat.le_of_ble_eq_true rfl) dX8_restore_105 ⟨(by show _ ≤ (300 : Nat); omega), (by show _ ≤ (2100 : Nat); omega)⟩) hS (fun z61 u62 H locs p63 hw hS => ?_)
                      obtain ⟨eu62, p63⟩ := p63
                      subst eu62
                      rw [hQ9]
                      refine ret_i (mc := 300) (ms := 2100) hx hb hr hlocks hw hS (by first | exact Nat.le_of_ble_eq_true rfl | omega) (by first | exact Nat.le_of_ble_eq_true rfl | omega) dX8_restore_108 ?_
                      have e64 : X56 0 0 3 = X21 0 0 3 := (by rw [hG57 0 0 3 (show 4 ∉ [3201, 3202, 3203, 3204] by first | exact nlm_ni rfl | decide), hG38 0 0 3 (show 4 ∉ [1600, 2602, 2700, 3201, 3202, 3203, 3204] by first | exact nlm_ni rfl | decide)])
                      have q65 : Frm [4] X56 X60 := by rw [hX60]; exact Frm.set Frm.rf (show 4 ∈ [4] by first | exact nlm_in rfl | decide)
                      have q66 : Frm [4, 3201, 3202, 3203, 3204] X35 X56 := Frm.tr Frm.rf (Frm.mono hG57 (by first | exact nls_of rfl | decide))
                      have q67 : Frm [4, 3201, 3202, 3203, 3204] X35 X60 := by rw [hX60]; exact Frm.set q66 (show 4 ∈ [4, 3201, 3202, 3203, 3204] by first | exact nlm_in rfl | decide)
                      exact ⟨ad, cnt, X60, Y36, ln, rfl, hE9 _ _ _ hE, hFx, hOw, hLn, hRX60, hFX60, hHY36, (cinv_things hCIX56 q65 (fun x9 a b c => by rw [hVX60] at b; rw [e64] at c; omega)), by omega, Or.inr (Or.inr (Or.inr ⟨(by rw [tyo_some y4]; (try delta Hid at *); omega), (by (try delta Hid at *); omega), (by rw [tyo_some y4]; (try delta Hid at *); omega), r5, X21, X35, Y22, Y36, _, z32, _, y4, ⟨htcX21, hnaX21, hoaX21, hG23, hJ24⟩, hftX35, Or.inr ⟨hVX60, q67, rfl, rfl, rfl, Or.inr ⟨by omega, (by rcases hjtX56 with ⟨q9, -⟩ | ⟨q1, y9, q2, q3, q4, q5⟩; exfalso; omega; exact ⟨y9, z53, q2, q3, q4, by omega, q5, by omega⟩)⟩⟩⟩))⟩
            · refine lv_bipush (v := jI (-4)) hx hb dX8_restore_54 (by decide) ?_
              rw [hQ9]
              refine ret_i (mc := 300) (ms := 2100) hx hb hr hlocks hw hS (by first | exact Nat.le_of_ble_eq_true rfl | omega) (by first | exact Nat.le_of_ble_eq_true rfl | omega) dX8_restore_56 ?_
              exact ⟨ad, cnt, X, Y, ln, rfl, hE9 _ _ _ hE, hFx, hOw, hLn, hR, Frm.rf, Frm.rf, hCI, by omega, Or.inr (Or.inr (Or.inl ⟨(by rw [tyo_some y4]; (try delta Hid at *); omega), (by (try delta Hid at *); omega), (by rw [tyo_some y4]; (try delta Hid at *); omega), by omega, rfl, rfl, rfl, rfl⟩))⟩
        · subst ez8
          refine x_if_neF (tgt := 33) hx hb (by omega) (by decide) dX8_restore_27 (by decide) ?_
          refine lv_bipush (v := jI (-2)) hx hb dX8_restore_30 (by decide) ?_
          rw [hQ9]
          refine ret_i (mc := 300) (ms := 2100) hx hb hr hlocks hw hS (by first | exact Nat.le_of_ble_eq_true rfl | omega) (by first | exact Nat.le_of_ble_eq_true rfl | omega) dX8_restore_32 ?_
          exact ⟨ad, cnt, X, Y, ln, rfl, hE9 _ _ _ hE, hFx, hOw, hLn, hR, Frm.rf, Frm.rf, hCI, by omega, Or.inr (Or.inl ⟨(by rw [tyo_some y4]; (try delta Hid at *); omega), (fun q9 => by (try delta Hid at *); omega), by omega, rfl, rfl, rfl, rfl⟩)⟩
      · refine lv_iconst (v := jI (-1)) hx hb dX8_restore_20 rfl ?_
        rw [hQ9]
        refine ret_i (mc := 300) (ms := 2100) hx hb hr hlocks hw hS (by first | exact Nat.le_of_ble_eq_true rfl | omega) (by first | exact Nat.le_of_ble_eq_true rfl | omega) dX8_restore_21 ?_
        exact ⟨ad, cnt, X, Y, ln, rfl, hE9 _ _ _ hE, hFx, hOw, hLn, hR, Frm.rf, Frm.rf, hCI, by omega, Or.inl ⟨(fun q9 => by rw [tyo_some y4] at q9; (try delta Hid at *); omega), by omega, rfl, rfl, rfl, rfl⟩⟩
  · subst ez1
    refine x_if_eqT (tgt := 20) hx hb (by omega) (by decide) dX8_restore_5 (by decide) ?_
    refine lv_iconst (v := jI (-1)) hx hb dX8_restore_20 rfl ?_
    rw [hQ9]
    refine ret_i (mc := 300) (ms := 2100) hx hb hr hlocks hw hS (by first | exact Nat.le_of_ble_eq_true rfl | omega) (by first | exact Nat.le_of_ble_eq_true rfl | omega) dX8_restore_21 ?_
    exact ⟨ad, cnt, X, Y, ln, rfl, hE9 _ _ _ hE, hFx, hOw, hLn, hR, Frm.rf, Frm.rf, hCI, by omega, Or.inl ⟨(fun q9 => by (try delta Hid at *); omega), by omega, rfl, rfl, rfl, rfl⟩⟩
end
