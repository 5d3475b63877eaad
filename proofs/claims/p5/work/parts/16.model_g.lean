set_option maxHeartbeats 4000000 in
set_option maxRecDepth 100000 in
theorem c_X9_save (l : Launch) (D : va_G) (tc : Nat → ClassId) (base : Nat) (ad : Nat → Int → Nat) (cnt : Nat → Int) (X : Nat → Int → Int → Int) (Y : Nat → Int → Int → Option Int) (ln : Int → Int) (hR : Rng X) (hFx : Fx cnt) (hMI : MInv X) (sv x : Int) (hsv : -2147483648 ≤ sv ∧ sv ≤ 2147483647) (hx : -2147483648 ≤ x ∧ x ≤ 2147483647) : KI l D tc base yX9_save wsX9_save ({ frames := 2, cells := 0, slots := 0, locals := 53 } : Room) [.ref (ad 40 0), .int (jI sv), .int (jI x)] (ad, cnt, X, Y, ln) 0 0 (fun z u => ∃ X1 : Nat → Int → Int → Int, u = (ad, cnt, X1, Y, ln) ∧ Rng X1 ∧ Frm [4001, 7100, 7200, 7300, 7400, 7500, 8000, 7000, 8100, 7700, 7800, 7900, 7600, 4042, 4043, 4044] X X1 ∧ MInv X1 ∧ (-2147483648 ≤ z ∧ z ≤ 2147483647)) := by
  refine K_of (cc := cX9_save) (maxL := 6) (ret := (some .int)) (by decide) rfl (Nat.le_of_ble_eq_true rfl) ?_
  intro p e s m below meth c ls hx hb hr hml hown hts hlocks hl hK hw hS
  have hown : s.vm.findClass RX9 = some m.cls := hown
  have hi9 : ∀ w ∈ wsX90, w ∈ wsX9_save := fun w h => List.mem_cons_of_mem _ (List.mem_append_right _ h)
  have hf9 : fctx s m _ RX9 wsX9_save D tc RX9 TX9 51 9 := ⟨hts, hi9, hown, hK.1, rfl⟩
  have lk81 := hts (.fieldLink RX9 81 "StateRecordsModel" "sMany" "[I") (by decide +kernel)
  have lk84 := hts (.fieldLink RX9 84 "StateRecordsModel" "sType" "[I") (by decide +kernel)
  have lk87 := hts (.fieldLink RX9 87 "StateRecordsModel" "sFields" "[I") (by decide +kernel)
  have lk90 := hts (.fieldLink RX9 90 "StateRecordsModel" "sName" "[I") (by decide +kernel)
  have lk93 := hts (.fieldLink RX9 93 "StateRecordsModel" "sLane" "[I") (by decide +kernel)
  have lk96 := hts (.fieldLink RX9 96 "StateRecordsModel" "sVal" "[J") (by decide +kernel)
  have lk99 := hts (.fieldLink RX9 99 "StateRecordsModel" "sRows" "[I") (by decide +kernel)
  have lk102 := hts (.fieldLink RX9 102 "StateRecordsModel" "sRowLane" "[I") (by decide +kernel)
  have lk105 := hts (.fieldLink RX9 105 "StateRecordsModel" "sRowMany" "[I") (by decide +kernel)
  have lk108 := hts (.fieldLink RX9 108 "StateRecordsModel" "sRowItems" "[J") (by decide +kernel)
  have lk145 := hts (.fieldLink RX9 145 "StateRecordsModel" "code" "I") (by decide +kernel)
  have hc40 : cnt 40 = 1 := hFx.at 40 1 (by decide)
  have hc70 : cnt 70 = 1 := hFx.at 70 1 (by decide)
  have hc71 : cnt 71 = 1 := hFx.at 71 1 (by decide)
  have hc72 : cnt 72 = 1 := hFx.at 72 1 (by decide)
  have hc73 : cnt 73 = 1 := hFx.at 73 1 (by decide)
  have hc74 : cnt 74 = 1 := hFx.at 74 1 (by decide)
  have hc75 : cnt 75 = 1 := hFx.at 75 1 (by decide)
  have hc76 : cnt 76 = 1 := hFx.at 76 1 (by decide)
  have hc77 : cnt 77 = 1 := hFx.at 77 1 (by decide)
  have hc78 : cnt 78 = 1 := hFx.at 78 1 (by decide)
  have hc79 : cnt 79 = 1 := hFx.at 79 1 (by decide)
  have hl : lv_has ls 6 [(0, .ref (ad 40 0)), (1, .int (jI sv)), (2, .int (jI x))] := hl
  have fstypes : 0 ≤ X 40 0 2 ∧ X 40 0 2 ≤ 8 := hR 40 0 2
  have fsthings : 0 ≤ X 40 0 13 ∧ X 40 0 13 ≤ 30 := hR 40 0 13
  have fsmarks : 0 ≤ X 40 0 20 ∧ X 40 0 20 ≤ 4 := hR 40 0 20
  have fsnotes : 0 ≤ X 40 0 22 ∧ X 40 0 22 ≤ 80 := hR 40 0 22
  refine lv_aload_n hx hb dX9_save_0 rfl (lv_at hl 0 rfl) ?_
  refine lv_iconst (v := jI 0) hx hb dX9_save_1 rfl ?_
  refine x_puti (jz := 0) hx hb hf9 ⟨tyX9_ok, nmX9⟩ hw hS (by omega) (by omega) sl_40_0 rfl lk145 rfl (tyX9_ok 0 (by decide)) rfl rfl dX9_save_2 (fun H locs hw hS => ?_)
  obtain ⟨X1, hX1⟩ : ∃ Xq, Xq = u3 X 40 0 0 0 := ⟨_, rfl⟩
  rw [← hX1] at hw
  have hRX1 : Rng X1 := by rw [hX1]; exact rng_set hR (show (-2147483648) ≤ 0 ∧ 0 ≤ 2147483647 by omega)
  have hVX1 : X1 40 0 0 = 0 := by rw [hX1]; exact u3_s _ _ _ _ _
  have hFX1 : Frm [4001, 7100, 7200, 7300, 7400, 7500, 8000, 7000, 8100, 7700, 7800, 7900, 7600, 4042, 4043, 4044] X X1 := by rw [hX1]; exact Frm.set Frm.rf (show 4001 ∈ [4001, 7100, 7200, 7300, 7400, 7500, 8000, 7000, 8100, 7700, 7800, 7900, 7600, 4042, 4043, 4044] by decide)
  refine lv_aload_n hx hb dX9_save_5 rfl (lv_at hl 0 rfl) ?_
  refine lv_iload_n hx hb dX9_save_6 rfl (lv_at hl 1 rfl) ?_
  refine gos_i (run_V (As := [.int (jI sv)]) (rest := []) hx hb hml hown hts (c_X9_isSave l D tc base ad cnt X1 Y ln hRX1 hFx sv (by omega)) (cwV 1 hts gX9_save_X9_isSave rfl rfl rfl (by decide +kernel) ⟨Nat.le_of_ble_eq_true rfl, Nat.le_of_ble_eq_true rfl⟩) hK hw (by omega) (by omega) sl_40_0 rfl rfl hl.1 rfl (Nat.le_of_ble_eq_true rfl) dX9_save_7 ⟨Nat.le_of_ble_eq_true rfl, Nat.le_of_ble_eq_true rfl⟩) hS (fun z2 u3 H locs p4 hw hS => ?_)
  obtain ⟨eu3, p4⟩ := p4
  subst eu3
  rcases p4 with ⟨ez2, p4⟩ | ⟨ez2, p4⟩
  · subst ez2
    refine x_if_eqF (tgt := 21) hx hb (by omega) (by decide) dX9_save_10 (by decide) ?_
    refine lv_aload_n hx hb dX9_save_13 rfl (lv_at hl 0 rfl) ?_
    refine lv_iload_n hx hb dX9_save_14 rfl (lv_at hl 2 rfl) ?_
    refine gos_i (run_V (As := [.int (jI x)]) (rest := []) hx hb hml hown hts (c_X9_isThing l D tc base ad cnt X1 Y ln hRX1 hFx x (by omega)) (cwV 1 hts gX9_save_X9_isThing rfl rfl rfl (by decide +kernel) ⟨Nat.le_of_ble_eq_true rfl, Nat.le_of_ble_eq_true rfl⟩) hK hw (by omega) (by omega) sl_40_0 rfl rfl hl.1 rfl (Nat.le_of_ble_eq_true rfl) dX9_save_15 ⟨Nat.le_of_ble_eq_true rfl, Nat.le_of_ble_eq_true rfl⟩) hS (fun z5 u6 H locs p7 hw hS => ?_)
    obtain ⟨eu6, p7⟩ := p7
    subst eu6
    have e8 : X1 40 0 13 = X 40 0 13 := by rw [hX1, u3_j _ _ _ _ (by decide)]
    simp only [e8] at p7
    rcases p7 with ⟨ez5, p7⟩ | ⟨ez5, p7⟩
    · subst ez5
      refine x_if_neT (tgt := 23) hx hb (by omega) (by decide) dX9_save_18 (by decide) ?_
      refine lv_aload_n hx hb dX9_save_23 rfl (lv_at hl 0 rfl) ?_
      refine lv_iload_n hx hb dX9_save_24 rfl (lv_at hl 2 rfl) ?_
      refine lv_iconst (v := jI 1) hx hb dX9_save_25 rfl ?_
      have q10 : Frm [4001] X X1 := by rw [hX1]; exact Frm.set Frm.rf (show 4001 ∈ [4001] by decide)
      have hMq9 : MInv X1 := minv_frm hMI q10 (by decide)
      have e11 : X1 40 0 13 = X 40 0 13 := by rw [hX1, u3_j _ _ _ _ (by decide)]
      refine gos_i (run_V (As := [.int (jI x), .int (jI 1)]) (rest := []) hx hb hml hown hts (c_X9_saves l D tc base ad cnt X1 Y ln hRX1 hFx hMq9 x 1 (by omega) (by simp only [e11]; omega) (by omega)) (cwV 2 hts gX9_save_X9_saves rfl rfl rfl (by decide +kernel) ⟨Nat.le_of_ble_eq_true rfl, Nat.le_of_ble_eq_true rfl⟩) hK hw (by omega) (by omega) sl_40_0 rfl rfl hl.1 rfl (Nat.le_of_ble_eq_true rfl) dX9_save_26 ⟨Nat.le_of_ble_eq_true rfl, Nat.le_of_ble_eq_true rfl⟩) hS (fun z12 u13 H locs p14 hw hS => ?_)
      obtain ⟨X15, eu13, hRX15, hG16, hMIX15, p14, h4X15, hcX15⟩ := p14
      subst eu13
      have hFX15 : Frm [4001, 7100, 7200, 7300, 7400, 7500, 8000, 7000, 8100, 7700, 7800, 7900, 7600, 4042, 4043, 4044] X X15 := Frm.tr hFX1 (Frm.mono hG16 (by decide))
      refine lv_istore_n (lv' := [(3, .int (jI z12)), (0, .ref (ad 40 0)), (1, .int (jI sv)), (2, .int (jI x))]) hx hb dX9_save_29 rfl hl (by decide) rfl (fun ls hl => ?_)
      refine lv_iload_n hx hb dX9_save_30 rfl (lv_at hl 0 rfl) ?_
      refine x_if_ge (tgt := 36) hx hb (by omega) dX9_save_31 (by decide) (fun c17 => ?_) (fun c17 => ?_)
      · refine lv_aload_n hx hb dX9_save_36 rfl (lv_at hl 1 rfl) ?_
        refine x_geto hx hb hf9 hw (by omega) (by omega) sl_40_29 lk81 dX9_save_37 ?_
        refine lv_iload_n hx hb dX9_save_40 rfl (lv_at hl 2 rfl) ?_
        refine lv_iload_n hx hb dX9_save_41 rfl (lv_at hl 0 rfl) ?_
        refine x_iast hx hb hK.1 hw hS (by omega) (by omega) ar_70 (len_E ar_70 (by decide)) (by omega) (by omega) (by omega) dX9_save_42 (fun H locs hw hS => ?_)
        obtain ⟨X18, hX18⟩ : ∃ Xq, Xq = u3 X15 70 0 sv z12 := ⟨_, rfl⟩
        rw [← hX18] at hw
        have hRX18 : Rng X18 := by rw [hX18]; exact rng_set hRX15 (show 0 ≤ z12 ∧ z12 ≤ 30 by omega)
        have hVX18 : X18 70 0 sv = z12 := by rw [hX18]; exact u3_s _ _ _ _ _
        have hFX18 : Frm [4001, 7100, 7200, 7300, 7400, 7500, 8000, 7000, 8100, 7700, 7800, 7900, 7600, 4042, 4043, 4044] X X18 := by rw [hX18]; exact Frm.set hFX15 (show 7000 ∈ [4001, 7100, 7200, 7300, 7400, 7500, 8000, 7000, 8100, 7700, 7800, 7900, 7600, 4042, 4043, 4044] by decide)
        refine lv_aload_n hx hb dX9_save_43 rfl (lv_at hl 1 rfl) ?_
        refine x_geto hx hb hf9 hw (by omega) (by omega) sl_40_35 lk99 dX9_save_44 ?_
        refine lv_iload_n hx hb dX9_save_47 rfl (lv_at hl 2 rfl) ?_
        refine lv_aload_n hx hb dX9_save_48 rfl (lv_at hl 1 rfl) ?_
        refine x_geto hx hb hf9 hw (by omega) (by omega) sl_40_35 lk99 dX9_save_49 ?_
        refine lv_iconst (v := jI 4) hx hb dX9_save_52 rfl ?_
        refine x_iald hx hb hK.1 hw (by omega) (by omega) ar_76 (len_E ar_76 (by decide)) (by omega) (by omega) (by omega) dX9_save_53 ?_
        have e19 : ∀ p9 q9 : Int, X18 76 p9 q9 = X15 76 p9 q9 := fun p9 q9 => by rw [hX18, u3_k _ _ _ _ (by decide)]
        rw [e19 0 4]
        have f20 : 0 ≤ X15 76 0 4 ∧ X15 76 0 4 ≤ 150 := hRX15 76 0 4
        refine x_iast hx hb hK.1 hw hS (by omega) (by omega) ar_76 (len_E ar_76 (by decide)) (by omega) (by omega) (by omega) dX9_save_54 (fun H locs hw hS => ?_)
        obtain ⟨X21, hX21⟩ : ∃ Xq, Xq = u3 X18 76 0 sv (X15 76 0 4) := ⟨_, rfl⟩
        rw [← hX21] at hw
        have hRX21 : Rng X21 := by rw [hX21]; exact rng_set hRX18 (show 0 ≤ (X15 76 0 4) ∧ (X15 76 0 4) ≤ 150 by omega)
        have hVX21 : X21 76 0 sv = (X15 76 0 4) := by rw [hX21]; exact u3_s _ _ _ _ _
        have hFX21 : Frm [4001, 7100, 7200, 7300, 7400, 7500, 8000, 7000, 8100, 7700, 7800, 7900, 7600, 4042, 4043, 4044] X X21 := by rw [hX21]; exact Frm.set hFX18 (show 7600 ∈ [4001, 7100, 7200, 7300, 7400, 7500, 8000, 7000, 8100, 7700, 7800, 7900, 7600, 4042, 4043, 4044] by decide)
        refine lv_iconst (v := jI 0) hx hb dX9_save_55 rfl ?_
        refine lv_istore (lv' := [(4, .int (jI 0)), (3, .int (jI z12)), (0, .ref (ad 40 0)), (1, .int (jI sv)), (2, .int (jI x))]) hx hb dX9_save_56 hl (by decide) rfl (fun ls hl => ?_)
        have lp58 : ∀ (nn : Nat) (r : Int) (Xa : Nat → Int → Int → Int) (H : Heap) (locs : List Loc) (ls : Array Slot), (30 - r) < (nn : Int) → (Rng Xa) → (Frm [7100, 7200, 7300, 7400, 7500] X21 Xa) → (0 ≤ r ∧ r ≤ 30) → (Cpy X15 Xa sv r r 0) → wd D tc base (ad, cnt, Xa, Y, ln) H → va_S (frA base) s.heap H locs → lv_has ls 6 [(0, .ref (ad 40 0)), (1, .int (jI sv)), (2, .int (jI x)), (3, .int (jI z12)), (4, .int (jI r))] → W p l e ({ frames := 2, cells := 0, slots := 0, locals := 53 } : Room) s m ([.ref (ad 40 0), .int (jI sv), .int (jI x)] : List Value).toArray below meth c H locs 0 0 (MQ below (QI D tc base (fun z u => ∃ X1 : Nat → Int → Int → Int, u = (ad, cnt, X1, Y, ln) ∧ Rng X1 ∧ Frm [4001, 7100, 7200, 7300, 7400, 7500, 8000, 7000, 8100, 7700, 7800, 7900, 7600, 4042, 4043, 4044] X X1 ∧ MInv X1 ∧ (-2147483648 ≤ z ∧ z ≤ 2147483647))) ([.ref (ad 40 0), .int (jI sv), .int (jI x)] : List Value).toArray s 0 0 (frA base)) (F0 m 58 ls []) := by
          intro nn
          induction nn with
          | zero => intro r Xa H locs ls hm hRXa hGXa hr0 hCa hw hS hl; exfalso; omega
          | succ nn ih58 =>
            intro r Xa H locs ls hm hRXa hGXa hr0 hCa hw hS hl
            have hFXa : Frm [4001, 7100, 7200, 7300, 7400, 7500, 8000, 7000, 8100, 7700, 7800, 7900, 7600, 4042, 4043, 4044] X Xa := Frm.tr hFX21 (Frm.mono hGXa (by decide))
            refine lv_iload hx hb dX9_save_58 (lv_at hl 4 rfl) ?_
            refine lv_iload_n hx hb dX9_save_60 rfl (lv_at hl 3 rfl) ?_
            refine x_icmp_ge (tgt := 225) hx hb (by omega) (by omega) dX9_save_61 (by decide) (fun c22 => ?_) (fun c22 => ?_)
            · refine lv_iconst (v := jI 0) hx hb dX9_save_225 rfl ?_
              refine lv_istore (lv' := [(4, .int (jI 0)), (0, .ref (ad 40 0)), (1, .int (jI sv)), (2, .int (jI x)), (3, .int (jI z12))]) hx hb dX9_save_226 hl (by decide) rfl (fun ls hl => ?_)
              have lp228 : ∀ (nn : Nat) (r : Int) (Xc : Nat → Int → Int → Int) (H : Heap) (locs : List Loc) (ls : Array Slot), (150 - r) < (nn : Int) → (Rng Xc) → (Frm [7700, 7800, 7900] Xa Xc) → (0 ≤ r ∧ r ≤ 150) → wd D tc base (ad, cnt, Xc, Y, ln) H → va_S (frA base) s.heap H locs → lv_has ls 6 [(0, .ref (ad 40 0)), (1, .int (jI sv)), (2, .int (jI x)), (3, .int (jI z12)), (4, .int (jI r))] → W p l e ({ frames := 2, cells := 0, slots := 0, locals := 53 } : Room) s m ([.ref (ad 40 0), .int (jI sv), .int (jI x)] : List Value).toArray below meth c H locs 0 0 (MQ below (QI D tc base (fun z u => ∃ X1 : Nat → Int → Int → Int, u = (ad, cnt, X1, Y, ln) ∧ Rng X1 ∧ Frm [4001, 7100, 7200, 7300, 7400, 7500, 8000, 7000, 8100, 7700, 7800, 7900, 7600, 4042, 4043, 4044] X X1 ∧ MInv X1 ∧ (-2147483648 ≤ z ∧ z ≤ 2147483647))) ([.ref (ad 40 0), .int (jI sv), .int (jI x)] : List Value).toArray s 0 0 (frA base)) (F0 m 228 ls []) := by
                intro nn
                induction nn with
                | zero => intro r Xc H locs ls hm hRXc hGXc hr0 hw hS hl; exfalso; omega
                | succ nn ih228 =>
                  intro r Xc H locs ls hm hRXc hGXc hr0 hw hS hl
                  have hFXc : Frm [4001, 7100, 7200, 7300, 7400, 7500, 8000, 7000, 8100, 7700, 7800, 7900, 7600, 4042, 4043, 4044] X Xc := Frm.tr hFXa (Frm.mono hGXc (by decide))
                  refine lv_iload hx hb dX9_save_228 (lv_at hl 4 rfl) ?_
                  refine lv_aload_n hx hb dX9_save_230 rfl (lv_at hl 0 rfl) ?_
                  refine x_geto hx hb hf9 hw (by omega) (by omega) sl_40_35 lk99 dX9_save_231 ?_
                  refine lv_iconst (v := jI 4) hx hb dX9_save_234 rfl ?_
                  refine x_iald hx hb hK.1 hw (by omega) (by omega) ar_76 (len_E ar_76 (by decide)) (by omega) (by omega) (by omega) dX9_save_235 ?_
                  have e23 : ∀ p9 q9 : Int, Xc 76 p9 q9 = X21 76 p9 q9 := fun p9 q9 => by rw [hGXc 76 p9 q9 (show 7600 ∉ [7700, 7800, 7900] by decide), hGXa 76 p9 q9 (show 7600 ∉ [7100, 7200, 7300, 7400, 7500] by decide)]
                  rw [e23 0 4]
                  have f24 : 0 ≤ X21 76 0 4 ∧ X21 76 0 4 ≤ 150 := hRX21 76 0 4
                  refine x_icmp_ge (tgt := 345) hx hb (by omega) (by omega) dX9_save_236 (by decide) (fun c25 => ?_) (fun c25 => ?_)
                  · refine lv_iload_n hx hb dX9_save_345 rfl (lv_at hl 3 rfl) ?_
                    refine ret_i (mc := 0) (ms := 0) hx hb hr hlocks hw hS (by omega) (by omega) dX9_save_346 ?_
                    have q26 : Frm [7000, 7100, 7200, 7300, 7400, 7500, 7600, 7700, 7800, 7900] X15 X18 := by rw [hX18]; exact Frm.set Frm.rf (show 7000 ∈ [7000, 7100, 7200, 7300, 7400, 7500, 7600, 7700, 7800, 7900] by decide)
                    have q27 : Frm [7000, 7100, 7200, 7300, 7400, 7500, 7600, 7700, 7800, 7900] X15 X21 := by rw [hX21]; exact Frm.set q26 (show 7600 ∈ [7000, 7100, 7200, 7300, 7400, 7500, 7600, 7700, 7800, 7900] by decide)
                    have q28 : Frm [7000, 7100, 7200, 7300, 7400, 7500, 7600, 7700, 7800, 7900] X15 Xa := Frm.tr q27 (Frm.mono hGXa (by decide))
                    exact ⟨Xc, rfl, hRXc, hFXc, minv_frm (minv_save (n := z12) hMIX15 hRX15 (hcX15 (by omega)).2 ((hcX15 (by omega)).1).symm (by omega) q28 (fun j hj => (by rw [hGXa 70 0 j (show 7000 ∉ [7100, 7200, 7300, 7400, 7500] by decide), hX21, u3_k _ _ _ _ (by decide), hX18, u3_j _ _ _ _ hj])) (by rw [hGXa 70 0 sv (show 7000 ∉ [7100, 7200, 7300, 7400, 7500] by decide), hX21, u3_k _ _ _ _ (by decide)]; exact hVX18) (hCa.le (by omega)) (by omega)) hGXc (by decide), by omega⟩
                  · refine lv_aload_n hx hb dX9_save_239 rfl (lv_at hl 0 rfl) ?_
                    refine x_geto hx hb hf9 hw (by omega) (by omega) sl_40_36 lk102 dX9_save_240 ?_
                    refine lv_sipush (v := jI 150) hx hb dX9_save_243 (by decide) ?_
                    refine lv_iload_n hx hb dX9_save_246 rfl (lv_at hl 1 rfl) ?_
                    refine x_imul hx hb dX9_save_247 ?_
                    refine lv_iload hx hb dX9_save_248 (lv_at hl 4 rfl) ?_
                    refine x_iadd hx hb dX9_save_250 ?_
                    refine lv_aload_n hx hb dX9_save_251 rfl (lv_at hl 0 rfl) ?_
                    refine x_geto hx hb hf9 hw (by omega) (by omega) sl_40_36 lk102 dX9_save_252 ?_
                    refine lv_sipush (v := jI 600) hx hb dX9_save_255 (by decide) ?_
                    refine lv_iload hx hb dX9_save_258 (lv_at hl 4 rfl) ?_
                    refine x_iadd hx hb dX9_save_260 ?_
                    refine x_iald hx hb hK.1 hw (by omega) (by omega) ar_77 (len_E ar_77 (by decide)) (by omega) (by omega) (by omega) dX9_save_261 ?_
                    have f29 : 0 ≤ Xc 77 0 (600 + r) ∧ Xc 77 0 (600 + r) ≤ 5 := hRXc 77 0 (600 + r)
                    refine x_iast hx hb hK.1 hw hS (by omega) (by omega) ar_77 (len_E ar_77 (by decide)) (by omega) (by omega) (by omega) dX9_save_262 (fun H locs hw hS => ?_)
                    obtain ⟨X30, hX30⟩ : ∃ Xq, Xq = u3 Xc 77 0 ((150 * sv) + r) (Xc 77 0 (600 + r)) := ⟨_, rfl⟩
                    rw [← hX30] at hw
                    have hRX30 : Rng X30 := by rw [hX30]; exact rng_set hRXc (show 0 ≤ (Xc 77 0 (600 + r)) ∧ (Xc 77 0 (600 + r)) ≤ 5 by omega)
                    have hVX30 : X30 77 0 ((150 * sv) + r) = (Xc 77 0 (600 + r)) := by rw [hX30]; exact u3_s _ _ _ _ _
                    have hFX30 : Frm [4001, 7100, 7200, 7300, 7400, 7500, 8000, 7000, 8100, 7700, 7800, 7900, 7600, 4042, 4043, 4044] X X30 := by rw [hX30]; exact Frm.set hFXc (show 7700 ∈ [4001, 7100, 7200, 7300, 7400, 7500, 8000, 7000, 8100, 7700, 7800, 7900, 7600, 4042, 4043, 4044] by decide)
                    refine lv_aload_n hx hb dX9_save_263 rfl (lv_at hl 0 rfl) ?_
                    refine x_geto hx hb hf9 hw (by omega) (by omega) sl_40_37 lk105 dX9_save_264 ?_
                    refine lv_sipush (v := jI 150) hx hb dX9_save_267 (by decide) ?_
                    refine lv_iload_n hx hb dX9_save_270 rfl (lv_at hl 1 rfl) ?_
                    refine x_imul hx hb dX9_save_271 ?_
                    refine lv_iload hx hb dX9_save_272 (lv_at hl 4 rfl) ?_
                    refine x_iadd hx hb dX9_save_274 ?_
                    refine lv_aload_n hx hb dX9_save_275 rfl (lv_at hl 0 rfl) ?_
                    refine x_geto hx hb hf9 hw (by omega) (by omega) sl_40_37 lk105 dX9_save_276 ?_
                    refine lv_sipush (v := jI 600) hx hb dX9_save_279 (by decide) ?_
                    refine lv_iload hx hb dX9_save_282 (lv_at hl 4 rfl) ?_
                    refine x_iadd hx hb dX9_save_284 ?_
                    refine x_iald hx hb hK.1 hw (by omega) (by omega) ar_78 (len_E ar_78 (by decide)) (by omega) (by omega) (by omega) dX9_save_285 ?_
                    have e31 : ∀ p9 q9 : Int, X30 78 p9 q9 = Xc 78 p9 q9 := fun p9 q9 => by rw [hX30, u3_k _ _ _ _ (by decide)]
                    rw [e31 0 (600 + r)]
                    have f32 : 0 ≤ Xc 78 0 (600 + r) ∧ Xc 78 0 (600 + r) ≤ 12 := hRXc 78 0 (600 + r)
                    refine x_iast hx hb hK.1 hw hS (by omega) (by omega) ar_78 (len_E ar_78 (by decide)) (by omega) (by omega) (by omega) dX9_save_286 (fun H locs hw hS => ?_)
                    obtain ⟨X33, hX33⟩ : ∃ Xq, Xq = u3 X30 78 0 ((150 * sv) + r) (Xc 78 0 (600 + r)) := ⟨_, rfl⟩
                    rw [← hX33] at hw
                    have hRX33 : Rng X33 := by rw [hX33]; exact rng_set hRX30 (show 0 ≤ (Xc 78 0 (600 + r)) ∧ (Xc 78 0 (600 + r)) ≤ 12 by omega)
                    have hVX33 : X33 78 0 ((150 * sv) + r) = (Xc 78 0 (600 + r)) := by rw [hX33]; exact u3_s _ _ _ _ _
                    have hFX33 : Frm [4001, 7100, 7200, 7300, 7400, 7500, 8000, 7000, 8100, 7700, 7800, 7900, 7600, 4042, 4043, 4044] X X33 := by rw [hX33]; exact Frm.set hFX30 (show 7800 ∈ [4001, 7100, 7200, 7300, 7400, 7500, 8000, 7000, 8100, 7700, 7800, 7900, 7600, 4042, 4043, 4044] by decide)
                    refine lv_iconst (v := jI 0) hx hb dX9_save_287 rfl ?_
                    refine lv_istore (lv' := [(5, .int (jI 0)), (0, .ref (ad 40 0)), (1, .int (jI sv)), (2, .int (jI x)), (3, .int (jI z12)), (4, .int (jI r))]) hx hb dX9_save_288 hl (by decide) rfl (fun ls hl => ?_)
                    have lp290 : ∀ (nn : Nat) (k : Int) (Xd : Nat → Int → Int → Int) (H : Heap) (locs : List Loc) (ls : Array Slot), (12 - k) < (nn : Int) → (Rng Xd) → (Frm [7900] X33 Xd) → (0 ≤ k ∧ k ≤ 12) → wd D tc base (ad, cnt, Xd, Y, ln) H → va_S (frA base) s.heap H locs → lv_has ls 6 [(0, .ref (ad 40 0)), (1, .int (jI sv)), (2, .int (jI x)), (3, .int (jI z12)), (4, .int (jI r)), (5, .int (jI k))] → W p l e ({ frames := 2, cells := 0, slots := 0, locals := 53 } : Room) s m ([.ref (ad 40 0), .int (jI sv), .int (jI x)] : List Value).toArray below meth c H locs 0 0 (MQ below (QI D tc base (fun z u => ∃ X1 : Nat → Int → Int → Int, u = (ad, cnt, X1, Y, ln) ∧ Rng X1 ∧ Frm [4001, 7100, 7200, 7300, 7400, 7500, 8000, 7000, 8100, 7700, 7800, 7900, 7600, 4042, 4043, 4044] X X1 ∧ MInv X1 ∧ (-2147483648 ≤ z ∧ z ≤ 2147483647))) ([.ref (ad 40 0), .int (jI sv), .int (jI x)] : List Value).toArray s 0 0 (frA base)) (F0 m 290 ls []) := by
                      intro nn
                      induction nn with
                      | zero => intro k Xd H locs ls hm hRXd hGXd hk hw hS hl; exfalso; omega
                      | succ nn ih290 =>
                        intro k Xd H locs ls hm hRXd hGXd hk hw hS hl
                        have hFXd : Frm [4001, 7100, 7200, 7300, 7400, 7500, 8000, 7000, 8100, 7700, 7800, 7900, 7600, 4042, 4043, 4044] X Xd := Frm.tr hFX33 (Frm.mono hGXd (by decide))
                        refine lv_iload hx hb dX9_save_290 (lv_at hl 5 rfl) ?_
                        refine lv_bipush (v := jI 12) hx hb dX9_save_292 (by decide) ?_
                        refine x_icmp_ge (tgt := 339) hx hb (by omega) (by omega) dX9_save_294 (by decide) (fun c34 => ?_) (fun c34 => ?_)
                        · refine lv_iinc (v := jI (r + 1)) (lv' := [(4, .int (jI (r + 1))), (0, .ref (ad 40 0)), (1, .int (jI sv)), (2, .int (jI x)), (3, .int (jI z12)), (5, .int (jI k))]) hx hb dX9_save_339 hl (k := 4) rfl (jI_add _ _) (by decide) rfl (fun ls hl => ?_)
                          refine lv_goto (tgt := 228) hx hb dX9_save_342 (by decide) ?_
                          have q35 : Frm [7700, 7800, 7900] Xa Xc := Frm.tr Frm.rf (Frm.mono hGXc (by decide))
                          have q36 : Frm [7700, 7800, 7900] Xa X30 := by rw [hX30]; exact Frm.set q35 (show 7700 ∈ [7700, 7800, 7900] by decide)
                          have q37 : Frm [7700, 7800, 7900] Xa X33 := by rw [hX33]; exact Frm.set q36 (show 7800 ∈ [7700, 7800, 7900] by decide)
                          have q38 : Frm [7700, 7800, 7900] Xa Xd := Frm.tr q37 (Frm.mono hGXd (by decide))
                          exact ih228 (r + 1) Xd _ _ _ (by omega) hRXd q38 (by omega) hw hS (lv_sub hl [1, 2, 3, 4, 0] rfl)
                        · refine lv_aload_n hx hb dX9_save_297 rfl (lv_at hl 0 rfl) ?_
                          refine x_geto hx hb hf9 hw (by omega) (by omega) sl_40_38 lk108 dX9_save_298 ?_
                          refine lv_bipush (v := jI 12) hx hb dX9_save_301 (by decide) ?_
                          refine lv_sipush (v := jI 150) hx hb dX9_save_303 (by decide) ?_
                          refine lv_iload_n hx hb dX9_save_306 rfl (lv_at hl 1 rfl) ?_
                          refine x_imul hx hb dX9_save_307 ?_
                          refine lv_iload hx hb dX9_save_308 (lv_at hl 4 rfl) ?_
                          refine x_iadd hx hb dX9_save_310 ?_
                          refine x_imul hx hb dX9_save_311 ?_
                          refine lv_iload hx hb dX9_save_312 (lv_at hl 5 rfl) ?_
                          refine x_iadd hx hb dX9_save_314 ?_
                          refine lv_aload_n hx hb dX9_save_315 rfl (lv_at hl 0 rfl) ?_
                          refine x_geto hx hb hf9 hw (by omega) (by omega) sl_40_38 lk108 dX9_save_316 ?_
                          refine lv_bipush (v := jI 12) hx hb dX9_save_319 (by decide) ?_
                          refine lv_sipush (v := jI 600) hx hb dX9_save_321 (by decide) ?_
                          refine lv_iload hx hb dX9_save_324 (lv_at hl 4 rfl) ?_
                          refine x_iadd hx hb dX9_save_326 ?_
                          refine x_imul hx hb dX9_save_327 ?_
                          refine lv_iload hx hb dX9_save_328 (lv_at hl 5 rfl) ?_
                          refine x_iadd hx hb dX9_save_330 ?_
                          refine x_lald hx hb hK.1 hw (by omega) (by omega) ar_79 (len_E ar_79 (by decide)) (by omega) (by omega) (by omega) dX9_save_331 ?_
                          have f39 : (-9223372036854775808) ≤ Xd 79 0 ((12 * (600 + r)) + k) ∧ Xd 79 0 ((12 * (600 + r)) + k) ≤ 9223372036854775807 := hRXd 79 0 ((12 * (600 + r)) + k)
                          refine x_last hx hb hK.1 hw hS (by omega) (by omega) ar_79 (len_E ar_79 (by decide)) (by omega) (by omega) (by omega) dX9_save_332 (fun H locs hw hS => ?_)
                          obtain ⟨X40, hX40⟩ : ∃ Xq, Xq = u3 Xd 79 0 ((12 * ((150 * sv) + r)) + k) (Xd 79 0 ((12 * (600 + r)) + k)) := ⟨_, rfl⟩
                          rw [← hX40] at hw
                          have hRX40 : Rng X40 := by rw [hX40]; exact rng_set hRXd (show (-9223372036854775808) ≤ (Xd 79 0 ((12 * (600 + r)) + k)) ∧ (Xd 79 0 ((12 * (600 + r)) + k)) ≤ 9223372036854775807 by omega)
                          have hVX40 : X40 79 0 ((12 * ((150 * sv) + r)) + k) = (Xd 79 0 ((12 * (600 + r)) + k)) := by rw [hX40]; exact u3_s _ _ _ _ _
                          have hFX40 : Frm [4001, 7100, 7200, 7300, 7400, 7500, 8000, 7000, 8100, 7700, 7800, 7900, 7600, 4042, 4043, 4044] X X40 := by rw [hX40]; exact Frm.set hFXd (show 7900 ∈ [4001, 7100, 7200, 7300, 7400, 7500, 8000, 7000, 8100, 7700, 7800, 7900, 7600, 4042, 4043, 4044] by decide)
                          refine lv_iinc (v := jI (k + 1)) (lv' := [(5, .int (jI (k + 1))), (0, .ref (ad 40 0)), (1, .int (jI sv)), (2, .int (jI x)), (3, .int (jI z12)), (4, .int (jI r))]) hx hb dX9_save_333 hl (k := 5) rfl (jI_add _ _) (by decide) rfl (fun ls hl => ?_)
                          refine lv_goto (tgt := 290) hx hb dX9_save_336 (by decide) ?_
                          have q41 : Frm [7900] X33 Xd := Frm.tr Frm.rf (Frm.mono hGXd (by decide))
                          have q42 : Frm [7900] X33 X40 := by rw [hX40]; exact Frm.set q41 (show 7900 ∈ [7900] by decide)
                          exact ih290 (k + 1) X40 _ _ _ (by omega) hRX40 q42 (by omega) hw hS (lv_sub hl [1, 2, 3, 4, 5, 0] rfl)
                    exact lp290 (12 - 0 : Int).toNat.succ 0 X33 _ _ _ (by omega) hRX33 Frm.rf (by omega) hw hS (lv_sub hl [1, 2, 3, 4, 5, 0] rfl)
              exact lp228 (150 - 0 : Int).toNat.succ 0 Xa _ _ _ (by omega) hRXa Frm.rf (by omega) hw hS (lv_sub hl [1, 2, 3, 4, 0] rfl)
            · refine lv_aload_n hx hb dX9_save_64 rfl (lv_at hl 0 rfl) ?_
              refine x_geto hx hb hf9 hw (by omega) (by omega) sl_40_30 lk84 dX9_save_65 ?_
              refine lv_bipush (v := jI 30) hx hb dX9_save_68 (by decide) ?_
              refine lv_iload_n hx hb dX9_save_70 rfl (lv_at hl 1 rfl) ?_
              refine x_imul hx hb dX9_save_71 ?_
              refine lv_iload hx hb dX9_save_72 (lv_at hl 4 rfl) ?_
              refine x_iadd hx hb dX9_save_74 ?_
              refine lv_aload_n hx hb dX9_save_75 rfl (lv_at hl 0 rfl) ?_
              refine x_geto hx hb hf9 hw (by omega) (by omega) sl_40_30 lk84 dX9_save_76 ?_
              refine lv_bipush (v := jI 120) hx hb dX9_save_79 (by decide) ?_
              refine lv_iload hx hb dX9_save_81 (lv_at hl 4 rfl) ?_
              refine x_iadd hx hb dX9_save_83 ?_
              refine x_iald hx hb hK.1 hw (by omega) (by omega) ar_71 (len_E ar_71 (by decide)) (by omega) (by omega) (by omega) dX9_save_84 ?_
              have f43 : 0 ≤ Xa 71 0 (120 + r) ∧ Xa 71 0 (120 + r) ≤ 7 := hRXa 71 0 (120 + r)
              refine x_iast hx hb hK.1 hw hS (by omega) (by omega) ar_71 (len_E ar_71 (by decide)) (by omega) (by omega) (by omega) dX9_save_85 (fun H locs hw hS => ?_)
              obtain ⟨X44, hX44⟩ : ∃ Xq, Xq = u3 Xa 71 0 ((30 * sv) + r) (Xa 71 0 (120 + r)) := ⟨_, rfl⟩
              rw [← hX44] at hw
              have hRX44 : Rng X44 := by rw [hX44]; exact rng_set hRXa (show 0 ≤ (Xa 71 0 (120 + r)) ∧ (Xa 71 0 (120 + r)) ≤ 7 by omega)
              have hVX44 : X44 71 0 ((30 * sv) + r) = (Xa 71 0 (120 + r)) := by rw [hX44]; exact u3_s _ _ _ _ _
              have hFX44 : Frm [4001, 7100, 7200, 7300, 7400, 7500, 8000, 7000, 8100, 7700, 7800, 7900, 7600, 4042, 4043, 4044] X X44 := by rw [hX44]; exact Frm.set hFXa (show 7100 ∈ [4001, 7100, 7200, 7300, 7400, 7500, 8000, 7000, 8100, 7700, 7800, 7900, 7600, 4042, 4043, 4044] by decide)
              refine lv_aload_n hx hb dX9_save_86 rfl (lv_at hl 0 rfl) ?_
              refine x_geto hx hb hf9 hw (by omega) (by omega) sl_40_31 lk87 dX9_save_87 ?_
              refine lv_bipush (v := jI 30) hx hb dX9_save_90 (by decide) ?_
              refine lv_iload_n hx hb dX9_save_92 rfl (lv_at hl 1 rfl) ?_
              refine x_imul hx hb dX9_save_93 ?_
              refine lv_iload hx hb dX9_save_94 (lv_at hl 4 rfl) ?_
              refine x_iadd hx hb dX9_save_96 ?_
              refine lv_aload_n hx hb dX9_save_97 rfl (lv_at hl 0 rfl) ?_
              refine x_geto hx hb hf9 hw (by omega) (by omega) sl_40_31 lk87 dX9_save_98 ?_
              refine lv_bipush (v := jI 120) hx hb dX9_save_101 (by decide) ?_
              refine lv_iload hx hb dX9_save_103 (lv_at hl 4 rfl) ?_
              refine x_iadd hx hb dX9_save_105 ?_
              refine x_iald hx hb hK.1 hw (by omega) (by omega) ar_72 (len_E ar_72 (by decide)) (by omega) (by omega) (by omega) dX9_save_106 ?_
              have e45 : ∀ p9 q9 : Int, X44 72 p9 q9 = Xa 72 p9 q9 := fun p9 q9 => by rw [hX44, u3_k _ _ _ _ (by decide)]
              rw [e45 0 (120 + r)]
              have f46 : 0 ≤ Xa 72 0 (120 + r) ∧ Xa 72 0 (120 + r) ≤ 5 := hRXa 72 0 (120 + r)
              refine x_iast hx hb hK.1 hw hS (by omega) (by omega) ar_72 (len_E ar_72 (by decide)) (by omega) (by omega) (by omega) dX9_save_107 (fun H locs hw hS => ?_)
              obtain ⟨X47, hX47⟩ : ∃ Xq, Xq = u3 X44 72 0 ((30 * sv) + r) (Xa 72 0 (120 + r)) := ⟨_, rfl⟩
              rw [← hX47] at hw
              have hRX47 : Rng X47 := by rw [hX47]; exact rng_set hRX44 (show 0 ≤ (Xa 72 0 (120 + r)) ∧ (Xa 72 0 (120 + r)) ≤ 5 by omega)
              have hVX47 : X47 72 0 ((30 * sv) + r) = (Xa 72 0 (120 + r)) := by rw [hX47]; exact u3_s _ _ _ _ _
              have hFX47 : Frm [4001, 7100, 7200, 7300, 7400, 7500, 8000, 7000, 8100, 7700, 7800, 7900, 7600, 4042, 4043, 4044] X X47 := by rw [hX47]; exact Frm.set hFX44 (show 7200 ∈ [4001, 7100, 7200, 7300, 7400, 7500, 8000, 7000, 8100, 7700, 7800, 7900, 7600, 4042, 4043, 4044] by decide)
              refine lv_iconst (v := jI 0) hx hb dX9_save_108 rfl ?_
              refine lv_istore (lv' := [(5, .int (jI 0)), (0, .ref (ad 40 0)), (1, .int (jI sv)), (2, .int (jI x)), (3, .int (jI z12)), (4, .int (jI r))]) hx hb dX9_save_109 hl (by decide) rfl (fun ls hl => ?_)
              have lp111 : ∀ (nn : Nat) (k : Int) (Xb : Nat → Int → Int → Int) (H : Heap) (locs : List Loc) (ls : Array Slot), (5 - k) < (nn : Int) → (Rng Xb) → (Frm [7300, 7400, 7500] X47 Xb) → (0 ≤ k ∧ k ≤ 5) → (Cpy X15 Xb sv (r + 1) r k) → wd D tc base (ad, cnt, Xb, Y, ln) H → va_S (frA base) s.heap H locs → lv_has ls 6 [(0, .ref (ad 40 0)), (1, .int (jI sv)), (2, .int (jI x)), (3, .int (jI z12)), (4, .int (jI r)), (5, .int (jI k))] → W p l e ({ frames := 2, cells := 0, slots := 0, locals := 53 } : Room) s m ([.ref (ad 40 0), .int (jI sv), .int (jI x)] : List Value).toArray below meth c H locs 0 0 (MQ below (QI D tc base (fun z u => ∃ X1 : Nat → Int → Int → Int, u = (ad, cnt, X1, Y, ln) ∧ Rng X1 ∧ Frm [4001, 7100, 7200, 7300, 7400, 7500, 8000, 7000, 8100, 7700, 7800, 7900, 7600, 4042, 4043, 4044] X X1 ∧ MInv X1 ∧ (-2147483648 ≤ z ∧ z ≤ 2147483647))) ([.ref (ad 40 0), .int (jI sv), .int (jI x)] : List Value).toArray s 0 0 (frA base)) (F0 m 111 ls []) := by
                intro nn
                induction nn with
                | zero => intro k Xb H locs ls hm hRXb hGXb hk hCb hw hS hl; exfalso; omega
                | succ nn ih111 =>
                  intro k Xb H locs ls hm hRXb hGXb hk hCb hw hS hl
                  have hFXb : Frm [4001, 7100, 7200, 7300, 7400, 7500, 8000, 7000, 8100, 7700, 7800, 7900, 7600, 4042, 4043, 4044] X Xb := Frm.tr hFX47 (Frm.mono hGXb (by decide))
                  refine lv_iload hx hb dX9_save_111 (lv_at hl 5 rfl) ?_
                  refine lv_iconst (v := jI 5) hx hb dX9_save_113 rfl ?_
                  refine x_icmp_ge (tgt := 219) hx hb (by omega) (by omega) dX9_save_114 (by decide) (fun c48 => ?_) (fun c48 => ?_)
                  · refine lv_iinc (v := jI (r + 1)) (lv' := [(4, .int (jI (r + 1))), (0, .ref (ad 40 0)), (1, .int (jI sv)), (2, .int (jI x)), (3, .int (jI z12)), (5, .int (jI k))]) hx hb dX9_save_219 hl (k := 4) rfl (jI_add _ _) (by decide) rfl (fun ls hl => ?_)
                    refine lv_goto (tgt := 58) hx hb dX9_save_222 (by decide) ?_
                    have q49 : Frm [7100, 7200, 7300, 7400, 7500] X21 Xa := Frm.tr Frm.rf (Frm.mono hGXa (by decide))
                    have q50 : Frm [7100, 7200, 7300, 7400, 7500] X21 X44 := by rw [hX44]; exact Frm.set q49 (show 7100 ∈ [7100, 7200, 7300, 7400, 7500] by decide)
                    have q51 : Frm [7100, 7200, 7300, 7400, 7500] X21 X47 := by rw [hX47]; exact Frm.set q50 (show 7200 ∈ [7100, 7200, 7300, 7400, 7500] by decide)
                    have q52 : Frm [7100, 7200, 7300, 7400, 7500] X21 Xb := Frm.tr q51 (Frm.mono hGXb (by decide))
                    exact ih58 (r + 1) Xb _ _ _ (by omega) hRXb q52 (by omega) (hCb.next (by omega)) hw hS (lv_sub hl [1, 2, 3, 4, 0] rfl)
                  · refine lv_aload_n hx hb dX9_save_117 rfl (lv_at hl 0 rfl) ?_
                    refine x_geto hx hb hf9 hw (by omega) (by omega) sl_40_32 lk90 dX9_save_118 ?_
                    refine lv_iconst (v := jI 5) hx hb dX9_save_121 rfl ?_
                    refine lv_bipush (v := jI 30) hx hb dX9_save_122 (by decide) ?_
                    refine lv_iload_n hx hb dX9_save_124 rfl (lv_at hl 1 rfl) ?_
                    refine x_imul hx hb dX9_save_125 ?_
                    refine lv_iload hx hb dX9_save_126 (lv_at hl 4 rfl) ?_
                    refine x_iadd hx hb dX9_save_128 ?_
                    refine x_imul hx hb dX9_save_129 ?_
                    refine lv_iload hx hb dX9_save_130 (lv_at hl 5 rfl) ?_
                    refine x_iadd hx hb dX9_save_132 ?_
                    refine lv_aload_n hx hb dX9_save_133 rfl (lv_at hl 0 rfl) ?_
                    refine x_geto hx hb hf9 hw (by omega) (by omega) sl_40_32 lk90 dX9_save_134 ?_
                    refine lv_iconst (v := jI 5) hx hb dX9_save_137 rfl ?_
                    refine lv_bipush (v := jI 120) hx hb dX9_save_138 (by decide) ?_
                    refine lv_iload hx hb dX9_save_140 (lv_at hl 4 rfl) ?_
                    refine x_iadd hx hb dX9_save_142 ?_
                    refine x_imul hx hb dX9_save_143 ?_
                    refine lv_iload hx hb dX9_save_144 (lv_at hl 5 rfl) ?_
                    refine x_iadd hx hb dX9_save_146 ?_
                    refine x_iald hx hb hK.1 hw (by omega) (by omega) ar_73 (len_E ar_73 (by decide)) (by omega) (by omega) (by omega) dX9_save_147 ?_
                    have f53 : 0 ≤ Xb 73 0 ((5 * (120 + r)) + k) ∧ Xb 73 0 ((5 * (120 + r)) + k) ≤ 19 := hRXb 73 0 ((5 * (120 + r)) + k)
                    refine x_iast hx hb hK.1 hw hS (by omega) (by omega) ar_73 (len_E ar_73 (by decide)) (by omega) (by omega) (by omega) dX9_save_148 (fun H locs hw hS => ?_)
                    obtain ⟨X54, hX54⟩ : ∃ Xq, Xq = u3 Xb 73 0 ((5 * ((30 * sv) + r)) + k) (Xb 73 0 ((5 * (120 + r)) + k)) := ⟨_, rfl⟩
                    rw [← hX54] at hw
                    have hRX54 : Rng X54 := by rw [hX54]; exact rng_set hRXb (show 0 ≤ (Xb 73 0 ((5 * (120 + r)) + k)) ∧ (Xb 73 0 ((5 * (120 + r)) + k)) ≤ 19 by omega)
                    have hVX54 : X54 73 0 ((5 * ((30 * sv) + r)) + k) = (Xb 73 0 ((5 * (120 + r)) + k)) := by rw [hX54]; exact u3_s _ _ _ _ _
                    have hFX54 : Frm [4001, 7100, 7200, 7300, 7400, 7500, 8000, 7000, 8100, 7700, 7800, 7900, 7600, 4042, 4043, 4044] X X54 := by rw [hX54]; exact Frm.set hFXb (show 7300 ∈ [4001, 7100, 7200, 7300, 7400, 7500, 8000, 7000, 8100, 7700, 7800, 7900, 7600, 4042, 4043, 4044] by decide)
                    refine lv_aload_n hx hb dX9_save_149 rfl (lv_at hl 0 rfl) ?_
                    refine x_geto hx hb hf9 hw (by omega) (by omega) sl_40_33 lk93 dX9_save_150 ?_
                    refine lv_iconst (v := jI 5) hx hb dX9_save_153 rfl ?_
                    refine lv_bipush (v := jI 30) hx hb dX9_save_154 (by decide) ?_
                    refine lv_iload_n hx hb dX9_save_156 rfl (lv_at hl 1 rfl) ?_
                    refine x_imul hx hb dX9_save_157 ?_
                    refine lv_iload hx hb dX9_save_158 (lv_at hl 4 rfl) ?_
                    refine x_iadd hx hb dX9_save_160 ?_
                    refine x_imul hx hb dX9_save_161 ?_
                    refine lv_iload hx hb dX9_save_162 (lv_at hl 5 rfl) ?_
                    refine x_iadd hx hb dX9_save_164 ?_
                    refine lv_aload_n hx hb dX9_save_165 rfl (lv_at hl 0 rfl) ?_
                    refine x_geto hx hb hf9 hw (by omega) (by omega) sl_40_33 lk93 dX9_save_166 ?_
                    refine lv_iconst (v := jI 5) hx hb dX9_save_169 rfl ?_
                    refine lv_bipush (v := jI 120) hx hb dX9_save_170 (by decide) ?_
                    refine lv_iload hx hb dX9_save_172 (lv_at hl 4 rfl) ?_
                    refine x_iadd hx hb dX9_save_174 ?_
                    refine x_imul hx hb dX9_save_175 ?_
                    refine lv_iload hx hb dX9_save_176 (lv_at hl 5 rfl) ?_
                    refine x_iadd hx hb dX9_save_178 ?_
                    refine x_iald hx hb hK.1 hw (by omega) (by omega) ar_74 (len_E ar_74 (by decide)) (by omega) (by omega) (by omega) dX9_save_179 ?_
                    have e55 : ∀ p9 q9 : Int, X54 74 p9 q9 = Xb 74 p9 q9 := fun p9 q9 => by rw [hX54, u3_k _ _ _ _ (by decide)]
                    rw [e55 0 ((5 * (120 + r)) + k)]
                    have f56 : 0 ≤ Xb 74 0 ((5 * (120 + r)) + k) ∧ Xb 74 0 ((5 * (120 + r)) + k) ≤ 5 := hRXb 74 0 ((5 * (120 + r)) + k)
                    refine x_iast hx hb hK.1 hw hS (by omega) (by omega) ar_74 (len_E ar_74 (by decide)) (by omega) (by omega) (by omega) dX9_save_180 (fun H locs hw hS => ?_)
                    obtain ⟨X57, hX57⟩ : ∃ Xq, Xq = u3 X54 74 0 ((5 * ((30 * sv) + r)) + k) (Xb 74 0 ((5 * (120 + r)) + k)) := ⟨_, rfl⟩
                    rw [← hX57] at hw
                    have hRX57 : Rng X57 := by rw [hX57]; exact rng_set hRX54 (show 0 ≤ (Xb 74 0 ((5 * (120 + r)) + k)) ∧ (Xb 74 0 ((5 * (120 + r)) + k)) ≤ 5 by omega)
                    have hVX57 : X57 74 0 ((5 * ((30 * sv) + r)) + k) = (Xb 74 0 ((5 * (120 + r)) + k)) := by rw [hX57]; exact u3_s _ _ _ _ _
                    have hFX57 : Frm [4001, 7100, 7200, 7300, 7400, 7500, 8000, 7000, 8100, 7700, 7800, 7900, 7600, 4042, 4043, 4044] X X57 := by rw [hX57]; exact Frm.set hFX54 (show 7400 ∈ [4001, 7100, 7200, 7300, 7400, 7500, 8000, 7000, 8100, 7700, 7800, 7900, 7600, 4042, 4043, 4044] by decide)
                    refine lv_aload_n hx hb dX9_save_181 rfl (lv_at hl 0 rfl) ?_
                    refine x_geto hx hb hf9 hw (by omega) (by omega) sl_40_34 lk96 dX9_save_182 ?_
                    refine lv_iconst (v := jI 5) hx hb dX9_save_185 rfl ?_
                    refine lv_bipush (v := jI 30) hx hb dX9_save_186 (by decide) ?_
                    refine lv_iload_n hx hb dX9_save_188 rfl (lv_at hl 1 rfl) ?_
                    refine x_imul hx hb dX9_save_189 ?_
                    refine lv_iload hx hb dX9_save_190 (lv_at hl 4 rfl) ?_
                    refine x_iadd hx hb dX9_save_192 ?_
                    refine x_imul hx hb dX9_save_193 ?_
                    refine lv_iload hx hb dX9_save_194 (lv_at hl 5 rfl) ?_
                    refine x_iadd hx hb dX9_save_196 ?_
                    refine lv_aload_n hx hb dX9_save_197 rfl (lv_at hl 0 rfl) ?_
                    refine x_geto hx hb hf9 hw (by omega) (by omega) sl_40_34 lk96 dX9_save_198 ?_
                    refine lv_iconst (v := jI 5) hx hb dX9_save_201 rfl ?_
                    refine lv_bipush (v := jI 120) hx hb dX9_save_202 (by decide) ?_
                    refine lv_iload hx hb dX9_save_204 (lv_at hl 4 rfl) ?_
                    refine x_iadd hx hb dX9_save_206 ?_
                    refine x_imul hx hb dX9_save_207 ?_
                    refine lv_iload hx hb dX9_save_208 (lv_at hl 5 rfl) ?_
                    refine x_iadd hx hb dX9_save_210 ?_
                    refine x_lald hx hb hK.1 hw (by omega) (by omega) ar_75 (len_E ar_75 (by decide)) (by omega) (by omega) (by omega) dX9_save_211 ?_
                    have e58 : ∀ p9 q9 : Int, X57 75 p9 q9 = Xb 75 p9 q9 := fun p9 q9 => by rw [hX57, u3_k _ _ _ _ (by decide), hX54, u3_k _ _ _ _ (by decide)]
                    rw [e58 0 ((5 * (120 + r)) + k)]
                    have f59 : (-9223372036854775808) ≤ Xb 75 0 ((5 * (120 + r)) + k) ∧ Xb 75 0 ((5 * (120 + r)) + k) ≤ 9223372036854775807 := hRXb 75 0 ((5 * (120 + r)) + k)
                    refine x_last hx hb hK.1 hw hS (by omega) (by omega) ar_75 (len_E ar_75 (by decide)) (by omega) (by omega) (by omega) dX9_save_212 (fun H locs hw hS => ?_)
                    obtain ⟨X60, hX60⟩ : ∃ Xq, Xq = u3 X57 75 0 ((5 * ((30 * sv) + r)) + k) (Xb 75 0 ((5 * (120 + r)) + k)) := ⟨_, rfl⟩
                    rw [← hX60] at hw
                    have hRX60 : Rng X60 := by rw [hX60]; exact rng_set hRX57 (show (-9223372036854775808) ≤ (Xb 75 0 ((5 * (120 + r)) + k)) ∧ (Xb 75 0 ((5 * (120 + r)) + k)) ≤ 9223372036854775807 by omega)
                    have hVX60 : X60 75 0 ((5 * ((30 * sv) + r)) + k) = (Xb 75 0 ((5 * (120 + r)) + k)) := by rw [hX60]; exact u3_s _ _ _ _ _
                    have hFX60 : Frm [4001, 7100, 7200, 7300, 7400, 7500, 8000, 7000, 8100, 7700, 7800, 7900, 7600, 4042, 4043, 4044] X X60 := by rw [hX60]; exact Frm.set hFX57 (show 7500 ∈ [4001, 7100, 7200, 7300, 7400, 7500, 8000, 7000, 8100, 7700, 7800, 7900, 7600, 4042, 4043, 4044] by decide)
                    refine lv_iinc (v := jI (k + 1)) (lv' := [(5, .int (jI (k + 1))), (0, .ref (ad 40 0)), (1, .int (jI sv)), (2, .int (jI x)), (3, .int (jI z12)), (4, .int (jI r))]) hx hb dX9_save_213 hl (k := 5) rfl (jI_add _ _) (by decide) rfl (fun ls hl => ?_)
                    refine lv_goto (tgt := 111) hx hb dX9_save_216 (by decide) ?_
                    have q61 : Frm [7300, 7400, 7500] X47 Xb := Frm.tr Frm.rf (Frm.mono hGXb (by decide))
                    have q62 : Frm [7300, 7400, 7500] X47 X54 := by rw [hX54]; exact Frm.set q61 (show 7300 ∈ [7300, 7400, 7500] by decide)
                    have q63 : Frm [7300, 7400, 7500] X47 X57 := by rw [hX57]; exact Frm.set q62 (show 7400 ∈ [7300, 7400, 7500] by decide)
                    have q64 : Frm [7300, 7400, 7500] X47 X60 := by rw [hX60]; exact Frm.set q63 (show 7500 ∈ [7300, 7400, 7500] by decide)
                    exact ih111 (k + 1) X60 _ _ _ (by omega) hRX60 q64 (by omega) (hCb.s5 (by omega) (by omega) (by omega) hX54 hX57 hX60) hw hS (lv_sub hl [1, 2, 3, 4, 5, 0] rfl)
              exact lp111 (5 - 0 : Int).toNat.succ 0 X47 _ _ _ (by omega) hRX47 Frm.rf (by omega) (hCa.s7 (by omega) (by omega) hX44 hX47) hw hS (lv_sub hl [1, 2, 3, 4, 5, 0] rfl)
        exact lp58 (30 - 0 : Int).toNat.succ 0 X21 _ _ _ (by omega) hRX21 Frm.rf (by omega) (Cpy.in_ (fun j => ⟨(by rw [hX21, u3_k _ _ _ _ (by decide), hX18, u3_k _ _ _ _ (by decide)]), (by rw [hX21, u3_k _ _ _ _ (by decide), hX18, u3_k _ _ _ _ (by decide)]), (by rw [hX21, u3_k _ _ _ _ (by decide), hX18, u3_k _ _ _ _ (by decide)]), (by rw [hX21, u3_k _ _ _ _ (by decide), hX18, u3_k _ _ _ _ (by decide)])⟩)) hw hS (lv_sub hl [2, 3, 4, 1, 0] rfl)
      · refine lv_iload_n hx hb dX9_save_34 rfl (lv_at hl 0 rfl) ?_
        refine ret_i (mc := 0) (ms := 0) hx hb hr hlocks hw hS (by omega) (by omega) dX9_save_35 ?_
        exact ⟨X15, rfl, hRX15, hFX15, hMIX15, by omega⟩
    · subst ez5
      refine x_if_neF (tgt := 23) hx hb (by omega) (by decide) dX9_save_18 (by decide) ?_
      refine lv_iconst (v := jI (-1)) hx hb dX9_save_21 rfl ?_
      refine ret_i (mc := 0) (ms := 0) hx hb hr hlocks hw hS (by omega) (by omega) dX9_save_22 ?_
      have q66 : Frm [4001] X X1 := by rw [hX1]; exact Frm.set Frm.rf (show 4001 ∈ [4001] by decide)
      have hMq65 : MInv X1 := minv_frm hMI q66 (by decide)
      exact ⟨X1, rfl, hRX1, hFX1, hMq65, by omega⟩
  · subst ez2
    refine x_if_eqT (tgt := 21) hx hb (by omega) (by decide) dX9_save_10 (by decide) ?_
    refine lv_iconst (v := jI (-1)) hx hb dX9_save_21 rfl ?_
    refine ret_i (mc := 0) (ms := 0) hx hb hr hlocks hw hS (by omega) (by omega) dX9_save_22 ?_
    have q68 : Frm [4001] X X1 := by rw [hX1]; exact Frm.set Frm.rf (show 4001 ∈ [4001] by decide)
    have hMq67 : MInv X1 := minv_frm hMI q68 (by decide)
    exact ⟨X1, rfl, hRX1, hFX1, hMq67, by omega⟩

set_option maxHeartbeats 4000000 in
set_option maxRecDepth 100000 in
theorem c_X9_undo (l : Launch) (D : va_G) (tc : Nat → ClassId) (base : Nat) (ad : Nat → Int → Nat) (cnt : Nat → Int) (X : Nat → Int → Int → Int) (Y : Nat → Int → Int → Option Int) (ln : Int → Int) (hR : Rng X) (hFx : Fx cnt) (hMI : MInv X)  : KI l D tc base yX9_undo wsX9_undo ({ frames := 0, cells := 0, slots := 0, locals := 0 } : Room) [.ref (ad 40 0)] (ad, cnt, X, Y, ln) 0 0 (fun z u => ∃ X1 : Nat → Int → Int → Int, u = (ad, cnt, X1, Y, ln) ∧ Rng X1 ∧ Frm [4001, 4021, 4023, 5600, 5900] X X1 ∧ MInv X1 ∧ (-2147483648 ≤ z ∧ z ≤ 2147483647) ∧ ((X 40 0 20 = 0 ∧ X1 40 0 20 = 0) ∨ (1 ≤ X 40 0 20 ∧ X1 40 0 20 = X 40 0 20 - 1))) := by
  refine K_of (cc := cX9_undo) (maxL := 2) (ret := (some .int)) (by decide) rfl (Nat.le_of_ble_eq_true rfl) ?_
  intro p e s m below meth c ls hx hb hr hml hown hts hlocks hl hK hw hS
  have hown : s.vm.findClass RX9 = some m.cls := hown
  have hi9 : ∀ w ∈ wsX90, w ∈ wsX9_undo := fun w h => List.mem_cons_of_mem _ (List.mem_append_right _ h)
  have hf9 : fctx s m _ RX9 wsX9_undo D tc RX9 TX9 51 9 := ⟨hts, hi9, hown, hK.1, rfl⟩
  have lk48 := hts (.fieldLink RX9 48 "StateRecordsModel" "xVal" "[J") (by decide +kernel)
  have lk57 := hts (.fieldLink RX9 57 "StateRecordsModel" "rItems" "[J") (by decide +kernel)
  have lk63 := hts (.fieldLink RX9 63 "StateRecordsModel" "markAt" "[I") (by decide +kernel)
  have lk66 := hts (.fieldLink RX9 66 "StateRecordsModel" "noteThing" "[I") (by decide +kernel)
  have lk69 := hts (.fieldLink RX9 69 "StateRecordsModel" "noteField" "[I") (by decide +kernel)
  have lk72 := hts (.fieldLink RX9 72 "StateRecordsModel" "noteRow" "[I") (by decide +kernel)
  have lk75 := hts (.fieldLink RX9 75 "StateRecordsModel" "noteItem" "[I") (by decide +kernel)
  have lk78 := hts (.fieldLink RX9 78 "StateRecordsModel" "noteWas" "[J") (by decide +kernel)
  have lk145 := hts (.fieldLink RX9 145 "StateRecordsModel" "code" "I") (by decide +kernel)
  have lk165 := hts (.fieldLink RX9 165 "StateRecordsModel" "marks" "I") (by decide +kernel)
  have lk173 := hts (.fieldLink RX9 173 "StateRecordsModel" "notes" "I") (by decide +kernel)
  have hc40 : cnt 40 = 1 := hFx.at 40 1 (by decide)
  have hc56 : cnt 56 = 1 := hFx.at 56 1 (by decide)
  have hc59 : cnt 59 = 1 := hFx.at 59 1 (by decide)
  have hc62 : cnt 62 = 1 := hFx.at 62 1 (by decide)
  have hc64 : cnt 64 = 1 := hFx.at 64 1 (by decide)
  have hc65 : cnt 65 = 1 := hFx.at 65 1 (by decide)
  have hc66 : cnt 66 = 1 := hFx.at 66 1 (by decide)
  have hc67 : cnt 67 = 1 := hFx.at 67 1 (by decide)
  have hc68 : cnt 68 = 1 := hFx.at 68 1 (by decide)
  have hl : lv_has ls 2 [(0, .ref (ad 40 0))] := hl
  have fstypes : 0 ≤ X 40 0 2 ∧ X 40 0 2 ≤ 8 := hR 40 0 2
  have fsthings : 0 ≤ X 40 0 13 ∧ X 40 0 13 ≤ 30 := hR 40 0 13
  have fsmarks : 0 ≤ X 40 0 20 ∧ X 40 0 20 ≤ 4 := hR 40 0 20
  have fsnotes : 0 ≤ X 40 0 22 ∧ X 40 0 22 ≤ 80 := hR 40 0 22
  refine lv_aload_n hx hb dX9_undo_0 rfl (lv_at hl 0 rfl) ?_
  refine lv_iconst (v := jI 0) hx hb dX9_undo_1 rfl ?_
  refine x_puti (jz := 0) hx hb hf9 ⟨tyX9_ok, nmX9⟩ hw hS (by omega) (by omega) sl_40_0 rfl lk145 rfl (tyX9_ok 0 (by decide)) rfl rfl dX9_undo_2 (fun H locs hw hS => ?_)
  obtain ⟨X1, hX1⟩ : ∃ Xq, Xq = u3 X 40 0 0 0 := ⟨_, rfl⟩
  rw [← hX1] at hw
  have hRX1 : Rng X1 := by rw [hX1]; exact rng_set hR (show (-2147483648) ≤ 0 ∧ 0 ≤ 2147483647 by omega)
  have hVX1 : X1 40 0 0 = 0 := by rw [hX1]; exact u3_s _ _ _ _ _
  have hFX1 : Frm [4001, 4021, 4023, 5600, 5900] X X1 := by rw [hX1]; exact Frm.set Frm.rf (show 4001 ∈ [4001, 4021, 4023, 5600, 5900] by decide)
  refine lv_aload_n hx hb dX9_undo_5 rfl (lv_at hl 0 rfl) ?_
  refine x_geti (jz := 20) hx hb hf9 hw (by omega) (by omega) sl_40_20 rfl lk165 dX9_undo_6 ?_
  have e2 : X1 40 0 20 = X 40 0 20 := by rw [hX1, u3_j _ _ _ _ (by decide)]
  rw [e2]
  have f3 : 0 ≤ X 40 0 20 ∧ X 40 0 20 ≤ 4 := hR 40 0 20
  refine x_if_ne (tgt := 15) hx hb (by omega) dX9_undo_9 (by decide) (fun c4 => ?_) (fun c4 => ?_)
  · refine lv_aload_n hx hb dX9_undo_15 rfl (lv_at hl 0 rfl) ?_
    refine lv_dup hx hb dX9_undo_16 rfl ?_
    refine x_geti (jz := 20) hx hb hf9 hw (by omega) (by omega) sl_40_20 rfl lk165 dX9_undo_17 ?_
    have e5 : X1 40 0 20 = X 40 0 20 := by rw [hX1, u3_j _ _ _ _ (by decide)]
    rw [e5]
    have f6 : 0 ≤ X 40 0 20 ∧ X 40 0 20 ≤ 4 := hR 40 0 20
    refine lv_iconst (v := jI 1) hx hb dX9_undo_20 rfl ?_
    refine x_isub hx hb dX9_undo_21 ?_
    refine x_puti (jz := 20) hx hb hf9 ⟨tyX9_ok, nmX9⟩ hw hS (by omega) (by omega) sl_40_20 rfl lk165 rfl (tyX9_ok 20 (by decide)) rfl rfl dX9_undo_22 (fun H locs hw hS => ?_)
    obtain ⟨X7, hX7⟩ : ∃ Xq, Xq = u3 X1 40 0 20 ((X 40 0 20) - 1) := ⟨_, rfl⟩
    rw [← hX7] at hw
    have hRX7 : Rng X7 := by rw [hX7]; exact rng_set hRX1 (show 0 ≤ ((X 40 0 20) - 1) ∧ ((X 40 0 20) - 1) ≤ 4 by omega)
    have hVX7 : X7 40 0 20 = ((X 40 0 20) - 1) := by rw [hX7]; exact u3_s _ _ _ _ _
    have hFX7 : Frm [4001, 4021, 4023, 5600, 5900] X X7 := by rw [hX7]; exact Frm.set hFX1 (show 4021 ∈ [4001, 4021, 4023, 5600, 5900] by decide)
    refine lv_aload_n hx hb dX9_undo_25 rfl (lv_at hl 0 rfl) ?_
    refine x_geti (jz := 22) hx hb hf9 hw (by omega) (by omega) sl_40_22 rfl lk173 dX9_undo_26 ?_
    have e8 : X7 40 0 22 = X 40 0 22 := by rw [hX7, u3_j _ _ _ _ (by decide), hX1, u3_j _ _ _ _ (by decide)]
    rw [e8]
    have f9 : 0 ≤ X 40 0 22 ∧ X 40 0 22 ≤ 80 := hR 40 0 22
    refine lv_aload_n hx hb dX9_undo_29 rfl (lv_at hl 0 rfl) ?_
    refine x_geto hx hb hf9 hw (by omega) (by omega) sl_40_21 lk63 dX9_undo_30 ?_
    refine lv_aload_n hx hb dX9_undo_33 rfl (lv_at hl 0 rfl) ?_
    refine x_geti (jz := 20) hx hb hf9 hw (by omega) (by omega) sl_40_20 rfl lk165 dX9_undo_34 ?_
    rw [hVX7]
    refine x_iald hx hb hK.1 hw (by omega) (by omega) ar_62 (len_E ar_62 (by decide)) (by omega) (by omega) (by omega) dX9_undo_37 ?_
    have e10 : ∀ p9 q9 : Int, X7 62 p9 q9 = X 62 p9 q9 := fun p9 q9 => by rw [hX7, u3_k _ _ _ _ (by decide), hX1, u3_k _ _ _ _ (by decide)]
    rw [e10 0 ((X 40 0 20) - 1)]
    have f11 : 0 ≤ X 62 0 ((X 40 0 20) - 1) ∧ X 62 0 ((X 40 0 20) - 1) ≤ 80 := hR 62 0 ((X 40 0 20) - 1)
    refine x_isub hx hb dX9_undo_38 ?_
    refine lv_istore_n (lv' := [(1, .int (jI ((X 40 0 22) - (X 62 0 ((X 40 0 20) - 1))))), (0, .ref (ad 40 0))]) hx hb dX9_undo_39 rfl hl (by decide) rfl (fun ls hl => ?_)
    have lp40 : ∀ (nn : Nat)  (Xa : Nat → Int → Int → Int) (H : Heap) (locs : List Loc) (ls : Array Slot), (Xa 40 0 22) < (nn : Int) → (Rng Xa) → (Frm [4023, 5600, 5900] X7 Xa) → (MInv5 Xa) → wd D tc base (ad, cnt, Xa, Y, ln) H → va_S (frA base) s.heap H locs → lv_has ls 2 [(0, .ref (ad 40 0)), (1, .int (jI ((X 40 0 22) - (X 62 0 ((X 40 0 20) - 1)))))] → W p l e ({ frames := 0, cells := 0, slots := 0, locals := 0 } : Room) s m ([.ref (ad 40 0)] : List Value).toArray below meth c H locs 0 0 (MQ below (QI D tc base (fun z u => ∃ X1 : Nat → Int → Int → Int, u = (ad, cnt, X1, Y, ln) ∧ Rng X1 ∧ Frm [4001, 4021, 4023, 5600, 5900] X X1 ∧ MInv X1 ∧ (-2147483648 ≤ z ∧ z ≤ 2147483647) ∧ ((X 40 0 20 = 0 ∧ X1 40 0 20 = 0) ∨ (1 ≤ X 40 0 20 ∧ X1 40 0 20 = X 40 0 20 - 1)))) ([.ref (ad 40 0)] : List Value).toArray s 0 0 (frA base)) (F0 m 40 ls []) := by
      intro nn
      induction nn with
      | zero => intro  Xa H locs ls hm hRXa hGXa hM5 hw hS hl; have h9 : 0 ≤ Xa 40 0 22 ∧ Xa 40 0 22 ≤ 80 := hRXa 40 0 22; exfalso; omega
      | succ nn ih40 =>
        intro  Xa H locs ls hm hRXa hGXa hM5 hw hS hl
        have hFXa : Frm [4001, 4021, 4023, 5600, 5900] X Xa := Frm.tr hFX7 (Frm.mono hGXa (by decide))
        have e12 : ∀ j : Int, Xa 67 0 j = X 67 0 j := fun j => by rw [hGXa 67 0 j (show 6700 ∉ [4023, 5600, 5900] by decide), hX7, u3_k _ _ _ _ (by decide), hX1, u3_k _ _ _ _ (by decide)]
        have e13 : ∀ j : Int, Xa 64 0 j = X 64 0 j := fun j => by rw [hGXa 64 0 j (show 6400 ∉ [4023, 5600, 5900] by decide), hX7, u3_k _ _ _ _ (by decide), hX1, u3_k _ _ _ _ (by decide)]
        have e14 : ∀ j : Int, Xa 65 0 j = X 65 0 j := fun j => by rw [hGXa 65 0 j (show 6500 ∉ [4023, 5600, 5900] by decide), hX7, u3_k _ _ _ _ (by decide), hX1, u3_k _ _ _ _ (by decide)]
        have e15 : ∀ j : Int, Xa 66 0 j = X 66 0 j := fun j => by rw [hGXa 66 0 j (show 6600 ∉ [4023, 5600, 5900] by decide), hX7, u3_k _ _ _ _ (by decide), hX1, u3_k _ _ _ _ (by decide)]
        have e16 : ∀ j : Int, Xa 68 0 j = X 68 0 j := fun j => by rw [hGXa 68 0 j (show 6800 ∉ [4023, 5600, 5900] by decide), hX7, u3_k _ _ _ _ (by decide), hX1, u3_k _ _ _ _ (by decide)]
        have e17 : ∀ j : Int, Xa 44 0 j = X 44 0 j := fun j => by rw [hGXa 44 0 j (show 4400 ∉ [4023, 5600, 5900] by decide), hX7, u3_k _ _ _ _ (by decide), hX1, u3_k _ _ _ _ (by decide)]
        have e18 : ∀ j : Int, Xa 55 0 j = X 55 0 j := fun j => by rw [hGXa 55 0 j (show 5500 ∉ [4023, 5600, 5900] by decide), hX7, u3_k _ _ _ _ (by decide), hX1, u3_k _ _ _ _ (by decide)]
        have e19 : ∀ j : Int, Xa 46 0 j = X 46 0 j := fun j => by rw [hGXa 46 0 j (show 4600 ∉ [4023, 5600, 5900] by decide), hX7, u3_k _ _ _ _ (by decide), hX1, u3_k _ _ _ _ (by decide)]
        have e20 : Xa 40 0 13 = X 40 0 13 := by rw [hGXa 40 0 13 (show 4014 ∉ [4023, 5600, 5900] by decide), hX7, u3_j _ _ _ _ (by decide), hX1, u3_j _ _ _ _ (by decide)]
        have hD5 := hM5.2.2.2.1
        unfold mD at hD5
        simp only [e12, e13, e14, e15, e16, e17, e18, e19, e20] at hD5
        have hN5 : 0 ≤ Xa 40 0 22 ∧ Xa 40 0 22 ≤ 80 := hRXa 40 0 22
        refine lv_aload_n hx hb dX9_undo_40 rfl (lv_at hl 0 rfl) ?_
        refine x_geti (jz := 22) hx hb hf9 hw (by omega) (by omega) sl_40_22 rfl lk173 dX9_undo_41 ?_
        have f21 : 0 ≤ Xa 40 0 22 ∧ Xa 40 0 22 ≤ 80 := hRXa 40 0 22
        refine lv_aload_n hx hb dX9_undo_44 rfl (lv_at hl 0 rfl) ?_
        refine x_geto hx hb hf9 hw (by omega) (by omega) sl_40_21 lk63 dX9_undo_45 ?_
        refine lv_aload_n hx hb dX9_undo_48 rfl (lv_at hl 0 rfl) ?_
        refine x_geti (jz := 20) hx hb hf9 hw (by omega) (by omega) sl_40_20 rfl lk165 dX9_undo_49 ?_
        have e22 : Xa 40 0 20 = X7 40 0 20 := by rw [hGXa 40 0 20 (show 4021 ∉ [4023, 5600, 5900] by decide)]
        rw [e22]
        rw [hVX7]
        refine x_iald hx hb hK.1 hw (by omega) (by omega) ar_62 (len_E ar_62 (by decide)) (by omega) (by omega) (by omega) dX9_undo_52 ?_
        have e23 : ∀ p9 q9 : Int, Xa 62 p9 q9 = X 62 p9 q9 := fun p9 q9 => by rw [hGXa 62 p9 q9 (show 6200 ∉ [4023, 5600, 5900] by decide), hX7, u3_k _ _ _ _ (by decide), hX1, u3_k _ _ _ _ (by decide)]
        rw [e23 0 ((X 40 0 20) - 1)]
        have f24 : 0 ≤ X 62 0 ((X 40 0 20) - 1) ∧ X 62 0 ((X 40 0 20) - 1) ≤ 80 := hR 62 0 ((X 40 0 20) - 1)
        refine x_icmp_le (tgt := 155) hx hb (by omega) (by omega) dX9_undo_53 (by decide) (fun c25 => ?_) (fun c25 => ?_)
        · refine lv_iload_n hx hb dX9_undo_155 rfl (lv_at hl 1 rfl) ?_
          refine ret_i (mc := 0) (ms := 0) hx hb hr hlocks hw hS (by omega) (by omega) dX9_undo_156 ?_
          have e26 : Xa 40 0 20 = ((X 40 0 20) - 1) := (by rw [hGXa 40 0 20 (show 4021 ∉ [4023, 5600, 5900] by decide)]; exact hVX7)
          exact ⟨Xa, rfl, hRXa, hFXa, minv_undo_end (m := X 40 0 20 - 1) hMI hM5 (by rw [hGXa 40 0 20 (show 4021 ∉ [4023, 5600, 5900] by decide)]; exact hVX7) (by omega) (by omega) (fun j => (by rw [hGXa 62 0 j (show 6200 ∉ [4023, 5600, 5900] by decide), hX7, u3_k _ _ _ _ (by decide), hX1, u3_k _ _ _ _ (by decide)])) (by omega) (by omega), by omega, by omega⟩
        · refine lv_aload_n hx hb dX9_undo_56 rfl (lv_at hl 0 rfl) ?_
          refine lv_dup hx hb dX9_undo_57 rfl ?_
          refine x_geti (jz := 22) hx hb hf9 hw (by omega) (by omega) sl_40_22 rfl lk173 dX9_undo_58 ?_
          have f27 : 0 ≤ Xa 40 0 22 ∧ Xa 40 0 22 ≤ 80 := hRXa 40 0 22
          refine lv_iconst (v := jI 1) hx hb dX9_undo_61 rfl ?_
          refine x_isub hx hb dX9_undo_62 ?_
          refine x_puti (jz := 22) hx hb hf9 ⟨tyX9_ok, nmX9⟩ hw hS (by omega) (by omega) sl_40_22 rfl lk173 rfl (tyX9_ok 22 (by decide)) rfl rfl dX9_undo_63 (fun H locs hw hS => ?_)
          obtain ⟨X28, hX28⟩ : ∃ Xq, Xq = u3 Xa 40 0 22 ((Xa 40 0 22) - 1) := ⟨_, rfl⟩
          rw [← hX28] at hw
          have hRX28 : Rng X28 := by rw [hX28]; exact rng_set hRXa (show 0 ≤ ((Xa 40 0 22) - 1) ∧ ((Xa 40 0 22) - 1) ≤ 80 by omega)
          have hVX28 : X28 40 0 22 = ((Xa 40 0 22) - 1) := by rw [hX28]; exact u3_s _ _ _ _ _
          have hFX28 : Frm [4001, 4021, 4023, 5600, 5900] X X28 := by rw [hX28]; exact Frm.set hFXa (show 4023 ∈ [4001, 4021, 4023, 5600, 5900] by decide)
          have hD6 := hD5 (Xa 40 0 22 - 1) (by omega) (by omega)
          refine lv_aload_n hx hb dX9_undo_66 rfl (lv_at hl 0 rfl) ?_
          refine x_geto hx hb hf9 hw (by omega) (by omega) sl_40_26 lk75 dX9_undo_67 ?_
          refine lv_aload_n hx hb dX9_undo_70 rfl (lv_at hl 0 rfl) ?_
          refine x_geti (jz := 22) hx hb hf9 hw (by omega) (by omega) sl_40_22 rfl lk173 dX9_undo_71 ?_
          rw [hVX28]
          refine x_iald hx hb hK.1 hw (by omega) (by omega) ar_67 (len_E ar_67 (by decide)) (by omega) (by omega) (by omega) dX9_undo_74 ?_
          have e29 : ∀ p9 q9 : Int, X28 67 p9 q9 = X 67 p9 q9 := fun p9 q9 => by rw [hX28, u3_k _ _ _ _ (by decide), hGXa 67 p9 q9 (show 6700 ∉ [4023, 5600, 5900] by decide), hX7, u3_k _ _ _ _ (by decide), hX1, u3_k _ _ _ _ (by decide)]
          rw [e29 0 ((Xa 40 0 22) - 1)]
          have f30 : (-1) ≤ X 67 0 ((Xa 40 0 22) - 1) ∧ X 67 0 ((Xa 40 0 22) - 1) ≤ 11 := hR 67 0 ((Xa 40 0 22) - 1)
          refine x_if_ge (tgt := 116) hx hb (by omega) dX9_undo_75 (by decide) (fun c31 => ?_) (fun c31 => ?_)
          · refine lv_aload_n hx hb dX9_undo_116 rfl (lv_at hl 0 rfl) ?_
            refine x_geto hx hb hf9 hw (by omega) (by omega) sl_40_18 lk57 dX9_undo_117 ?_
            refine lv_bipush (v := jI 12) hx hb dX9_undo_120 (by decide) ?_
            refine lv_aload_n hx hb dX9_undo_122 rfl (lv_at hl 0 rfl) ?_
            refine x_geto hx hb hf9 hw (by omega) (by omega) sl_40_25 lk72 dX9_undo_123 ?_
            refine lv_aload_n hx hb dX9_undo_126 rfl (lv_at hl 0 rfl) ?_
            refine x_geti (jz := 22) hx hb hf9 hw (by omega) (by omega) sl_40_22 rfl lk173 dX9_undo_127 ?_
            rw [hVX28]
            refine x_iald hx hb hK.1 hw (by omega) (by omega) ar_66 (len_E ar_66 (by decide)) (by omega) (by omega) (by omega) dX9_undo_130 ?_
            have e32 : ∀ p9 q9 : Int, X28 66 p9 q9 = X 66 p9 q9 := fun p9 q9 => by rw [hX28, u3_k _ _ _ _ (by decide), hGXa 66 p9 q9 (show 6600 ∉ [4023, 5600, 5900] by decide), hX7, u3_k _ _ _ _ (by decide), hX1, u3_k _ _ _ _ (by decide)]
            rw [e32 0 ((Xa 40 0 22) - 1)]
            have f33 : (-1) ≤ X 66 0 ((Xa 40 0 22) - 1) ∧ X 66 0 ((Xa 40 0 22) - 1) ≤ 399 := hR 66 0 ((Xa 40 0 22) - 1)
            refine x_imul hx hb dX9_undo_131 ?_
            refine lv_aload_n hx hb dX9_undo_132 rfl (lv_at hl 0 rfl) ?_
            refine x_geto hx hb hf9 hw (by omega) (by omega) sl_40_26 lk75 dX9_undo_133 ?_
            refine lv_aload_n hx hb dX9_undo_136 rfl (lv_at hl 0 rfl) ?_
            refine x_geti (jz := 22) hx hb hf9 hw (by omega) (by omega) sl_40_22 rfl lk173 dX9_undo_137 ?_
            rw [hVX28]
            refine x_iald hx hb hK.1 hw (by omega) (by omega) ar_67 (len_E ar_67 (by decide)) (by omega) (by omega) (by omega) dX9_undo_140 ?_
            have e34 : ∀ p9 q9 : Int, X28 67 p9 q9 = X 67 p9 q9 := fun p9 q9 => by rw [hX28, u3_k _ _ _ _ (by decide), hGXa 67 p9 q9 (show 6700 ∉ [4023, 5600, 5900] by decide), hX7, u3_k _ _ _ _ (by decide), hX1, u3_k _ _ _ _ (by decide)]
            rw [e34 0 ((Xa 40 0 22) - 1)]
            have f35 : (-1) ≤ X 67 0 ((Xa 40 0 22) - 1) ∧ X 67 0 ((Xa 40 0 22) - 1) ≤ 11 := hR 67 0 ((Xa 40 0 22) - 1)
            refine x_iadd hx hb dX9_undo_141 ?_
            refine lv_aload_n hx hb dX9_undo_142 rfl (lv_at hl 0 rfl) ?_
            refine x_geto hx hb hf9 hw (by omega) (by omega) sl_40_27 lk78 dX9_undo_143 ?_
            refine lv_aload_n hx hb dX9_undo_146 rfl (lv_at hl 0 rfl) ?_
            refine x_geti (jz := 22) hx hb hf9 hw (by omega) (by omega) sl_40_22 rfl lk173 dX9_undo_147 ?_
            rw [hVX28]
            refine x_lald hx hb hK.1 hw (by omega) (by omega) ar_68 (len_E ar_68 (by decide)) (by omega) (by omega) (by omega) dX9_undo_150 ?_
            have e36 : ∀ p9 q9 : Int, X28 68 p9 q9 = X 68 p9 q9 := fun p9 q9 => by rw [hX28, u3_k _ _ _ _ (by decide), hGXa 68 p9 q9 (show 6800 ∉ [4023, 5600, 5900] by decide), hX7, u3_k _ _ _ _ (by decide), hX1, u3_k _ _ _ _ (by decide)]
            rw [e36 0 ((Xa 40 0 22) - 1)]
            have f37 : (-9223372036854775808) ≤ X 68 0 ((Xa 40 0 22) - 1) ∧ X 68 0 ((Xa 40 0 22) - 1) ≤ 9223372036854775807 := hR 68 0 ((Xa 40 0 22) - 1)
            refine x_last hx hb hK.1 hw hS (by omega) (by omega) ar_59 (len_E ar_59 (by decide)) (by omega) (by omega) (by omega) dX9_undo_151 (fun H locs hw hS => ?_)
            obtain ⟨X38, hX38⟩ : ∃ Xq, Xq = u3 X28 59 0 ((12 * (X 66 0 ((Xa 40 0 22) - 1))) + (X 67 0 ((Xa 40 0 22) - 1))) (X 68 0 ((Xa 40 0 22) - 1)) := ⟨_, rfl⟩
            rw [← hX38] at hw
            have hRX38 : Rng X38 := by rw [hX38]; exact rng_set hRX28 (show (-9223372036854775808) ≤ (X 68 0 ((Xa 40 0 22) - 1)) ∧ (X 68 0 ((Xa 40 0 22) - 1)) ≤ 9223372036854775807 by omega)
            have hVX38 : X38 59 0 ((12 * (X 66 0 ((Xa 40 0 22) - 1))) + (X 67 0 ((Xa 40 0 22) - 1))) = (X 68 0 ((Xa 40 0 22) - 1)) := by rw [hX38]; exact u3_s _ _ _ _ _
            have hFX38 : Frm [4001, 4021, 4023, 5600, 5900] X X38 := by rw [hX38]; exact Frm.set hFX28 (show 5900 ∈ [4001, 4021, 4023, 5600, 5900] by decide)
            refine lv_goto (tgt := 40) hx hb dX9_undo_152 (by decide) ?_
            have q39 : Frm [4023, 5600, 5900] X7 Xa := Frm.tr Frm.rf (Frm.mono hGXa (by decide))
            have q40 : Frm [4023, 5600, 5900] X7 X28 := by rw [hX28]; exact Frm.set q39 (show 4023 ∈ [4023, 5600, 5900] by decide)
            have q41 : Frm [4023, 5600, 5900] X7 X38 := by rw [hX38]; exact Frm.set q40 (show 5900 ∈ [4023, 5600, 5900] by decide)
            have e42 : X38 40 0 22 = X28 40 0 22 := by rw [hX38, u3_k _ _ _ _ (by decide)]
            exact ih40  X38 _ _ _ (by omega) hRX38 q41 (minv5_undo_r hM5 (by omega) hX28 hX38) hw hS (lv_sub hl [0, 1] rfl)
          · refine lv_aload_n hx hb dX9_undo_78 rfl (lv_at hl 0 rfl) ?_
            refine x_geto hx hb hf9 hw (by omega) (by omega) sl_40_15 lk48 dX9_undo_79 ?_
            refine lv_iconst (v := jI 5) hx hb dX9_undo_82 rfl ?_
            refine lv_aload_n hx hb dX9_undo_83 rfl (lv_at hl 0 rfl) ?_
            refine x_geto hx hb hf9 hw (by omega) (by omega) sl_40_23 lk66 dX9_undo_84 ?_
            refine lv_aload_n hx hb dX9_undo_87 rfl (lv_at hl 0 rfl) ?_
            refine x_geti (jz := 22) hx hb hf9 hw (by omega) (by omega) sl_40_22 rfl lk173 dX9_undo_88 ?_
            rw [hVX28]
            refine x_iald hx hb hK.1 hw (by omega) (by omega) ar_64 (len_E ar_64 (by decide)) (by omega) (by omega) (by omega) dX9_undo_91 ?_
            have e43 : ∀ p9 q9 : Int, X28 64 p9 q9 = X 64 p9 q9 := fun p9 q9 => by rw [hX28, u3_k _ _ _ _ (by decide), hGXa 64 p9 q9 (show 6400 ∉ [4023, 5600, 5900] by decide), hX7, u3_k _ _ _ _ (by decide), hX1, u3_k _ _ _ _ (by decide)]
            rw [e43 0 ((Xa 40 0 22) - 1)]
            have f44 : 0 ≤ X 64 0 ((Xa 40 0 22) - 1) ∧ X 64 0 ((Xa 40 0 22) - 1) ≤ 29 := hR 64 0 ((Xa 40 0 22) - 1)
            refine x_imul hx hb dX9_undo_92 ?_
            refine lv_aload_n hx hb dX9_undo_93 rfl (lv_at hl 0 rfl) ?_
            refine x_geto hx hb hf9 hw (by omega) (by omega) sl_40_24 lk69 dX9_undo_94 ?_
            refine lv_aload_n hx hb dX9_undo_97 rfl (lv_at hl 0 rfl) ?_
            refine x_geti (jz := 22) hx hb hf9 hw (by omega) (by omega) sl_40_22 rfl lk173 dX9_undo_98 ?_
            rw [hVX28]
            refine x_iald hx hb hK.1 hw (by omega) (by omega) ar_65 (len_E ar_65 (by decide)) (by omega) (by omega) (by omega) dX9_undo_101 ?_
            have e45 : ∀ p9 q9 : Int, X28 65 p9 q9 = X 65 p9 q9 := fun p9 q9 => by rw [hX28, u3_k _ _ _ _ (by decide), hGXa 65 p9 q9 (show 6500 ∉ [4023, 5600, 5900] by decide), hX7, u3_k _ _ _ _ (by decide), hX1, u3_k _ _ _ _ (by decide)]
            rw [e45 0 ((Xa 40 0 22) - 1)]
            have f46 : 0 ≤ X 65 0 ((Xa 40 0 22) - 1) ∧ X 65 0 ((Xa 40 0 22) - 1) ≤ 4 := hR 65 0 ((Xa 40 0 22) - 1)
            refine x_iadd hx hb dX9_undo_102 ?_
            refine lv_aload_n hx hb dX9_undo_103 rfl (lv_at hl 0 rfl) ?_
            refine x_geto hx hb hf9 hw (by omega) (by omega) sl_40_27 lk78 dX9_undo_104 ?_
            refine lv_aload_n hx hb dX9_undo_107 rfl (lv_at hl 0 rfl) ?_
            refine x_geti (jz := 22) hx hb hf9 hw (by omega) (by omega) sl_40_22 rfl lk173 dX9_undo_108 ?_
            rw [hVX28]
            refine x_lald hx hb hK.1 hw (by omega) (by omega) ar_68 (len_E ar_68 (by decide)) (by omega) (by omega) (by omega) dX9_undo_111 ?_
            have e47 : ∀ p9 q9 : Int, X28 68 p9 q9 = X 68 p9 q9 := fun p9 q9 => by rw [hX28, u3_k _ _ _ _ (by decide), hGXa 68 p9 q9 (show 6800 ∉ [4023, 5600, 5900] by decide), hX7, u3_k _ _ _ _ (by decide), hX1, u3_k _ _ _ _ (by decide)]
            rw [e47 0 ((Xa 40 0 22) - 1)]
            have f48 : (-9223372036854775808) ≤ X 68 0 ((Xa 40 0 22) - 1) ∧ X 68 0 ((Xa 40 0 22) - 1) ≤ 9223372036854775807 := hR 68 0 ((Xa 40 0 22) - 1)
            refine x_last hx hb hK.1 hw hS (by omega) (by omega) ar_56 (len_E ar_56 (by decide)) (by omega) (by omega) (by omega) dX9_undo_112 (fun H locs hw hS => ?_)
            obtain ⟨X49, hX49⟩ : ∃ Xq, Xq = u3 X28 56 0 ((5 * (X 64 0 ((Xa 40 0 22) - 1))) + (X 65 0 ((Xa 40 0 22) - 1))) (X 68 0 ((Xa 40 0 22) - 1)) := ⟨_, rfl⟩
            rw [← hX49] at hw
            have hRX49 : Rng X49 := by rw [hX49]; exact rng_set hRX28 (show (-9223372036854775808) ≤ (X 68 0 ((Xa 40 0 22) - 1)) ∧ (X 68 0 ((Xa 40 0 22) - 1)) ≤ 9223372036854775807 by omega)
            have hVX49 : X49 56 0 ((5 * (X 64 0 ((Xa 40 0 22) - 1))) + (X 65 0 ((Xa 40 0 22) - 1))) = (X 68 0 ((Xa 40 0 22) - 1)) := by rw [hX49]; exact u3_s _ _ _ _ _
            have hFX49 : Frm [4001, 4021, 4023, 5600, 5900] X X49 := by rw [hX49]; exact Frm.set hFX28 (show 5600 ∈ [4001, 4021, 4023, 5600, 5900] by decide)
            refine lv_goto (tgt := 40) hx hb dX9_undo_113 (by decide) ?_
            have q50 : Frm [4023, 5600, 5900] X7 Xa := Frm.tr Frm.rf (Frm.mono hGXa (by decide))
            have q51 : Frm [4023, 5600, 5900] X7 X28 := by rw [hX28]; exact Frm.set q50 (show 4023 ∈ [4023, 5600, 5900] by decide)
            have q52 : Frm [4023, 5600, 5900] X7 X49 := by rw [hX49]; exact Frm.set q51 (show 5600 ∈ [4023, 5600, 5900] by decide)
            have e53 : X49 40 0 22 = X28 40 0 22 := by rw [hX49, u3_k _ _ _ _ (by decide)]
            exact ih40  X49 _ _ _ (by omega) hRX49 q52 (minv5_undo_x hM5 hRX28 (by omega) (by omega) (by rw [hGXa 67 0 (Xa 40 0 22 - 1) (show 6700 ∉ [4023, 5600, 5900] by decide), hX7, u3_k _ _ _ _ (by decide), hX1, u3_k _ _ _ _ (by decide)]; omega) hX28 (by rw [hGXa 64 0 (Xa 40 0 22 - 1) (show 6400 ∉ [4023, 5600, 5900] by decide), hX7, u3_k _ _ _ _ (by decide), hX1, u3_k _ _ _ _ (by decide)]) (by rw [hGXa 65 0 (Xa 40 0 22 - 1) (show 6500 ∉ [4023, 5600, 5900] by decide), hX7, u3_k _ _ _ _ (by decide), hX1, u3_k _ _ _ _ (by decide)]) (by rw [hGXa 68 0 (Xa 40 0 22 - 1) (show 6800 ∉ [4023, 5600, 5900] by decide), hX7, u3_k _ _ _ _ (by decide), hX1, u3_k _ _ _ _ (by decide)]) (hR 64 0 _).1 (hR 65 0 _).1 hX49) hw hS (lv_sub hl [0, 1] rfl)
    have e54 : X7 40 0 22 = X 40 0 22 := by rw [hX7, u3_j _ _ _ _ (by decide), hX1, u3_j _ _ _ _ (by decide)]
    have q55 : Frm [4001, 4021] X X1 := by rw [hX1]; exact Frm.set Frm.rf (show 4001 ∈ [4001, 4021] by decide)
    have q56 : Frm [4001, 4021] X X7 := by rw [hX7]; exact Frm.set q55 (show 4021 ∈ [4001, 4021] by decide)
    exact lp40 (X7 40 0 22 : Int).toNat.succ  X7 _ _ _ (by omega) hRX7 Frm.rf (minv5_frm ⟨hMI.1, hMI.2.1, hMI.2.2.1, hMI.2.2.2.1, hMI.2.2.2.2.2⟩ q56 (by decide)) hw hS (lv_sub hl [1, 0] rfl)
  · refine lv_bipush (v := jI (-3)) hx hb dX9_undo_12 (by decide) ?_
    refine ret_i (mc := 0) (ms := 0) hx hb hr hlocks hw hS (by omega) (by omega) dX9_undo_14 ?_
    have q58 : Frm [4001] X X1 := by rw [hX1]; exact Frm.set Frm.rf (show 4001 ∈ [4001] by decide)
    have hMq57 : MInv X1 := minv_frm hMI q58 (by decide)
    have e59 : X1 40 0 20 = X 40 0 20 := (by rw [hX1, u3_j _ _ _ _ (by decide)])
    exact ⟨X1, rfl, hRX1, hFX1, hMq57, by omega, by omega⟩

