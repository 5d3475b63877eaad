set_option maxHeartbeats 4000000 in
set_option maxRecDepth 100000 in
theorem c_X9_differs (l : Launch) (D : va_G) (tc : Nat → ClassId) (base : Nat) (ad : Nat → Int → Nat) (cnt : Nat → Int) (X : Nat → Int → Int → Int) (Y : Nat → Int → Int → Option Int) (ln : Int → Int) (hR : Rng X) (hFx : Fx cnt) (hMI : MInv X) (sv x : Int) (hsv : -2147483648 ≤ sv ∧ sv ≤ 2147483647) (hx : -2147483648 ≤ x ∧ x ≤ 2147483647) : KI l D tc base yX9_differs wsX9_differs ({ frames := 2, cells := 0, slots := 0, locals := 53 } : Room) [.ref (ad 40 0), .int (jI sv), .int (jI x)] (ad, cnt, X, Y, ln) 0 0 (fun z u => ∃ X1 : Nat → Int → Int → Int, u = (ad, cnt, X1, Y, ln) ∧ Rng X1 ∧ Frm [4001, 7100, 7200, 7300, 7400, 7500, 8000, 7000, 8100, 7700, 7800, 7900, 7600, 4042, 4043, 4044] X X1 ∧ MInv X1 ∧ (-2147483648 ≤ z ∧ z ≤ 2147483647) ∧ S4 X X1 ∧ S5 X X1 ∧ ((¬ ((0 ≤ sv ∧ sv < 4) ∧ X 70 0 sv ≠ 0 ∧ (0 ≤ x ∧ x < X 40 0 13)) ∧ z = -2) ∨ (((0 ≤ sv ∧ sv < 4) ∧ X 70 0 sv ≠ 0 ∧ (0 ≤ x ∧ x < X 40 0 13)) ∧ (rmT X1 (recR (fcM X) (lnM X) (mRid X) (mRid X) x 30) ∧ rmR X1 (recR (fcM X) (lnM X) (mRid X) (mRid X) x 30) ∧ rmV X1 (recR (fcM X) (lnM X) (mRid X) (mRid X) x 30) (recR (fcM X) (lnM X) (mRid X) (mRid X) x 30 0 0) 0) ∧ dfP (mxM X1 sv) (shM X1 sv) (fun r => X1 72 0 (30 * sv + r)) (vqM X1 sv) (fun r f => X1 73 0 (5 * (30 * sv + r) + f)) z))) := by
  refine K_of (cc := cX9_differs) (maxL := 12) (ret := (some .int)) (by decide) rfl (Nat.le_of_ble_eq_true rfl) ?_
  intro p e s m below meth c ls hx hb hr hml hown hts hlocks hl hK hw hS
  have hown : s.vm.findClass RX9 = some m.cls := hown
  have hi9 : ∀ w ∈ wsX90, w ∈ wsX9_differs := fun w h => List.mem_cons_of_mem _ (List.mem_append_right _ h)
  have hf9 : fctx s m _ RX9 wsX9_differs D tc RX9 TX9 51 9 := ⟨hts, hi9, hown, hK.1, rfl⟩
  have lk81 := hts (.fieldLink RX9 81 "StateRecordsModel" "sMany" "[I") (by decide +kernel)
  have lk84 := hts (.fieldLink RX9 84 "StateRecordsModel" "sType" "[I") (by decide +kernel)
  have lk87 := hts (.fieldLink RX9 87 "StateRecordsModel" "sFields" "[I") (by decide +kernel)
  have lk90 := hts (.fieldLink RX9 90 "StateRecordsModel" "sName" "[I") (by decide +kernel)
  have lk93 := hts (.fieldLink RX9 93 "StateRecordsModel" "sLane" "[I") (by decide +kernel)
  have lk96 := hts (.fieldLink RX9 96 "StateRecordsModel" "sVal" "[J") (by decide +kernel)
  have lk145 := hts (.fieldLink RX9 145 "StateRecordsModel" "code" "I") (by decide +kernel)
  have hc40 : cnt 40 = 1 := hFx.at 40 1 (by decide)
  have hc70 : cnt 70 = 1 := hFx.at 70 1 (by decide)
  have hc71 : cnt 71 = 1 := hFx.at 71 1 (by decide)
  have hc72 : cnt 72 = 1 := hFx.at 72 1 (by decide)
  have hc73 : cnt 73 = 1 := hFx.at 73 1 (by decide)
  have hc74 : cnt 74 = 1 := hFx.at 74 1 (by decide)
  have hc75 : cnt 75 = 1 := hFx.at 75 1 (by decide)
  have hl : lv_has ls 12 [(0, .ref (ad 40 0)), (1, .int (jI sv)), (2, .int (jI x))] := hl
  have fstypes : 0 ≤ X 40 0 2 ∧ X 40 0 2 ≤ 8 := hR 40 0 2
  have fsthings : 0 ≤ X 40 0 13 ∧ X 40 0 13 ≤ 30 := hR 40 0 13
  have fsmarks : 0 ≤ X 40 0 20 ∧ X 40 0 20 ≤ 4 := hR 40 0 20
  have fsnotes : 0 ≤ X 40 0 22 ∧ X 40 0 22 ≤ 80 := hR 40 0 22
  refine lv_aload_n hx hb dX9_differs_0 rfl (lv_at hl 0 rfl) ?_
  refine lv_iconst (v := jI 0) hx hb dX9_differs_1 rfl ?_
  refine x_puti (jz := 0) hx hb hf9 ⟨tyX9_ok, nmX9⟩ hw hS (by omega) (by omega) sl_40_0 rfl lk145 rfl (tyX9_ok 0 (by decide)) rfl rfl dX9_differs_2 (fun H locs hw hS => ?_)
  obtain ⟨X1, hX1⟩ : ∃ Xq, Xq = u3 X 40 0 0 0 := ⟨_, rfl⟩
  rw [← hX1] at hw
  have hRX1 : Rng X1 := by rw [hX1]; exact rng_set hR (show (-2147483648) ≤ 0 ∧ 0 ≤ 2147483647 by omega)
  have hVX1 : X1 40 0 0 = 0 := by rw [hX1]; exact u3_s _ _ _ _ _
  have hFX1 : Frm [4001, 7100, 7200, 7300, 7400, 7500, 8000, 7000, 8100, 7700, 7800, 7900, 7600, 4042, 4043, 4044] X X1 := by rw [hX1]; exact Frm.set Frm.rf (show 4001 ∈ [4001, 7100, 7200, 7300, 7400, 7500, 8000, 7000, 8100, 7700, 7800, 7900, 7600, 4042, 4043, 4044] by decide)
  refine lv_aload_n hx hb dX9_differs_5 rfl (lv_at hl 0 rfl) ?_
  refine lv_iload_n hx hb dX9_differs_6 rfl (lv_at hl 1 rfl) ?_
  refine gos_i (run_V (As := [.int (jI sv)]) (rest := []) hx hb hml hown hts (c_X9_isSave l D tc base ad cnt X1 Y ln hRX1 hFx sv (by omega)) (cwV 1 hts gX9_differs_X9_isSave rfl rfl rfl (by decide +kernel) ⟨Nat.le_of_ble_eq_true rfl, Nat.le_of_ble_eq_true rfl⟩) hK hw (by omega) (by omega) sl_40_0 rfl rfl hl.1 rfl (Nat.le_of_ble_eq_true rfl) dX9_differs_7 ⟨Nat.le_of_ble_eq_true rfl, Nat.le_of_ble_eq_true rfl⟩) hS (fun z2 u3 H locs p4 hw hS => ?_)
  obtain ⟨eu3, p4⟩ := p4
  subst eu3
  rcases p4 with ⟨ez2, p4⟩ | ⟨ez2, p4⟩
  · subst ez2
    refine x_if_eqF (tgt := 30) hx hb (by omega) (by decide) dX9_differs_10 (by decide) ?_
    refine lv_aload_n hx hb dX9_differs_13 rfl (lv_at hl 0 rfl) ?_
    refine x_geto hx hb hf9 hw (by omega) (by omega) sl_40_29 lk81 dX9_differs_14 ?_
    refine lv_iload_n hx hb dX9_differs_17 rfl (lv_at hl 1 rfl) ?_
    refine x_iald hx hb hK.1 hw (by omega) (by omega) ar_70 (len_E ar_70 (by decide)) (by omega) (by omega) (by omega) dX9_differs_18 ?_
    have e5 : ∀ p9 q9 : Int, X1 70 p9 q9 = X 70 p9 q9 := fun p9 q9 => by rw [hX1, u3_k _ _ _ _ (by decide)]
    rw [e5 0 sv]
    have f6 : 0 ≤ X 70 0 sv ∧ X 70 0 sv ≤ 30 := hR 70 0 sv
    refine x_if_eq (tgt := 30) hx hb (by omega) dX9_differs_19 (by decide) (fun c7 => ?_) (fun c7 => ?_)
    · refine lv_bipush (v := jI (-2)) hx hb dX9_differs_30 (by decide) ?_
      refine ret_i (mc := 0) (ms := 0) hx hb hr hlocks hw hS (by omega) (by omega) dX9_differs_32 ?_
      have q9 : Frm [4001] X X1 := by rw [hX1]; exact Frm.set Frm.rf (show 4001 ∈ [4001] by decide)
      have hMq8 : MInv X1 := minv_frm hMI q9 (by decide)
      have q10 : Frm [4001] X X1 := by rw [hX1]; exact Frm.set Frm.rf (show 4001 ∈ [4001] by decide)
      exact ⟨X1, rfl, hRX1, hFX1, hMq8, by omega, S4.frm q10 (by decide), S5.frm q10 (by decide), Or.inl ⟨(fun q => by (try delta Hid at *); omega), by omega⟩⟩
    · refine lv_aload_n hx hb dX9_differs_22 rfl (lv_at hl 0 rfl) ?_
      refine lv_iload_n hx hb dX9_differs_23 rfl (lv_at hl 2 rfl) ?_
      refine gos_i (run_V (As := [.int (jI x)]) (rest := []) hx hb hml hown hts (c_X9_isThing l D tc base ad cnt X1 Y ln hRX1 hFx x (by omega)) (cwV 1 hts gX9_differs_X9_isThing rfl rfl rfl (by decide +kernel) ⟨Nat.le_of_ble_eq_true rfl, Nat.le_of_ble_eq_true rfl⟩) hK hw (by omega) (by omega) sl_40_0 rfl rfl hl.1 rfl (Nat.le_of_ble_eq_true rfl) dX9_differs_24 ⟨Nat.le_of_ble_eq_true rfl, Nat.le_of_ble_eq_true rfl⟩) hS (fun z11 u12 H locs p13 hw hS => ?_)
      obtain ⟨eu12, p13⟩ := p13
      subst eu12
      have e14 : X1 40 0 13 = X 40 0 13 := by rw [hX1, u3_j _ _ _ _ (by decide)]
      simp only [e14] at p13
      rcases p13 with ⟨ez11, p13⟩ | ⟨ez11, p13⟩
      · subst ez11
        refine x_if_neT (tgt := 33) hx hb (by omega) (by decide) dX9_differs_27 (by decide) ?_
        refine lv_aload_n hx hb dX9_differs_33 rfl (lv_at hl 0 rfl) ?_
        refine lv_iload_n hx hb dX9_differs_34 rfl (lv_at hl 2 rfl) ?_
        refine lv_iconst (v := jI 0) hx hb dX9_differs_35 rfl ?_
        have q16 : Frm [4001] X X1 := by rw [hX1]; exact Frm.set Frm.rf (show 4001 ∈ [4001] by decide)
        have hMq15 : MInv X1 := minv_frm hMI q16 (by decide)
        have e17 : X1 40 0 13 = X 40 0 13 := by rw [hX1, u3_j _ _ _ _ (by decide)]
        refine gos_i (run_V (As := [.int (jI x), .int (jI 0)]) (rest := []) hx hb hml hown hts (c_X9_saves l D tc base ad cnt X1 Y ln hRX1 hFx hMq15 x 0 (by omega) (by simp only [e17]; omega) (by omega)) (cwV 2 hts gX9_differs_X9_saves rfl rfl rfl (by decide +kernel) ⟨Nat.le_of_ble_eq_true rfl, Nat.le_of_ble_eq_true rfl⟩) hK hw (by omega) (by omega) sl_40_0 rfl rfl hl.1 rfl (Nat.le_of_ble_eq_true rfl) dX9_differs_36 ⟨Nat.le_of_ble_eq_true rfl, Nat.le_of_ble_eq_true rfl⟩) hS (fun z18 u19 H locs p20 hw hS => ?_)
        obtain ⟨X21, eu19, hRX21, hG22, hMIX21, p20, h4X21, hcX21, hsvX21, h5X21, hm20X21⟩ := p20
        subst eu19
        have hFX21 : Frm [4001, 7100, 7200, 7300, 7400, 7500, 8000, 7000, 8100, 7700, 7800, 7900, 7600, 4042, 4043, 4044] X X21 := Frm.tr hFX1 (Frm.mono hG22 (by decide))
        refine lv_pop hx hb dX9_differs_39 rfl ?_
        refine lv_aload_n hx hb dX9_differs_40 rfl (lv_at hl 0 rfl) ?_
        refine x_geto hx hb hf9 hw (by omega) (by omega) sl_40_29 lk81 dX9_differs_41 ?_
        refine lv_iload_n hx hb dX9_differs_44 rfl (lv_at hl 1 rfl) ?_
        refine x_iald hx hb hK.1 hw (by omega) (by omega) ar_70 (len_E ar_70 (by decide)) (by omega) (by omega) (by omega) dX9_differs_45 ?_
        have f23 : 0 ≤ X21 70 0 sv ∧ X21 70 0 sv ≤ 30 := hRX21 70 0 sv
        refine lv_aload_n hx hb dX9_differs_46 rfl (lv_at hl 0 rfl) ?_
        refine x_geto hx hb hf9 hw (by omega) (by omega) sl_40_29 lk81 dX9_differs_47 ?_
        refine lv_iconst (v := jI 4) hx hb dX9_differs_50 rfl ?_
        refine x_iald hx hb hK.1 hw (by omega) (by omega) ar_70 (len_E ar_70 (by decide)) (by omega) (by omega) (by omega) dX9_differs_51 ?_
        have f24 : 0 ≤ X21 70 0 4 ∧ X21 70 0 4 ≤ 30 := hRX21 70 0 4
        refine x_icmp_le (tgt := 64) hx hb (by omega) (by omega) dX9_differs_52 (by decide) (fun c25 => ?_) (fun c25 => ?_)
        · refine lv_aload_n hx hb dX9_differs_64 rfl (lv_at hl 0 rfl) ?_
          refine x_geto hx hb hf9 hw (by omega) (by omega) sl_40_29 lk81 dX9_differs_65 ?_
          refine lv_iconst (v := jI 4) hx hb dX9_differs_68 rfl ?_
          refine x_iald hx hb hK.1 hw (by omega) (by omega) ar_70 (len_E ar_70 (by decide)) (by omega) (by omega) (by omega) dX9_differs_69 ?_
          have f26 : 0 ≤ X21 70 0 4 ∧ X21 70 0 4 ≤ 30 := hRX21 70 0 4
          refine lv_istore_n (lv' := [(3, .int (jI (X21 70 0 4))), (0, .ref (ad 40 0)), (1, .int (jI sv)), (2, .int (jI x))]) hx hb dX9_differs_70 rfl hl (by decide) rfl (fun ls hl => ?_)
          refine lv_iconst (v := jI 0) hx hb dX9_differs_71 rfl ?_
          refine lv_istore (lv' := [(4, .int (jI 0)), (3, .int (jI (X21 70 0 4))), (0, .ref (ad 40 0)), (1, .int (jI sv)), (2, .int (jI x))]) hx hb dX9_differs_72 hl (by decide) rfl (fun ls hl => ?_)
          have lp74 : ∀ (nn : Nat) (nz : Int) (r : Int) (H : Heap) (locs : List Loc) (ls : Array Slot), (30 - r) < (nn : Int) → (0 ≤ nz ∧ nz ≤ 30) → (0 ≤ r ∧ r ≤ 30) → (nz = mxM X21 sv) → (∀ r', 0 ≤ r' → r' < r → shM X21 sv r' ∧ ∀ f, 0 ≤ f → f < X21 72 0 (30 * sv + r') → vqM X21 sv r' f) → wd D tc base (ad, cnt, X21, Y, ln) H → va_S (frA base) s.heap H locs → lv_has ls 12 [(0, .ref (ad 40 0)), (1, .int (jI sv)), (2, .int (jI x)), (3, .int (jI nz)), (4, .int (jI r))] → W p l e ({ frames := 2, cells := 0, slots := 0, locals := 53 } : Room) s m ([.ref (ad 40 0), .int (jI sv), .int (jI x)] : List Value).toArray below meth c H locs 0 0 (MQ below (QI D tc base (fun z u => ∃ X1 : Nat → Int → Int → Int, u = (ad, cnt, X1, Y, ln) ∧ Rng X1 ∧ Frm [4001, 7100, 7200, 7300, 7400, 7500, 8000, 7000, 8100, 7700, 7800, 7900, 7600, 4042, 4043, 4044] X X1 ∧ MInv X1 ∧ (-2147483648 ≤ z ∧ z ≤ 2147483647) ∧ S4 X X1 ∧ S5 X X1 ∧ ((¬ ((0 ≤ sv ∧ sv < 4) ∧ X 70 0 sv ≠ 0 ∧ (0 ≤ x ∧ x < X 40 0 13)) ∧ z = -2) ∨ (((0 ≤ sv ∧ sv < 4) ∧ X 70 0 sv ≠ 0 ∧ (0 ≤ x ∧ x < X 40 0 13)) ∧ (rmT X1 (recR (fcM X) (lnM X) (mRid X) (mRid X) x 30) ∧ rmR X1 (recR (fcM X) (lnM X) (mRid X) (mRid X) x 30) ∧ rmV X1 (recR (fcM X) (lnM X) (mRid X) (mRid X) x 30) (recR (fcM X) (lnM X) (mRid X) (mRid X) x 30 0 0) 0) ∧ dfP (mxM X1 sv) (shM X1 sv) (fun r => X1 72 0 (30 * sv + r)) (vqM X1 sv) (fun r f => X1 73 0 (5 * (30 * sv + r) + f)) z)))) ([.ref (ad 40 0), .int (jI sv), .int (jI x)] : List Value).toArray s 0 0 (frA base)) (F0 m 74 ls []) := by
            intro nn
            induction nn with
            | zero => intro nz r H locs ls hm hnz hr0 hnzv hall hw hS hl; exfalso; omega
            | succ nn ih74 =>
              intro nz r H locs ls hm hnz hr0 hnzv hall hw hS hl
              refine lv_iload hx hb dX9_differs_74 (lv_at hl 4 rfl) ?_
              refine lv_iload_n hx hb dX9_differs_76 rfl (lv_at hl 3 rfl) ?_
              refine x_icmp_ge (tgt := 417) hx hb (by omega) (by omega) dX9_differs_77 (by decide) (fun c27 => ?_) (fun c27 => ?_)
              · refine lv_iconst (v := jI (-1)) hx hb dX9_differs_417 rfl ?_
                refine ret_i (mc := 0) (ms := 0) hx hb hr hlocks hw hS (by omega) (by omega) dX9_differs_418 ?_
                have q28 : Frm [4001] X X1 := by rw [hX1]; exact Frm.set Frm.rf (show 4001 ∈ [4001] by decide)
                have hrd29 := rdr_eq (L := [4001]) q28 (by decide)
                have hsx30 := hsvX21
                rw [hrd29.1, hrd29.2.1, hrd29.2.2, Frm.arr q28 48 (by decide +kernel) (by decide), Frm.arr q28 55 (by decide +kernel) (by decide)] at hsx30
                exact ⟨X21, rfl, hRX21, hFX21, hMIX21, by omega, S4.tr (S4.frm q28 (by decide)) h4X21, S5.tr (S5.frm q28 (by decide)) h5X21, Or.inr ⟨(by (try delta Hid at *); omega), (by rcases hsx30 with ⟨-, q, -⟩ | ⟨-, -, q⟩; exact absurd q (by decide); exact q), Or.inl ⟨rfl, fun r9 a b => hall r9 a (by omega)⟩⟩⟩
              · refine lv_iload hx hb dX9_differs_80 (lv_at hl 4 rfl) ?_
                refine lv_aload_n hx hb dX9_differs_82 rfl (lv_at hl 0 rfl) ?_
                refine x_geto hx hb hf9 hw (by omega) (by omega) sl_40_29 lk81 dX9_differs_83 ?_
                refine lv_iload_n hx hb dX9_differs_86 rfl (lv_at hl 1 rfl) ?_
                refine x_iald hx hb hK.1 hw (by omega) (by omega) ar_70 (len_E ar_70 (by decide)) (by omega) (by omega) (by omega) dX9_differs_87 ?_
                have f31 : 0 ≤ X21 70 0 sv ∧ X21 70 0 sv ≤ 30 := hRX21 70 0 sv
                refine x_icmp_ge (tgt := 102) hx hb (by omega) (by omega) dX9_differs_88 (by decide) (fun c32 => ?_) (fun c32 => ?_)
                · refine lv_bipush (v := jI 100) hx hb dX9_differs_102 (by decide) ?_
                  refine lv_iload hx hb dX9_differs_104 (lv_at hl 4 rfl) ?_
                  refine x_imul hx hb dX9_differs_106 ?_
                  refine lv_bipush (v := jI 99) hx hb dX9_differs_107 (by decide) ?_
                  refine x_iadd hx hb dX9_differs_109 ?_
                  refine ret_i (mc := 0) (ms := 0) hx hb hr hlocks hw hS (by omega) (by omega) dX9_differs_110 ?_
                  have q33 : Frm [4001] X X1 := by rw [hX1]; exact Frm.set Frm.rf (show 4001 ∈ [4001] by decide)
                  have hrd34 := rdr_eq (L := [4001]) q33 (by decide)
                  have hsx35 := hsvX21
                  rw [hrd34.1, hrd34.2.1, hrd34.2.2, Frm.arr q33 48 (by decide +kernel) (by decide), Frm.arr q33 55 (by decide +kernel) (by decide)] at hsx35
                  exact ⟨X21, rfl, hRX21, hFX21, hMIX21, by omega, S4.tr (S4.frm q33 (by decide)) h4X21, S5.tr (S5.frm q33 (by decide)) h5X21, Or.inr ⟨(by (try delta Hid at *); omega), (by rcases hsx35 with ⟨-, q, -⟩ | ⟨-, -, q⟩; exact absurd q (by decide); exact q), Or.inr ⟨r, by omega, by omega, hall, Or.inl ⟨(fun q => by have q1 := q.1; have q2 := q.2.1; omega), by omega⟩⟩⟩⟩
                · refine lv_iload hx hb dX9_differs_91 (lv_at hl 4 rfl) ?_
                  refine lv_aload_n hx hb dX9_differs_93 rfl (lv_at hl 0 rfl) ?_
                  refine x_geto hx hb hf9 hw (by omega) (by omega) sl_40_29 lk81 dX9_differs_94 ?_
                  refine lv_iconst (v := jI 4) hx hb dX9_differs_97 rfl ?_
                  refine x_iald hx hb hK.1 hw (by omega) (by omega) ar_70 (len_E ar_70 (by decide)) (by omega) (by omega) (by omega) dX9_differs_98 ?_
                  have f36 : 0 ≤ X21 70 0 4 ∧ X21 70 0 4 ≤ 30 := hRX21 70 0 4
                  refine x_icmp_lt (tgt := 111) hx hb (by omega) (by omega) dX9_differs_99 (by decide) (fun c37 => ?_) (fun c37 => ?_)
                  · refine lv_bipush (v := jI 30) hx hb dX9_differs_111 (by decide) ?_
                    refine lv_iload_n hx hb dX9_differs_113 rfl (lv_at hl 1 rfl) ?_
                    refine x_imul hx hb dX9_differs_114 ?_
                    refine lv_iload hx hb dX9_differs_115 (lv_at hl 4 rfl) ?_
                    refine x_iadd hx hb dX9_differs_117 ?_
                    refine lv_istore (lv' := [(5, .int (jI ((30 * sv) + r))), (0, .ref (ad 40 0)), (1, .int (jI sv)), (2, .int (jI x)), (3, .int (jI nz)), (4, .int (jI r))]) hx hb dX9_differs_118 hl (by decide) rfl (fun ls hl => ?_)
                    refine lv_bipush (v := jI 120) hx hb dX9_differs_120 (by decide) ?_
                    refine lv_iload hx hb dX9_differs_122 (lv_at hl 5 rfl) ?_
                    refine x_iadd hx hb dX9_differs_124 ?_
                    refine lv_istore (lv' := [(6, .int (jI (120 + r))), (5, .int (jI ((30 * sv) + r))), (0, .ref (ad 40 0)), (1, .int (jI sv)), (2, .int (jI x)), (3, .int (jI nz)), (4, .int (jI r))]) hx hb dX9_differs_125 hl (by decide) rfl (fun ls hl => ?_)
                    refine lv_aload_n hx hb dX9_differs_127 rfl (lv_at hl 2 rfl) ?_
                    refine x_geto hx hb hf9 hw (by omega) (by omega) sl_40_30 lk84 dX9_differs_128 ?_
                    refine lv_iload hx hb dX9_differs_131 (lv_at hl 1 rfl) ?_
                    refine x_iald hx hb hK.1 hw (by omega) (by omega) ar_71 (len_E ar_71 (by decide)) (by omega) (by omega) (by omega) dX9_differs_133 ?_
                    have f38 : 0 ≤ X21 71 0 ((30 * sv) + r) ∧ X21 71 0 ((30 * sv) + r) ≤ 7 := hRX21 71 0 ((30 * sv) + r)
                    refine lv_aload_n hx hb dX9_differs_134 rfl (lv_at hl 2 rfl) ?_
                    refine x_geto hx hb hf9 hw (by omega) (by omega) sl_40_30 lk84 dX9_differs_135 ?_
                    refine lv_iload hx hb dX9_differs_138 (lv_at hl 0 rfl) ?_
                    refine x_iald hx hb hK.1 hw (by omega) (by omega) ar_71 (len_E ar_71 (by decide)) (by omega) (by omega) (by omega) dX9_differs_140 ?_
                    have f39 : 0 ≤ X21 71 0 (120 + r) ∧ X21 71 0 (120 + r) ≤ 7 := hRX21 71 0 (120 + r)
                    refine x_icmp_ne (tgt := 165) hx hb (by omega) (by omega) dX9_differs_141 (by decide) (fun c40 => ?_) (fun c40 => ?_)
                    · refine lv_iconst (v := jI 0) hx hb dX9_differs_165 rfl ?_
                      refine lv_istore (lv' := [(7, .int (jI 0)), (6, .int (jI (120 + r))), (5, .int (jI ((30 * sv) + r))), (0, .ref (ad 40 0)), (1, .int (jI sv)), (2, .int (jI x)), (3, .int (jI nz)), (4, .int (jI r))]) hx hb dX9_differs_166 hl (by decide) rfl (fun ls hl => ?_)
                      refine lv_iconst (v := jI 0) hx hb dX9_differs_168 rfl ?_
                      refine lv_istore (lv' := [(8, .int (jI 0)), (7, .int (jI 0)), (6, .int (jI (120 + r))), (5, .int (jI ((30 * sv) + r))), (0, .ref (ad 40 0)), (1, .int (jI sv)), (2, .int (jI x)), (3, .int (jI nz)), (4, .int (jI r))]) hx hb dX9_differs_169 hl (by decide) rfl (fun ls hl => ?_)
                      have lp171 : ∀ (nn : Nat) (sm : Int) (k : Int) (H : Heap) (locs : List Loc) (ls : Array Slot), (5 - k) < (nn : Int) → (0 ≤ sm ∧ sm ≤ 1) → (0 ≤ k ∧ k ≤ 5) → (sm = 1 → X21 71 0 (30 * sv + r) = X21 71 0 (120 + r) ∧ X21 72 0 (30 * sv + r) = X21 72 0 (120 + r) ∧ ∀ j, 0 ≤ j → j < k → X21 73 0 (5 * (30 * sv + r) + j) = X21 73 0 (5 * (120 + r) + j) ∧ X21 74 0 (5 * (30 * sv + r) + j) = X21 74 0 (5 * (120 + r) + j)) → (sm = 0 → ¬ shM X21 sv r) → wd D tc base (ad, cnt, X21, Y, ln) H → va_S (frA base) s.heap H locs → lv_has ls 12 [(0, .ref (ad 40 0)), (1, .int (jI sv)), (2, .int (jI x)), (3, .int (jI nz)), (4, .int (jI r)), (5, .int (jI ((30 * sv) + r))), (6, .int (jI (120 + r))), (7, .int (jI sm)), (8, .int (jI k))] → W p l e ({ frames := 2, cells := 0, slots := 0, locals := 53 } : Room) s m ([.ref (ad 40 0), .int (jI sv), .int (jI x)] : List Value).toArray below meth c H locs 0 0 (MQ below (QI D tc base (fun z u => ∃ X1 : Nat → Int → Int → Int, u = (ad, cnt, X1, Y, ln) ∧ Rng X1 ∧ Frm [4001, 7100, 7200, 7300, 7400, 7500, 8000, 7000, 8100, 7700, 7800, 7900, 7600, 4042, 4043, 4044] X X1 ∧ MInv X1 ∧ (-2147483648 ≤ z ∧ z ≤ 2147483647) ∧ S4 X X1 ∧ S5 X X1 ∧ ((¬ ((0 ≤ sv ∧ sv < 4) ∧ X 70 0 sv ≠ 0 ∧ (0 ≤ x ∧ x < X 40 0 13)) ∧ z = -2) ∨ (((0 ≤ sv ∧ sv < 4) ∧ X 70 0 sv ≠ 0 ∧ (0 ≤ x ∧ x < X 40 0 13)) ∧ (rmT X1 (recR (fcM X) (lnM X) (mRid X) (mRid X) x 30) ∧ rmR X1 (recR (fcM X) (lnM X) (mRid X) (mRid X) x 30) ∧ rmV X1 (recR (fcM X) (lnM X) (mRid X) (mRid X) x 30) (recR (fcM X) (lnM X) (mRid X) (mRid X) x 30 0 0) 0) ∧ dfP (mxM X1 sv) (shM X1 sv) (fun r => X1 72 0 (30 * sv + r)) (vqM X1 sv) (fun r f => X1 73 0 (5 * (30 * sv + r) + f)) z)))) ([.ref (ad 40 0), .int (jI sv), .int (jI x)] : List Value).toArray s 0 0 (frA base)) (F0 m 171 ls []) := by
                        intro nn
                        induction nn with
                        | zero => intro sm k H locs ls hm hsm hk hsm1 hsm0 hw hS hl; exfalso; omega
                        | succ nn ih171 =>
                          intro sm k H locs ls hm hsm hk hsm1 hsm0 hw hS hl
                          skip
                          refine lv_iload hx hb dX9_differs_171 (lv_at hl 7 rfl) ?_
                          refine x_if_eq (tgt := 255) hx hb (by omega) dX9_differs_173 (by decide) (fun c41 => ?_) (fun c41 => ?_)
                          · refine lv_iload hx hb dX9_differs_255 (lv_at hl 7 rfl) ?_
                            refine x_if_ne (tgt := 269) hx hb (by omega) dX9_differs_257 (by decide) (fun c42 => ?_) (fun c42 => ?_)
                            · refine lv_iconst (v := jI 0) hx hb dX9_differs_269 rfl ?_
                              refine lv_istore (lv' := [(8, .int (jI 0)), (0, .ref (ad 40 0)), (1, .int (jI sv)), (2, .int (jI x)), (3, .int (jI nz)), (4, .int (jI r)), (5, .int (jI ((30 * sv) + r))), (6, .int (jI (120 + r))), (7, .int (jI sm))]) hx hb dX9_differs_270 hl (by decide) rfl (fun ls hl => ?_)
                              have lp272 : ∀ (nn : Nat) (k : Int) (H : Heap) (locs : List Loc) (ls : Array Slot), (5 - k) < (nn : Int) → (0 ≤ k ∧ k ≤ 5) → (shM X21 sv r) → (∀ f, 0 ≤ f → f < k → vqM X21 sv r f) → wd D tc base (ad, cnt, X21, Y, ln) H → va_S (frA base) s.heap H locs → lv_has ls 12 [(0, .ref (ad 40 0)), (1, .int (jI sv)), (2, .int (jI x)), (3, .int (jI nz)), (4, .int (jI r)), (5, .int (jI ((30 * sv) + r))), (6, .int (jI (120 + r))), (8, .int (jI k))] → W p l e ({ frames := 2, cells := 0, slots := 0, locals := 53 } : Room) s m ([.ref (ad 40 0), .int (jI sv), .int (jI x)] : List Value).toArray below meth c H locs 0 0 (MQ below (QI D tc base (fun z u => ∃ X1 : Nat → Int → Int → Int, u = (ad, cnt, X1, Y, ln) ∧ Rng X1 ∧ Frm [4001, 7100, 7200, 7300, 7400, 7500, 8000, 7000, 8100, 7700, 7800, 7900, 7600, 4042, 4043, 4044] X X1 ∧ MInv X1 ∧ (-2147483648 ≤ z ∧ z ≤ 2147483647) ∧ S4 X X1 ∧ S5 X X1 ∧ ((¬ ((0 ≤ sv ∧ sv < 4) ∧ X 70 0 sv ≠ 0 ∧ (0 ≤ x ∧ x < X 40 0 13)) ∧ z = -2) ∨ (((0 ≤ sv ∧ sv < 4) ∧ X 70 0 sv ≠ 0 ∧ (0 ≤ x ∧ x < X 40 0 13)) ∧ (rmT X1 (recR (fcM X) (lnM X) (mRid X) (mRid X) x 30) ∧ rmR X1 (recR (fcM X) (lnM X) (mRid X) (mRid X) x 30) ∧ rmV X1 (recR (fcM X) (lnM X) (mRid X) (mRid X) x 30) (recR (fcM X) (lnM X) (mRid X) (mRid X) x 30 0 0) 0) ∧ dfP (mxM X1 sv) (shM X1 sv) (fun r => X1 72 0 (30 * sv + r)) (vqM X1 sv) (fun r f => X1 73 0 (5 * (30 * sv + r) + f)) z)))) ([.ref (ad 40 0), .int (jI sv), .int (jI x)] : List Value).toArray s 0 0 (frA base)) (F0 m 272 ls []) := by
                                intro nn
                                induction nn with
                                | zero => intro k H locs ls hm hk hsh hvk hw hS hl; exfalso; omega
                                | succ nn ih272 =>
                                  intro k H locs ls hm hk hsh hvk hw hS hl
                                  refine lv_iload hx hb dX9_differs_272 (lv_at hl 7 rfl) ?_
                                  refine lv_aload_n hx hb dX9_differs_274 rfl (lv_at hl 0 rfl) ?_
                                  refine x_geto hx hb hf9 hw (by omega) (by omega) sl_40_31 lk87 dX9_differs_275 ?_
                                  refine lv_iload hx hb dX9_differs_278 (lv_at hl 5 rfl) ?_
                                  refine x_iald hx hb hK.1 hw (by omega) (by omega) ar_72 (len_E ar_72 (by decide)) (by omega) (by omega) (by omega) dX9_differs_280 ?_
                                  have f43 : 0 ≤ X21 72 0 ((30 * sv) + r) ∧ X21 72 0 ((30 * sv) + r) ≤ 5 := hRX21 72 0 ((30 * sv) + r)
                                  refine x_icmp_ge (tgt := 411) hx hb (by omega) (by omega) dX9_differs_281 (by decide) (fun c44 => ?_) (fun c44 => ?_)
                                  · refine lv_iinc (v := jI (r + 1)) (lv' := [(4, .int (jI (r + 1))), (0, .ref (ad 40 0)), (1, .int (jI sv)), (2, .int (jI x)), (3, .int (jI nz)), (5, .int (jI ((30 * sv) + r))), (6, .int (jI (120 + r))), (8, .int (jI k))]) hx hb dX9_differs_411 hl (k := 4) rfl (jI_add _ _) (by decide) rfl (fun ls hl => ?_)
                                    refine lv_goto (tgt := 74) hx hb dX9_differs_414 (by decide) ?_
                                    exact ih74 nz (r + 1) _ _ _ (by omega) (by omega) (by omega) (hnzv) (fun r' a b => if hr9 : r' = r then (by rw [hr9]; exact ⟨hsh, fun f f0 f1 => hvk f f0 (by omega)⟩) else hall r' a (by omega)) hw hS (lv_sub hl [1, 2, 3, 4, 0] rfl)
                                  · refine lv_aload_n hx hb dX9_differs_284 rfl (lv_at hl 0 rfl) ?_
                                    refine x_geto hx hb hf9 hw (by omega) (by omega) sl_40_34 lk96 dX9_differs_285 ?_
                                    refine lv_iconst (v := jI 5) hx hb dX9_differs_288 rfl ?_
                                    refine lv_iload hx hb dX9_differs_289 (lv_at hl 5 rfl) ?_
                                    refine x_imul hx hb dX9_differs_291 ?_
                                    refine lv_iload hx hb dX9_differs_292 (lv_at hl 7 rfl) ?_
                                    refine x_iadd hx hb dX9_differs_294 ?_
                                    obtain ⟨hv1, hv2, hv3⟩ := (hMIX21.2.2.1 sv r (by omega) (by omega) (by omega) (by omega)).2 k (by omega) (by omega)
                                    refine x_lald hx hb hK.1 hw (by omega) (by omega) ar_75 (len_E ar_75 (by decide)) (by omega) (by omega) (by omega) dX9_differs_295 ?_
                                    have f45 : (-9223372036854775808) ≤ X21 75 0 ((5 * ((30 * sv) + r)) + k) ∧ X21 75 0 ((5 * ((30 * sv) + r)) + k) ≤ 9223372036854775807 := hRX21 75 0 ((5 * ((30 * sv) + r)) + k)
                                    refine lv_lstore (lv' := [(9, .long (jL (X21 75 0 ((5 * ((30 * sv) + r)) + k)))), (0, .ref (ad 40 0)), (1, .int (jI sv)), (2, .int (jI x)), (3, .int (jI nz)), (4, .int (jI r)), (5, .int (jI ((30 * sv) + r))), (6, .int (jI (120 + r))), (8, .int (jI k))]) hx hb dX9_differs_296 hl (by decide) rfl (fun ls hl => ?_)
                                    refine lv_lload hx hb dX9_differs_298 (lv_at hl 0 rfl) ?_
                                    refine lv_aload_n hx hb dX9_differs_300 rfl (lv_at hl 1 rfl) ?_
                                    refine x_geto hx hb hf9 hw (by omega) (by omega) sl_40_34 lk96 dX9_differs_301 ?_
                                    refine lv_iconst (v := jI 5) hx hb dX9_differs_304 rfl ?_
                                    refine lv_iload hx hb dX9_differs_305 (lv_at hl 7 rfl) ?_
                                    refine x_imul hx hb dX9_differs_307 ?_
                                    refine lv_iload hx hb dX9_differs_308 (lv_at hl 8 rfl) ?_
                                    refine x_iadd hx hb dX9_differs_310 ?_
                                    refine x_lald hx hb hK.1 hw (by omega) (by omega) ar_75 (len_E ar_75 (by decide)) (by omega) (by omega) (by omega) dX9_differs_311 ?_
                                    have f46 : (-9223372036854775808) ≤ X21 75 0 ((5 * (120 + r)) + k) ∧ X21 75 0 ((5 * (120 + r)) + k) ≤ 9223372036854775807 := hRX21 75 0 ((5 * (120 + r)) + k)
                                    refine x_lcmp hx hb (by omega) (by omega) dX9_differs_312 ?_
                                    obtain ⟨z47, ez47⟩ : ∃ y : Int, y = cmpZ (X21 75 0 ((5 * ((30 * sv) + r)) + k)) (X21 75 0 ((5 * (120 + r)) + k)) := ⟨_, rfl⟩
                                    rw [← ez47]
                                    have gz47 : (z47 < 0 ↔ ((X21 75 0 ((5 * ((30 * sv) + r)) + k)) : Int) < (X21 75 0 ((5 * (120 + r)) + k))) ∧ (z47 = 0 ↔ ((X21 75 0 ((5 * ((30 * sv) + r)) + k)) : Int) = (X21 75 0 ((5 * (120 + r)) + k))) ∧ -1 ≤ z47 ∧ z47 ≤ 1 := by rw [ez47]; exact ⟨cmpZ_lt, cmpZ_eq, (cmpZ_r _ _).1, (cmpZ_r _ _).2⟩
                                    clear ez47
                                    refine x_if_eq (tgt := 320) hx hb (by omega) dX9_differs_313 (by decide) (fun c48 => ?_) (fun c48 => ?_)
                                    · refine lv_iconst (v := jI 0) hx hb dX9_differs_320 rfl ?_
                                      refine lv_istore (lv' := [(11, .int (jI 0)), (9, .long (jL (X21 75 0 ((5 * ((30 * sv) + r)) + k)))), (0, .ref (ad 40 0)), (1, .int (jI sv)), (2, .int (jI x)), (3, .int (jI nz)), (4, .int (jI r)), (5, .int (jI ((30 * sv) + r))), (6, .int (jI (120 + r))), (8, .int (jI k))]) hx hb dX9_differs_321 hl (by decide) rfl (fun ls hl => ?_)
                                      refine lv_iload hx hb dX9_differs_323 (lv_at hl 0 rfl) ?_
                                      refine x_if_neF (tgt := 374) hx hb (by omega) (by decide) dX9_differs_325 (by decide) ?_
                                      refine lv_aload_n hx hb dX9_differs_328 rfl (lv_at hl 2 rfl) ?_
                                      refine x_geto hx hb hf9 hw (by omega) (by omega) sl_40_33 lk93 dX9_differs_329 ?_
                                      refine lv_iconst (v := jI 5) hx hb dX9_differs_332 rfl ?_
                                      refine lv_iload hx hb dX9_differs_333 (lv_at hl 7 rfl) ?_
                                      refine x_imul hx hb dX9_differs_335 ?_
                                      refine lv_iload hx hb dX9_differs_336 (lv_at hl 9 rfl) ?_
                                      refine x_iadd hx hb dX9_differs_338 ?_
                                      refine x_iald hx hb hK.1 hw (by omega) (by omega) ar_74 (len_E ar_74 (by decide)) (by omega) (by omega) (by omega) dX9_differs_339 ?_
                                      have f49 : 0 ≤ X21 74 0 ((5 * ((30 * sv) + r)) + k) ∧ X21 74 0 ((5 * ((30 * sv) + r)) + k) ≤ 5 := hRX21 74 0 ((5 * ((30 * sv) + r)) + k)
                                      refine lv_iconst (v := jI 2) hx hb dX9_differs_340 rfl ?_
                                      refine x_icmp_le (tgt := 378) hx hb (by omega) (by omega) dX9_differs_341 (by decide) (fun c50 => ?_) (fun c50 => ?_)
                                      · refine lv_iconst (v := jI 0) hx hb dX9_differs_378 rfl ?_
                                        refine lv_istore (lv' := [(11, .int (jI 0)), (9, .long (jL (X21 75 0 ((5 * ((30 * sv) + r)) + k)))), (0, .ref (ad 40 0)), (1, .int (jI sv)), (2, .int (jI x)), (3, .int (jI nz)), (4, .int (jI r)), (5, .int (jI ((30 * sv) + r))), (6, .int (jI (120 + r))), (8, .int (jI k))]) hx hb dX9_differs_379 hl (by decide) rfl (fun ls hl => ?_)
                                        refine lv_iload hx hb dX9_differs_381 (lv_at hl 0 rfl) ?_
                                        refine x_if_eqT (tgt := 405) hx hb (by omega) (by decide) dX9_differs_383 (by decide) ?_
                                        refine lv_iinc (v := jI (k + 1)) (lv' := [(8, .int (jI (k + 1))), (11, .int (jI 0)), (9, .long (jL (X21 75 0 ((5 * ((30 * sv) + r)) + k)))), (0, .ref (ad 40 0)), (1, .int (jI sv)), (2, .int (jI x)), (3, .int (jI nz)), (4, .int (jI r)), (5, .int (jI ((30 * sv) + r))), (6, .int (jI (120 + r)))]) hx hb dX9_differs_405 hl (k := 9) rfl (jI_add _ _) (by decide) rfl (fun ls hl => ?_)
                                        refine lv_goto (tgt := 272) hx hb dX9_differs_408 (by decide) ?_
                                        exact ih272 (k + 1) _ _ _ (by omega) (by omega) (hsh) (fun f a b => if hf9 : f = k then (by rw [hf9]; exact (by (try delta Hid at *); first | exact ⟨by omega, fun a9 b9 => (by exfalso; omega)⟩ | exact ⟨by omega, fun a9 b9 => (by rcases hrdf with ⟨e9, h9⟩ | ⟨e9, h9⟩; exact h9; exfalso; omega)⟩)) else hvk f a (by omega)) hw hS (lv_sub hl [3, 4, 5, 6, 7, 8, 9, 0] rfl)
                                      · refine lv_lload hx hb dX9_differs_344 (lv_at hl 1 rfl) ?_
                                        refine lv_lconst (v := jL 0) hx hb dX9_differs_346 (by decide) ?_
                                        refine x_lcmp hx hb (by omega) (by omega) dX9_differs_347 ?_
                                        obtain ⟨z51, ez51⟩ : ∃ y : Int, y = cmpZ (X21 75 0 ((5 * ((30 * sv) + r)) + k)) 0 := ⟨_, rfl⟩
                                        rw [← ez51]
                                        have gz51 : (z51 < 0 ↔ ((X21 75 0 ((5 * ((30 * sv) + r)) + k)) : Int) < 0) ∧ (z51 = 0 ↔ ((X21 75 0 ((5 * ((30 * sv) + r)) + k)) : Int) = 0) ∧ -1 ≤ z51 ∧ z51 ≤ 1 := by rw [ez51]; exact ⟨cmpZ_lt, cmpZ_eq, (cmpZ_r _ _).1, (cmpZ_r _ _).2⟩
                                        clear ez51
                                        refine x_if_lt (tgt := 378) hx hb (by omega) dX9_differs_348 (by decide) (fun c52 => ?_) (fun c52 => ?_)
                                        · refine lv_iconst (v := jI 0) hx hb dX9_differs_378 rfl ?_
                                          refine lv_istore (lv' := [(11, .int (jI 0)), (9, .long (jL (X21 75 0 ((5 * ((30 * sv) + r)) + k)))), (0, .ref (ad 40 0)), (1, .int (jI sv)), (2, .int (jI x)), (3, .int (jI nz)), (4, .int (jI r)), (5, .int (jI ((30 * sv) + r))), (6, .int (jI (120 + r))), (8, .int (jI k))]) hx hb dX9_differs_379 hl (by decide) rfl (fun ls hl => ?_)
                                          refine lv_iload hx hb dX9_differs_381 (lv_at hl 0 rfl) ?_
                                          refine x_if_eqT (tgt := 405) hx hb (by omega) (by decide) dX9_differs_383 (by decide) ?_
                                          refine lv_iinc (v := jI (k + 1)) (lv' := [(8, .int (jI (k + 1))), (11, .int (jI 0)), (9, .long (jL (X21 75 0 ((5 * ((30 * sv) + r)) + k)))), (0, .ref (ad 40 0)), (1, .int (jI sv)), (2, .int (jI x)), (3, .int (jI nz)), (4, .int (jI r)), (5, .int (jI ((30 * sv) + r))), (6, .int (jI (120 + r)))]) hx hb dX9_differs_405 hl (k := 9) rfl (jI_add _ _) (by decide) rfl (fun ls hl => ?_)
                                          refine lv_goto (tgt := 272) hx hb dX9_differs_408 (by decide) ?_
                                          exact ih272 (k + 1) _ _ _ (by omega) (by omega) (hsh) (fun f a b => if hf9 : f = k then (by rw [hf9]; exact (by (try delta Hid at *); first | exact ⟨by omega, fun a9 b9 => (by exfalso; omega)⟩ | exact ⟨by omega, fun a9 b9 => (by rcases hrdf with ⟨e9, h9⟩ | ⟨e9, h9⟩; exact h9; exfalso; omega)⟩)) else hvk f a (by omega)) hw hS (lv_sub hl [3, 4, 5, 6, 7, 8, 9, 0] rfl)
                                        · refine lv_aload_n hx hb dX9_differs_351 rfl (lv_at hl 2 rfl) ?_
                                          refine lv_sipush (v := jI 150) hx hb dX9_differs_352 (by decide) ?_
                                          refine lv_iload_n hx hb dX9_differs_355 rfl (lv_at hl 3 rfl) ?_
                                          refine x_imul hx hb dX9_differs_356 ?_
                                          refine lv_lload hx hb dX9_differs_357 (lv_at hl 1 rfl) ?_
                                          refine x_l2i hx hb dX9_differs_359 ?_
                                          refine x_iadd hx hb dX9_differs_360 ?_
                                          refine lv_sipush (v := jI 600) hx hb dX9_differs_361 (by decide) ?_
                                          refine lv_lload hx hb dX9_differs_364 (lv_at hl 1 rfl) ?_
                                          refine x_l2i hx hb dX9_differs_366 ?_
                                          refine x_iadd hx hb dX9_differs_367 ?_
                                          refine gos_i (run_V (As := [.int (jI ((150 * sv) + (X21 75 0 ((5 * ((30 * sv) + r)) + k)))), .int (jI (600 + (X21 75 0 ((5 * ((30 * sv) + r)) + k))))]) (rest := []) hx hb hml hown hts (c_X9_rowsDiffer l D tc base ad cnt X21 Y ln hRX21 hFx hMIX21 ((150 * sv) + (X21 75 0 ((5 * ((30 * sv) + r)) + k))) (600 + (X21 75 0 ((5 * ((30 * sv) + r)) + k))) (by omega) (by omega)) (cwV 2 hts gX9_differs_X9_rowsDiffer rfl rfl rfl (by decide +kernel) ⟨Nat.le_of_ble_eq_true rfl, Nat.le_of_ble_eq_true rfl⟩) hK hw (by omega) (by omega) sl_40_0 rfl rfl hl.1 rfl (Nat.le_of_ble_eq_true rfl) dX9_differs_368 ⟨Nat.le_of_ble_eq_true rfl, Nat.le_of_ble_eq_true rfl⟩) hS (fun z53 u54 H locs p55 hw hS => ?_)
                                          obtain ⟨eu54, p55, hrdf⟩ := p55
                                          subst eu54
                                          refine x_if_eq (tgt := 378) hx hb (by omega) dX9_differs_371 (by decide) (fun c56 => ?_) (fun c56 => ?_)
                                          · refine lv_iconst (v := jI 0) hx hb dX9_differs_378 rfl ?_
                                            refine lv_istore (lv' := [(11, .int (jI 0)), (9, .long (jL (X21 75 0 ((5 * ((30 * sv) + r)) + k)))), (0, .ref (ad 40 0)), (1, .int (jI sv)), (2, .int (jI x)), (3, .int (jI nz)), (4, .int (jI r)), (5, .int (jI ((30 * sv) + r))), (6, .int (jI (120 + r))), (8, .int (jI k))]) hx hb dX9_differs_379 hl (by decide) rfl (fun ls hl => ?_)
                                            refine lv_iload hx hb dX9_differs_381 (lv_at hl 0 rfl) ?_
                                            refine x_if_eqT (tgt := 405) hx hb (by omega) (by decide) dX9_differs_383 (by decide) ?_
                                            refine lv_iinc (v := jI (k + 1)) (lv' := [(8, .int (jI (k + 1))), (11, .int (jI 0)), (9, .long (jL (X21 75 0 ((5 * ((30 * sv) + r)) + k)))), (0, .ref (ad 40 0)), (1, .int (jI sv)), (2, .int (jI x)), (3, .int (jI nz)), (4, .int (jI r)), (5, .int (jI ((30 * sv) + r))), (6, .int (jI (120 + r)))]) hx hb dX9_differs_405 hl (k := 9) rfl (jI_add _ _) (by decide) rfl (fun ls hl => ?_)
                                            refine lv_goto (tgt := 272) hx hb dX9_differs_408 (by decide) ?_
                                            exact ih272 (k + 1) _ _ _ (by omega) (by omega) (hsh) (fun f a b => if hf9 : f = k then (by rw [hf9]; exact (by (try delta Hid at *); first | exact ⟨by omega, fun a9 b9 => (by exfalso; omega)⟩ | exact ⟨by omega, fun a9 b9 => (by rcases hrdf with ⟨e9, h9⟩ | ⟨e9, h9⟩; exact h9; exfalso; omega)⟩)) else hvk f a (by omega)) hw hS (lv_sub hl [3, 4, 5, 6, 7, 8, 9, 0] rfl)
                                          · refine lv_iconst (v := jI 1) hx hb dX9_differs_374 rfl ?_
                                            refine lv_goto (tgt := 379) hx hb dX9_differs_375 (by decide) ?_
                                            refine lv_istore (lv' := [(11, .int (jI 1)), (9, .long (jL (X21 75 0 ((5 * ((30 * sv) + r)) + k)))), (0, .ref (ad 40 0)), (1, .int (jI sv)), (2, .int (jI x)), (3, .int (jI nz)), (4, .int (jI r)), (5, .int (jI ((30 * sv) + r))), (6, .int (jI (120 + r))), (8, .int (jI k))]) hx hb dX9_differs_379 hl (by decide) rfl (fun ls hl => ?_)
                                            refine lv_iload hx hb dX9_differs_381 (lv_at hl 0 rfl) ?_
                                            refine x_if_eqF (tgt := 405) hx hb (by omega) (by decide) dX9_differs_383 (by decide) ?_
                                            refine lv_bipush (v := jI 100) hx hb dX9_differs_386 (by decide) ?_
                                            refine lv_iload hx hb dX9_differs_388 (lv_at hl 6 rfl) ?_
                                            refine x_imul hx hb dX9_differs_390 ?_
                                            refine lv_aload_n hx hb dX9_differs_391 rfl (lv_at hl 2 rfl) ?_
                                            refine x_geto hx hb hf9 hw (by omega) (by omega) sl_40_32 lk90 dX9_differs_392 ?_
                                            refine lv_iconst (v := jI 5) hx hb dX9_differs_395 rfl ?_
                                            refine lv_iload hx hb dX9_differs_396 (lv_at hl 7 rfl) ?_
                                            refine x_imul hx hb dX9_differs_398 ?_
                                            refine lv_iload hx hb dX9_differs_399 (lv_at hl 9 rfl) ?_
                                            refine x_iadd hx hb dX9_differs_401 ?_
                                            refine x_iald hx hb hK.1 hw (by omega) (by omega) ar_73 (len_E ar_73 (by decide)) (by omega) (by omega) (by omega) dX9_differs_402 ?_
                                            have f57 : 0 ≤ X21 73 0 ((5 * ((30 * sv) + r)) + k) ∧ X21 73 0 ((5 * ((30 * sv) + r)) + k) ≤ 19 := hRX21 73 0 ((5 * ((30 * sv) + r)) + k)
                                            refine x_iadd hx hb dX9_differs_403 ?_
                                            refine ret_i (mc := 0) (ms := 0) hx hb hr hlocks hw hS (by omega) (by omega) dX9_differs_404 ?_
                                            have q58 : Frm [4001] X X1 := by rw [hX1]; exact Frm.set Frm.rf (show 4001 ∈ [4001] by decide)
                                            have hrd59 := rdr_eq (L := [4001]) q58 (by decide)
                                            have hsx60 := hsvX21
                                            rw [hrd59.1, hrd59.2.1, hrd59.2.2, Frm.arr q58 48 (by decide +kernel) (by decide), Frm.arr q58 55 (by decide +kernel) (by decide)] at hsx60
                                            exact ⟨X21, rfl, hRX21, hFX21, hMIX21, by omega, S4.tr (S4.frm q58 (by decide)) h4X21, S5.tr (S5.frm q58 (by decide)) h5X21, Or.inr ⟨(by (try delta Hid at *); omega), (by rcases hsx60 with ⟨-, q, -⟩ | ⟨-, -, q⟩; exact absurd q (by decide); exact q), Or.inr ⟨r, by omega, by omega, hall, Or.inr ⟨hsh, k, by omega, by omega, hvk, (fun q => by (try delta Hid at *); first | (have q1 := q.1; omega) | exact absurd (q.2 (by omega) (by omega)) (by assumption) | (rcases hrdf with ⟨e9, h9⟩ | ⟨e9, h9⟩; omega; exact h9 (q.2 (by omega) (by omega)))), by omega⟩⟩⟩⟩
                                    · refine lv_iconst (v := jI 1) hx hb dX9_differs_316 rfl ?_
                                      refine lv_goto (tgt := 321) hx hb dX9_differs_317 (by decide) ?_
                                      refine lv_istore (lv' := [(11, .int (jI 1)), (9, .long (jL (X21 75 0 ((5 * ((30 * sv) + r)) + k)))), (0, .ref (ad 40 0)), (1, .int (jI sv)), (2, .int (jI x)), (3, .int (jI nz)), (4, .int (jI r)), (5, .int (jI ((30 * sv) + r))), (6, .int (jI (120 + r))), (8, .int (jI k))]) hx hb dX9_differs_321 hl (by decide) rfl (fun ls hl => ?_)
                                      refine lv_iload hx hb dX9_differs_323 (lv_at hl 0 rfl) ?_
                                      refine x_if_neT (tgt := 374) hx hb (by omega) (by decide) dX9_differs_325 (by decide) ?_
                                      refine lv_iconst (v := jI 1) hx hb dX9_differs_374 rfl ?_
                                      refine lv_goto (tgt := 379) hx hb dX9_differs_375 (by decide) ?_
                                      refine lv_istore (lv' := [(11, .int (jI 1)), (9, .long (jL (X21 75 0 ((5 * ((30 * sv) + r)) + k)))), (0, .ref (ad 40 0)), (1, .int (jI sv)), (2, .int (jI x)), (3, .int (jI nz)), (4, .int (jI r)), (5, .int (jI ((30 * sv) + r))), (6, .int (jI (120 + r))), (8, .int (jI k))]) hx hb dX9_differs_379 hl (by decide) rfl (fun ls hl => ?_)
                                      refine lv_iload hx hb dX9_differs_381 (lv_at hl 0 rfl) ?_
                                      refine x_if_eqF (tgt := 405) hx hb (by omega) (by decide) dX9_differs_383 (by decide) ?_
                                      refine lv_bipush (v := jI 100) hx hb dX9_differs_386 (by decide) ?_
                                      refine lv_iload hx hb dX9_differs_388 (lv_at hl 6 rfl) ?_
                                      refine x_imul hx hb dX9_differs_390 ?_
                                      refine lv_aload_n hx hb dX9_differs_391 rfl (lv_at hl 2 rfl) ?_
                                      refine x_geto hx hb hf9 hw (by omega) (by omega) sl_40_32 lk90 dX9_differs_392 ?_
                                      refine lv_iconst (v := jI 5) hx hb dX9_differs_395 rfl ?_
                                      refine lv_iload hx hb dX9_differs_396 (lv_at hl 7 rfl) ?_
                                      refine x_imul hx hb dX9_differs_398 ?_
                                      refine lv_iload hx hb dX9_differs_399 (lv_at hl 9 rfl) ?_
                                      refine x_iadd hx hb dX9_differs_401 ?_
                                      refine x_iald hx hb hK.1 hw (by omega) (by omega) ar_73 (len_E ar_73 (by decide)) (by omega) (by omega) (by omega) dX9_differs_402 ?_
                                      have f61 : 0 ≤ X21 73 0 ((5 * ((30 * sv) + r)) + k) ∧ X21 73 0 ((5 * ((30 * sv) + r)) + k) ≤ 19 := hRX21 73 0 ((5 * ((30 * sv) + r)) + k)
                                      refine x_iadd hx hb dX9_differs_403 ?_
                                      refine ret_i (mc := 0) (ms := 0) hx hb hr hlocks hw hS (by omega) (by omega) dX9_differs_404 ?_
                                      have q62 : Frm [4001] X X1 := by rw [hX1]; exact Frm.set Frm.rf (show 4001 ∈ [4001] by decide)
                                      have hrd63 := rdr_eq (L := [4001]) q62 (by decide)
                                      have hsx64 := hsvX21
                                      rw [hrd63.1, hrd63.2.1, hrd63.2.2, Frm.arr q62 48 (by decide +kernel) (by decide), Frm.arr q62 55 (by decide +kernel) (by decide)] at hsx64
                                      exact ⟨X21, rfl, hRX21, hFX21, hMIX21, by omega, S4.tr (S4.frm q62 (by decide)) h4X21, S5.tr (S5.frm q62 (by decide)) h5X21, Or.inr ⟨(by (try delta Hid at *); omega), (by rcases hsx64 with ⟨-, q, -⟩ | ⟨-, -, q⟩; exact absurd q (by decide); exact q), Or.inr ⟨r, by omega, by omega, hall, Or.inr ⟨hsh, k, by omega, by omega, hvk, (fun q => by (try delta Hid at *); first | (have q1 := q.1; omega) | exact absurd (q.2 (by omega) (by omega)) (by assumption) | (rcases hrdf with ⟨e9, h9⟩ | ⟨e9, h9⟩; omega; exact h9 (q.2 (by omega) (by omega)))), by omega⟩⟩⟩⟩
                              exact lp272 (5 - 0 : Int).toNat.succ 0 _ _ _ (by omega) (by omega) ((by obtain ⟨q1, q2, q3⟩ := hsm1 (by omega); exact ⟨by omega, by omega, q1, q2, fun j a b => q3 j a (by omega)⟩)) (fun f a b => by omega) hw hS (lv_sub hl [1, 2, 3, 4, 5, 6, 7, 0] rfl)
                            · refine lv_bipush (v := jI 100) hx hb dX9_differs_260 (by decide) ?_
                              refine lv_iload hx hb dX9_differs_262 (lv_at hl 4 rfl) ?_
                              refine x_imul hx hb dX9_differs_264 ?_
                              refine lv_bipush (v := jI 99) hx hb dX9_differs_265 (by decide) ?_
                              refine x_iadd hx hb dX9_differs_267 ?_
                              refine ret_i (mc := 0) (ms := 0) hx hb hr hlocks hw hS (by omega) (by omega) dX9_differs_268 ?_
                              have q65 : Frm [4001] X X1 := by rw [hX1]; exact Frm.set Frm.rf (show 4001 ∈ [4001] by decide)
                              have hrd66 := rdr_eq (L := [4001]) q65 (by decide)
                              have hsx67 := hsvX21
                              rw [hrd66.1, hrd66.2.1, hrd66.2.2, Frm.arr q65 48 (by decide +kernel) (by decide), Frm.arr q65 55 (by decide +kernel) (by decide)] at hsx67
                              exact ⟨X21, rfl, hRX21, hFX21, hMIX21, by omega, S4.tr (S4.frm q65 (by decide)) h4X21, S5.tr (S5.frm q65 (by decide)) h5X21, Or.inr ⟨(by (try delta Hid at *); omega), (by rcases hsx67 with ⟨-, q, -⟩ | ⟨-, -, q⟩; exact absurd q (by decide); exact q), Or.inr ⟨r, by omega, by omega, hall, Or.inl ⟨hsm0 (by omega), by omega⟩⟩⟩⟩
                          · refine lv_iload hx hb dX9_differs_176 (lv_at hl 8 rfl) ?_
                            refine lv_aload_n hx hb dX9_differs_178 rfl (lv_at hl 0 rfl) ?_
                            refine x_geto hx hb hf9 hw (by omega) (by omega) sl_40_31 lk87 dX9_differs_179 ?_
                            refine lv_iload hx hb dX9_differs_182 (lv_at hl 5 rfl) ?_
                            refine x_iald hx hb hK.1 hw (by omega) (by omega) ar_72 (len_E ar_72 (by decide)) (by omega) (by omega) (by omega) dX9_differs_184 ?_
                            have f68 : 0 ≤ X21 72 0 ((30 * sv) + r) ∧ X21 72 0 ((30 * sv) + r) ≤ 5 := hRX21 72 0 ((30 * sv) + r)
                            refine x_icmp_ge (tgt := 255) hx hb (by omega) (by omega) dX9_differs_185 (by decide) (fun c69 => ?_) (fun c69 => ?_)
                            · refine lv_iload hx hb dX9_differs_255 (lv_at hl 7 rfl) ?_
                              refine x_if_ne (tgt := 269) hx hb (by omega) dX9_differs_257 (by decide) (fun c70 => ?_) (fun c70 => ?_)
                              · refine lv_iconst (v := jI 0) hx hb dX9_differs_269 rfl ?_
                                refine lv_istore (lv' := [(8, .int (jI 0)), (0, .ref (ad 40 0)), (1, .int (jI sv)), (2, .int (jI x)), (3, .int (jI nz)), (4, .int (jI r)), (5, .int (jI ((30 * sv) + r))), (6, .int (jI (120 + r))), (7, .int (jI sm))]) hx hb dX9_differs_270 hl (by decide) rfl (fun ls hl => ?_)
                                have lp272 : ∀ (nn : Nat) (k : Int) (H : Heap) (locs : List Loc) (ls : Array Slot), (5 - k) < (nn : Int) → (0 ≤ k ∧ k ≤ 5) → (shM X21 sv r) → (∀ f, 0 ≤ f → f < k → vqM X21 sv r f) → wd D tc base (ad, cnt, X21, Y, ln) H → va_S (frA base) s.heap H locs → lv_has ls 12 [(0, .ref (ad 40 0)), (1, .int (jI sv)), (2, .int (jI x)), (3, .int (jI nz)), (4, .int (jI r)), (5, .int (jI ((30 * sv) + r))), (6, .int (jI (120 + r))), (8, .int (jI k))] → W p l e ({ frames := 2, cells := 0, slots := 0, locals := 53 } : Room) s m ([.ref (ad 40 0), .int (jI sv), .int (jI x)] : List Value).toArray below meth c H locs 0 0 (MQ below (QI D tc base (fun z u => ∃ X1 : Nat → Int → Int → Int, u = (ad, cnt, X1, Y, ln) ∧ Rng X1 ∧ Frm [4001, 7100, 7200, 7300, 7400, 7500, 8000, 7000, 8100, 7700, 7800, 7900, 7600, 4042, 4043, 4044] X X1 ∧ MInv X1 ∧ (-2147483648 ≤ z ∧ z ≤ 2147483647) ∧ S4 X X1 ∧ S5 X X1 ∧ ((¬ ((0 ≤ sv ∧ sv < 4) ∧ X 70 0 sv ≠ 0 ∧ (0 ≤ x ∧ x < X 40 0 13)) ∧ z = -2) ∨ (((0 ≤ sv ∧ sv < 4) ∧ X 70 0 sv ≠ 0 ∧ (0 ≤ x ∧ x < X 40 0 13)) ∧ (rmT X1 (recR (fcM X) (lnM X) (mRid X) (mRid X) x 30) ∧ rmR X1 (recR (fcM X) (lnM X) (mRid X) (mRid X) x 30) ∧ rmV X1 (recR (fcM X) (lnM X) (mRid X) (mRid X) x 30) (recR (fcM X) (lnM X) (mRid X) (mRid X) x 30 0 0) 0) ∧ dfP (mxM X1 sv) (shM X1 sv) (fun r => X1 72 0 (30 * sv + r)) (vqM X1 sv) (fun r f => X1 73 0 (5 * (30 * sv + r) + f)) z)))) ([.ref (ad 40 0), .int (jI sv), .int (jI x)] : List Value).toArray s 0 0 (frA base)) (F0 m 272 ls []) := by
                                  intro nn
                                  induction nn with
                                  | zero => intro k H locs ls hm hk hsh hvk hw hS hl; exfalso; omega
                                  | succ nn ih272 =>
                                    intro k H locs ls hm hk hsh hvk hw hS hl
                                    refine lv_iload hx hb dX9_differs_272 (lv_at hl 7 rfl) ?_
                                    refine lv_aload_n hx hb dX9_differs_274 rfl (lv_at hl 0 rfl) ?_
                                    refine x_geto hx hb hf9 hw (by omega) (by omega) sl_40_31 lk87 dX9_differs_275 ?_
                                    refine lv_iload hx hb dX9_differs_278 (lv_at hl 5 rfl) ?_
                                    refine x_iald hx hb hK.1 hw (by omega) (by omega) ar_72 (len_E ar_72 (by decide)) (by omega) (by omega) (by omega) dX9_differs_280 ?_
                                    have f71 : 0 ≤ X21 72 0 ((30 * sv) + r) ∧ X21 72 0 ((30 * sv) + r) ≤ 5 := hRX21 72 0 ((30 * sv) + r)
                                    refine x_icmp_ge (tgt := 411) hx hb (by omega) (by omega) dX9_differs_281 (by decide) (fun c72 => ?_) (fun c72 => ?_)
                                    · refine lv_iinc (v := jI (r + 1)) (lv' := [(4, .int (jI (r + 1))), (0, .ref (ad 40 0)), (1, .int (jI sv)), (2, .int (jI x)), (3, .int (jI nz)), (5, .int (jI ((30 * sv) + r))), (6, .int (jI (120 + r))), (8, .int (jI k))]) hx hb dX9_differs_411 hl (k := 4) rfl (jI_add _ _) (by decide) rfl (fun ls hl => ?_)
                                      refine lv_goto (tgt := 74) hx hb dX9_differs_414 (by decide) ?_
                                      exact ih74 nz (r + 1) _ _ _ (by omega) (by omega) (by omega) (hnzv) (fun r' a b => if hr9 : r' = r then (by rw [hr9]; exact ⟨hsh, fun f f0 f1 => hvk f f0 (by omega)⟩) else hall r' a (by omega)) hw hS (lv_sub hl [1, 2, 3, 4, 0] rfl)
                                    · refine lv_aload_n hx hb dX9_differs_284 rfl (lv_at hl 0 rfl) ?_
                                      refine x_geto hx hb hf9 hw (by omega) (by omega) sl_40_34 lk96 dX9_differs_285 ?_
                                      refine lv_iconst (v := jI 5) hx hb dX9_differs_288 rfl ?_
                                      refine lv_iload hx hb dX9_differs_289 (lv_at hl 5 rfl) ?_
                                      refine x_imul hx hb dX9_differs_291 ?_
                                      refine lv_iload hx hb dX9_differs_292 (lv_at hl 7 rfl) ?_
                                      refine x_iadd hx hb dX9_differs_294 ?_
                                      obtain ⟨hv1, hv2, hv3⟩ := (hMIX21.2.2.1 sv r (by omega) (by omega) (by omega) (by omega)).2 k (by omega) (by omega)
                                      refine x_lald hx hb hK.1 hw (by omega) (by omega) ar_75 (len_E ar_75 (by decide)) (by omega) (by omega) (by omega) dX9_differs_295 ?_
                                      have f73 : (-9223372036854775808) ≤ X21 75 0 ((5 * ((30 * sv) + r)) + k) ∧ X21 75 0 ((5 * ((30 * sv) + r)) + k) ≤ 9223372036854775807 := hRX21 75 0 ((5 * ((30 * sv) + r)) + k)
                                      refine lv_lstore (lv' := [(9, .long (jL (X21 75 0 ((5 * ((30 * sv) + r)) + k)))), (0, .ref (ad 40 0)), (1, .int (jI sv)), (2, .int (jI x)), (3, .int (jI nz)), (4, .int (jI r)), (5, .int (jI ((30 * sv) + r))), (6, .int (jI (120 + r))), (8, .int (jI k))]) hx hb dX9_differs_296 hl (by decide) rfl (fun ls hl => ?_)
                                      refine lv_lload hx hb dX9_differs_298 (lv_at hl 0 rfl) ?_
                                      refine lv_aload_n hx hb dX9_differs_300 rfl (lv_at hl 1 rfl) ?_
                                      refine x_geto hx hb hf9 hw (by omega) (by omega) sl_40_34 lk96 dX9_differs_301 ?_
                                      refine lv_iconst (v := jI 5) hx hb dX9_differs_304 rfl ?_
                                      refine lv_iload hx hb dX9_differs_305 (lv_at hl 7 rfl) ?_
                                      refine x_imul hx hb dX9_differs_307 ?_
                                      refine lv_iload hx hb dX9_differs_308 (lv_at hl 8 rfl) ?_
                                      refine x_iadd hx hb dX9_differs_310 ?_
                                      refine x_lald hx hb hK.1 hw (by omega) (by omega) ar_75 (len_E ar_75 (by decide)) (by omega) (by omega) (by omega) dX9_differs_311 ?_
                                      have f74 : (-9223372036854775808) ≤ X21 75 0 ((5 * (120 + r)) + k) ∧ X21 75 0 ((5 * (120 + r)) + k) ≤ 9223372036854775807 := hRX21 75 0 ((5 * (120 + r)) + k)
                                      refine x_lcmp hx hb (by omega) (by omega) dX9_differs_312 ?_
                                      obtain ⟨z75, ez75⟩ : ∃ y : Int, y = cmpZ (X21 75 0 ((5 * ((30 * sv) + r)) + k)) (X21 75 0 ((5 * (120 + r)) + k)) := ⟨_, rfl⟩
                                      rw [← ez75]
                                      have gz75 : (z75 < 0 ↔ ((X21 75 0 ((5 * ((30 * sv) + r)) + k)) : Int) < (X21 75 0 ((5 * (120 + r)) + k))) ∧ (z75 = 0 ↔ ((X21 75 0 ((5 * ((30 * sv) + r)) + k)) : Int) = (X21 75 0 ((5 * (120 + r)) + k))) ∧ -1 ≤ z75 ∧ z75 ≤ 1 := by rw [ez75]; exact ⟨cmpZ_lt, cmpZ_eq, (cmpZ_r _ _).1, (cmpZ_r _ _).2⟩
                                      clear ez75
                                      refine x_if_eq (tgt := 320) hx hb (by omega) dX9_differs_313 (by decide) (fun c76 => ?_) (fun c76 => ?_)
                                      · refine lv_iconst (v := jI 0) hx hb dX9_differs_320 rfl ?_
                                        refine lv_istore (lv' := [(11, .int (jI 0)), (9, .long (jL (X21 75 0 ((5 * ((30 * sv) + r)) + k)))), (0, .ref (ad 40 0)), (1, .int (jI sv)), (2, .int (jI x)), (3, .int (jI nz)), (4, .int (jI r)), (5, .int (jI ((30 * sv) + r))), (6, .int (jI (120 + r))), (8, .int (jI k))]) hx hb dX9_differs_321 hl (by decide) rfl (fun ls hl => ?_)
                                        refine lv_iload hx hb dX9_differs_323 (lv_at hl 0 rfl) ?_
                                        refine x_if_neF (tgt := 374) hx hb (by omega) (by decide) dX9_differs_325 (by decide) ?_
                                        refine lv_aload_n hx hb dX9_differs_328 rfl (lv_at hl 2 rfl) ?_
                                        refine x_geto hx hb hf9 hw (by omega) (by omega) sl_40_33 lk93 dX9_differs_329 ?_
                                        refine lv_iconst (v := jI 5) hx hb dX9_differs_332 rfl ?_
                                        refine lv_iload hx hb dX9_differs_333 (lv_at hl 7 rfl) ?_
                                        refine x_imul hx hb dX9_differs_335 ?_
                                        refine lv_iload hx hb dX9_differs_336 (lv_at hl 9 rfl) ?_
                                        refine x_iadd hx hb dX9_differs_338 ?_
                                        refine x_iald hx hb hK.1 hw (by omega) (by omega) ar_74 (len_E ar_74 (by decide)) (by omega) (by omega) (by omega) dX9_differs_339 ?_
                                        have f77 : 0 ≤ X21 74 0 ((5 * ((30 * sv) + r)) + k) ∧ X21 74 0 ((5 * ((30 * sv) + r)) + k) ≤ 5 := hRX21 74 0 ((5 * ((30 * sv) + r)) + k)
                                        refine lv_iconst (v := jI 2) hx hb dX9_differs_340 rfl ?_
                                        refine x_icmp_le (tgt := 378) hx hb (by omega) (by omega) dX9_differs_341 (by decide) (fun c78 => ?_) (fun c78 => ?_)
                                        · refine lv_iconst (v := jI 0) hx hb dX9_differs_378 rfl ?_
                                          refine lv_istore (lv' := [(11, .int (jI 0)), (9, .long (jL (X21 75 0 ((5 * ((30 * sv) + r)) + k)))), (0, .ref (ad 40 0)), (1, .int (jI sv)), (2, .int (jI x)), (3, .int (jI nz)), (4, .int (jI r)), (5, .int (jI ((30 * sv) + r))), (6, .int (jI (120 + r))), (8, .int (jI k))]) hx hb dX9_differs_379 hl (by decide) rfl (fun ls hl => ?_)
                                          refine lv_iload hx hb dX9_differs_381 (lv_at hl 0 rfl) ?_
                                          refine x_if_eqT (tgt := 405) hx hb (by omega) (by decide) dX9_differs_383 (by decide) ?_
                                          refine lv_iinc (v := jI (k + 1)) (lv' := [(8, .int (jI (k + 1))), (11, .int (jI 0)), (9, .long (jL (X21 75 0 ((5 * ((30 * sv) + r)) + k)))), (0, .ref (ad 40 0)), (1, .int (jI sv)), (2, .int (jI x)), (3, .int (jI nz)), (4, .int (jI r)), (5, .int (jI ((30 * sv) + r))), (6, .int (jI (120 + r)))]) hx hb dX9_differs_405 hl (k := 9) rfl (jI_add _ _) (by decide) rfl (fun ls hl => ?_)
                                          refine lv_goto (tgt := 272) hx hb dX9_differs_408 (by decide) ?_
                                          exact ih272 (k + 1) _ _ _ (by omega) (by omega) (hsh) (fun f a b => if hf9 : f = k then (by rw [hf9]; exact (by (try delta Hid at *); first | exact ⟨by omega, fun a9 b9 => (by exfalso; omega)⟩ | exact ⟨by omega, fun a9 b9 => (by rcases hrdf with ⟨e9, h9⟩ | ⟨e9, h9⟩; exact h9; exfalso; omega)⟩)) else hvk f a (by omega)) hw hS (lv_sub hl [3, 4, 5, 6, 7, 8, 9, 0] rfl)
                                        · refine lv_lload hx hb dX9_differs_344 (lv_at hl 1 rfl) ?_
                                          refine lv_lconst (v := jL 0) hx hb dX9_differs_346 (by decide) ?_
                                          refine x_lcmp hx hb (by omega) (by omega) dX9_differs_347 ?_
                                          obtain ⟨z79, ez79⟩ : ∃ y : Int, y = cmpZ (X21 75 0 ((5 * ((30 * sv) + r)) + k)) 0 := ⟨_, rfl⟩
                                          rw [← ez79]
                                          have gz79 : (z79 < 0 ↔ ((X21 75 0 ((5 * ((30 * sv) + r)) + k)) : Int) < 0) ∧ (z79 = 0 ↔ ((X21 75 0 ((5 * ((30 * sv) + r)) + k)) : Int) = 0) ∧ -1 ≤ z79 ∧ z79 ≤ 1 := by rw [ez79]; exact ⟨cmpZ_lt, cmpZ_eq, (cmpZ_r _ _).1, (cmpZ_r _ _).2⟩
                                          clear ez79
                                          refine x_if_lt (tgt := 378) hx hb (by omega) dX9_differs_348 (by decide) (fun c80 => ?_) (fun c80 => ?_)
                                          · refine lv_iconst (v := jI 0) hx hb dX9_differs_378 rfl ?_
                                            refine lv_istore (lv' := [(11, .int (jI 0)), (9, .long (jL (X21 75 0 ((5 * ((30 * sv) + r)) + k)))), (0, .ref (ad 40 0)), (1, .int (jI sv)), (2, .int (jI x)), (3, .int (jI nz)), (4, .int (jI r)), (5, .int (jI ((30 * sv) + r))), (6, .int (jI (120 + r))), (8, .int (jI k))]) hx hb dX9_differs_379 hl (by decide) rfl (fun ls hl => ?_)
                                            refine lv_iload hx hb dX9_differs_381 (lv_at hl 0 rfl) ?_
                                            refine x_if_eqT (tgt := 405) hx hb (by omega) (by decide) dX9_differs_383 (by decide) ?_
                                            refine lv_iinc (v := jI (k + 1)) (lv' := [(8, .int (jI (k + 1))), (11, .int (jI 0)), (9, .long (jL (X21 75 0 ((5 * ((30 * sv) + r)) + k)))), (0, .ref (ad 40 0)), (1, .int (jI sv)), (2, .int (jI x)), (3, .int (jI nz)), (4, .int (jI r)), (5, .int (jI ((30 * sv) + r))), (6, .int (jI (120 + r)))]) hx hb dX9_differs_405 hl (k := 9) rfl (jI_add _ _) (by decide) rfl (fun ls hl => ?_)
                                            refine lv_goto (tgt := 272) hx hb dX9_differs_408 (by decide) ?_
                                            exact ih272 (k + 1) _ _ _ (by omega) (by omega) (hsh) (fun f a b => if hf9 : f = k then (by rw [hf9]; exact (by (try delta Hid at *); first | exact ⟨by omega, fun a9 b9 => (by exfalso; omega)⟩ | exact ⟨by omega, fun a9 b9 => (by rcases hrdf with ⟨e9, h9⟩ | ⟨e9, h9⟩; exact h9; exfalso; omega)⟩)) else hvk f a (by omega)) hw hS (lv_sub hl [3, 4, 5, 6, 7, 8, 9, 0] rfl)
                                          · refine lv_aload_n hx hb dX9_differs_351 rfl (lv_at hl 2 rfl) ?_
                                            refine lv_sipush (v := jI 150) hx hb dX9_differs_352 (by decide) ?_
                                            refine lv_iload_n hx hb dX9_differs_355 rfl (lv_at hl 3 rfl) ?_
                                            refine x_imul hx hb dX9_differs_356 ?_
                                            refine lv_lload hx hb dX9_differs_357 (lv_at hl 1 rfl) ?_
                                            refine x_l2i hx hb dX9_differs_359 ?_
                                            refine x_iadd hx hb dX9_differs_360 ?_
                                            refine lv_sipush (v := jI 600) hx hb dX9_differs_361 (by decide) ?_
                                            refine lv_lload hx hb dX9_differs_364 (lv_at hl 1 rfl) ?_
                                            refine x_l2i hx hb dX9_differs_366 ?_
                                            refine x_iadd hx hb dX9_differs_367 ?_
                                            refine gos_i (run_V (As := [.int (jI ((150 * sv) + (X21 75 0 ((5 * ((30 * sv) + r)) + k)))), .int (jI (600 + (X21 75 0 ((5 * ((30 * sv) + r)) + k))))]) (rest := []) hx hb hml hown hts (c_X9_rowsDiffer l D tc base ad cnt X21 Y ln hRX21 hFx hMIX21 ((150 * sv) + (X21 75 0 ((5 * ((30 * sv) + r)) + k))) (600 + (X21 75 0 ((5 * ((30 * sv) + r)) + k))) (by omega) (by omega)) (cwV 2 hts gX9_differs_X9_rowsDiffer rfl rfl rfl (by decide +kernel) ⟨Nat.le_of_ble_eq_true rfl, Nat.le_of_ble_eq_true rfl⟩) hK hw (by omega) (by omega) sl_40_0 rfl rfl hl.1 rfl (Nat.le_of_ble_eq_true rfl) dX9_differs_368 ⟨Nat.le_of_ble_eq_true rfl, Nat.le_of_ble_eq_true rfl⟩) hS (fun z81 u82 H locs p83 hw hS => ?_)
                                            obtain ⟨eu82, p83, hrdf⟩ := p83
                                            subst eu82
                                            refine x_if_eq (tgt := 378) hx hb (by omega) dX9_differs_371 (by decide) (fun c84 => ?_) (fun c84 => ?_)
                                            · refine lv_iconst (v := jI 0) hx hb dX9_differs_378 rfl ?_
                                              refine lv_istore (lv' := [(11, .int (jI 0)), (9, .long (jL (X21 75 0 ((5 * ((30 * sv) + r)) + k)))), (0, .ref (ad 40 0)), (1, .int (jI sv)), (2, .int (jI x)), (3, .int (jI nz)), (4, .int (jI r)), (5, .int (jI ((30 * sv) + r))), (6, .int (jI (120 + r))), (8, .int (jI k))]) hx hb dX9_differs_379 hl (by decide) rfl (fun ls hl => ?_)
                                              refine lv_iload hx hb dX9_differs_381 (lv_at hl 0 rfl) ?_
                                              refine x_if_eqT (tgt := 405) hx hb (by omega) (by decide) dX9_differs_383 (by decide) ?_
                                              refine lv_iinc (v := jI (k + 1)) (lv' := [(8, .int (jI (k + 1))), (11, .int (jI 0)), (9, .long (jL (X21 75 0 ((5 * ((30 * sv) + r)) + k)))), (0, .ref (ad 40 0)), (1, .int (jI sv)), (2, .int (jI x)), (3, .int (jI nz)), (4, .int (jI r)), (5, .int (jI ((30 * sv) + r))), (6, .int (jI (120 + r)))]) hx hb dX9_differs_405 hl (k := 9) rfl (jI_add _ _) (by decide) rfl (fun ls hl => ?_)
                                              refine lv_goto (tgt := 272) hx hb dX9_differs_408 (by decide) ?_
                                              exact ih272 (k + 1) _ _ _ (by omega) (by omega) (hsh) (fun f a b => if hf9 : f = k then (by rw [hf9]; exact (by (try delta Hid at *); first | exact ⟨by omega, fun a9 b9 => (by exfalso; omega)⟩ | exact ⟨by omega, fun a9 b9 => (by rcases hrdf with ⟨e9, h9⟩ | ⟨e9, h9⟩; exact h9; exfalso; omega)⟩)) else hvk f a (by omega)) hw hS (lv_sub hl [3, 4, 5, 6, 7, 8, 9, 0] rfl)
                                            · refine lv_iconst (v := jI 1) hx hb dX9_differs_374 rfl ?_
                                              refine lv_goto (tgt := 379) hx hb dX9_differs_375 (by decide) ?_
                                              refine lv_istore (lv' := [(11, .int (jI 1)), (9, .long (jL (X21 75 0 ((5 * ((30 * sv) + r)) + k)))), (0, .ref (ad 40 0)), (1, .int (jI sv)), (2, .int (jI x)), (3, .int (jI nz)), (4, .int (jI r)), (5, .int (jI ((30 * sv) + r))), (6, .int (jI (120 + r))), (8, .int (jI k))]) hx hb dX9_differs_379 hl (by decide) rfl (fun ls hl => ?_)
                                              refine lv_iload hx hb dX9_differs_381 (lv_at hl 0 rfl) ?_
                                              refine x_if_eqF (tgt := 405) hx hb (by omega) (by decide) dX9_differs_383 (by decide) ?_
                                              refine lv_bipush (v := jI 100) hx hb dX9_differs_386 (by decide) ?_
                                              refine lv_iload hx hb dX9_differs_388 (lv_at hl 6 rfl) ?_
                                              refine x_imul hx hb dX9_differs_390 ?_
                                              refine lv_aload_n hx hb dX9_differs_391 rfl (lv_at hl 2 rfl) ?_
                                              refine x_geto hx hb hf9 hw (by omega) (by omega) sl_40_32 lk90 dX9_differs_392 ?_
                                              refine lv_iconst (v := jI 5) hx hb dX9_differs_395 rfl ?_
                                              refine lv_iload hx hb dX9_differs_396 (lv_at hl 7 rfl) ?_
                                              refine x_imul hx hb dX9_differs_398 ?_
                                              refine lv_iload hx hb dX9_differs_399 (lv_at hl 9 rfl) ?_
                                              refine x_iadd hx hb dX9_differs_401 ?_
                                              refine x_iald hx hb hK.1 hw (by omega) (by omega) ar_73 (len_E ar_73 (by decide)) (by omega) (by omega) (by omega) dX9_differs_402 ?_
                                              have f85 : 0 ≤ X21 73 0 ((5 * ((30 * sv) + r)) + k) ∧ X21 73 0 ((5 * ((30 * sv) + r)) + k) ≤ 19 := hRX21 73 0 ((5 * ((30 * sv) + r)) + k)
                                              refine x_iadd hx hb dX9_differs_403 ?_
                                              refine ret_i (mc := 0) (ms := 0) hx hb hr hlocks hw hS (by omega) (by omega) dX9_differs_404 ?_
                                              have q86 : Frm [4001] X X1 := by rw [hX1]; exact Frm.set Frm.rf (show 4001 ∈ [4001] by decide)
                                              have hrd87 := rdr_eq (L := [4001]) q86 (by decide)
                                              have hsx88 := hsvX21
                                              rw [hrd87.1, hrd87.2.1, hrd87.2.2, Frm.arr q86 48 (by decide +kernel) (by decide), Frm.arr q86 55 (by decide +kernel) (by decide)] at hsx88
                                              exact ⟨X21, rfl, hRX21, hFX21, hMIX21, by omega, S4.tr (S4.frm q86 (by decide)) h4X21, S5.tr (S5.frm q86 (by decide)) h5X21, Or.inr ⟨(by (try delta Hid at *); omega), (by rcases hsx88 with ⟨-, q, -⟩ | ⟨-, -, q⟩; exact absurd q (by decide); exact q), Or.inr ⟨r, by omega, by omega, hall, Or.inr ⟨hsh, k, by omega, by omega, hvk, (fun q => by (try delta Hid at *); first | (have q1 := q.1; omega) | exact absurd (q.2 (by omega) (by omega)) (by assumption) | (rcases hrdf with ⟨e9, h9⟩ | ⟨e9, h9⟩; omega; exact h9 (q.2 (by omega) (by omega)))), by omega⟩⟩⟩⟩
                                      · refine lv_iconst (v := jI 1) hx hb dX9_differs_316 rfl ?_
                                        refine lv_goto (tgt := 321) hx hb dX9_differs_317 (by decide) ?_
                                        refine lv_istore (lv' := [(11, .int (jI 1)), (9, .long (jL (X21 75 0 ((5 * ((30 * sv) + r)) + k)))), (0, .ref (ad 40 0)), (1, .int (jI sv)), (2, .int (jI x)), (3, .int (jI nz)), (4, .int (jI r)), (5, .int (jI ((30 * sv) + r))), (6, .int (jI (120 + r))), (8, .int (jI k))]) hx hb dX9_differs_321 hl (by decide) rfl (fun ls hl => ?_)
                                        refine lv_iload hx hb dX9_differs_323 (lv_at hl 0 rfl) ?_
                                        refine x_if_neT (tgt := 374) hx hb (by omega) (by decide) dX9_differs_325 (by decide) ?_
                                        refine lv_iconst (v := jI 1) hx hb dX9_differs_374 rfl ?_
                                        refine lv_goto (tgt := 379) hx hb dX9_differs_375 (by decide) ?_
                                        refine lv_istore (lv' := [(11, .int (jI 1)), (9, .long (jL (X21 75 0 ((5 * ((30 * sv) + r)) + k)))), (0, .ref (ad 40 0)), (1, .int (jI sv)), (2, .int (jI x)), (3, .int (jI nz)), (4, .int (jI r)), (5, .int (jI ((30 * sv) + r))), (6, .int (jI (120 + r))), (8, .int (jI k))]) hx hb dX9_differs_379 hl (by decide) rfl (fun ls hl => ?_)
                                        refine lv_iload hx hb dX9_differs_381 (lv_at hl 0 rfl) ?_
                                        refine x_if_eqF (tgt := 405) hx hb (by omega) (by decide) dX9_differs_383 (by decide) ?_
                                        refine lv_bipush (v := jI 100) hx hb dX9_differs_386 (by decide) ?_
                                        refine lv_iload hx hb dX9_differs_388 (lv_at hl 6 rfl) ?_
                                        refine x_imul hx hb dX9_differs_390 ?_
                                        refine lv_aload_n hx hb dX9_differs_391 rfl (lv_at hl 2 rfl) ?_
                                        refine x_geto hx hb hf9 hw (by omega) (by omega) sl_40_32 lk90 dX9_differs_392 ?_
                                        refine lv_iconst (v := jI 5) hx hb dX9_differs_395 rfl ?_
                                        refine lv_iload hx hb dX9_differs_396 (lv_at hl 7 rfl) ?_
                                        refine x_imul hx hb dX9_differs_398 ?_
                                        refine lv_iload hx hb dX9_differs_399 (lv_at hl 9 rfl) ?_
                                        refine x_iadd hx hb dX9_differs_401 ?_
                                        refine x_iald hx hb hK.1 hw (by omega) (by omega) ar_73 (len_E ar_73 (by decide)) (by omega) (by omega) (by omega) dX9_differs_402 ?_
                                        have f89 : 0 ≤ X21 73 0 ((5 * ((30 * sv) + r)) + k) ∧ X21 73 0 ((5 * ((30 * sv) + r)) + k) ≤ 19 := hRX21 73 0 ((5 * ((30 * sv) + r)) + k)
                                        refine x_iadd hx hb dX9_differs_403 ?_
                                        refine ret_i (mc := 0) (ms := 0) hx hb hr hlocks hw hS (by omega) (by omega) dX9_differs_404 ?_
                                        have q90 : Frm [4001] X X1 := by rw [hX1]; exact Frm.set Frm.rf (show 4001 ∈ [4001] by decide)
                                        have hrd91 := rdr_eq (L := [4001]) q90 (by decide)
                                        have hsx92 := hsvX21
                                        rw [hrd91.1, hrd91.2.1, hrd91.2.2, Frm.arr q90 48 (by decide +kernel) (by decide), Frm.arr q90 55 (by decide +kernel) (by decide)] at hsx92
                                        exact ⟨X21, rfl, hRX21, hFX21, hMIX21, by omega, S4.tr (S4.frm q90 (by decide)) h4X21, S5.tr (S5.frm q90 (by decide)) h5X21, Or.inr ⟨(by (try delta Hid at *); omega), (by rcases hsx92 with ⟨-, q, -⟩ | ⟨-, -, q⟩; exact absurd q (by decide); exact q), Or.inr ⟨r, by omega, by omega, hall, Or.inr ⟨hsh, k, by omega, by omega, hvk, (fun q => by (try delta Hid at *); first | (have q1 := q.1; omega) | exact absurd (q.2 (by omega) (by omega)) (by assumption) | (rcases hrdf with ⟨e9, h9⟩ | ⟨e9, h9⟩; omega; exact h9 (q.2 (by omega) (by omega)))), by omega⟩⟩⟩⟩
                                exact lp272 (5 - 0 : Int).toNat.succ 0 _ _ _ (by omega) (by omega) ((by obtain ⟨q1, q2, q3⟩ := hsm1 (by omega); exact ⟨by omega, by omega, q1, q2, fun j a b => q3 j a (by omega)⟩)) (fun f a b => by omega) hw hS (lv_sub hl [1, 2, 3, 4, 5, 6, 7, 0] rfl)
                              · refine lv_bipush (v := jI 100) hx hb dX9_differs_260 (by decide) ?_
                                refine lv_iload hx hb dX9_differs_262 (lv_at hl 4 rfl) ?_
                                refine x_imul hx hb dX9_differs_264 ?_
                                refine lv_bipush (v := jI 99) hx hb dX9_differs_265 (by decide) ?_
                                refine x_iadd hx hb dX9_differs_267 ?_
                                refine ret_i (mc := 0) (ms := 0) hx hb hr hlocks hw hS (by omega) (by omega) dX9_differs_268 ?_
                                have q93 : Frm [4001] X X1 := by rw [hX1]; exact Frm.set Frm.rf (show 4001 ∈ [4001] by decide)
                                have hrd94 := rdr_eq (L := [4001]) q93 (by decide)
                                have hsx95 := hsvX21
                                rw [hrd94.1, hrd94.2.1, hrd94.2.2, Frm.arr q93 48 (by decide +kernel) (by decide), Frm.arr q93 55 (by decide +kernel) (by decide)] at hsx95
                                exact ⟨X21, rfl, hRX21, hFX21, hMIX21, by omega, S4.tr (S4.frm q93 (by decide)) h4X21, S5.tr (S5.frm q93 (by decide)) h5X21, Or.inr ⟨(by (try delta Hid at *); omega), (by rcases hsx95 with ⟨-, q, -⟩ | ⟨-, -, q⟩; exact absurd q (by decide); exact q), Or.inr ⟨r, by omega, by omega, hall, Or.inl ⟨hsm0 (by omega), by omega⟩⟩⟩⟩
                            · refine lv_aload_n hx hb dX9_differs_188 rfl (lv_at hl 0 rfl) ?_
                              refine x_geto hx hb hf9 hw (by omega) (by omega) sl_40_32 lk90 dX9_differs_189 ?_
                              refine lv_iconst (v := jI 5) hx hb dX9_differs_192 rfl ?_
                              refine lv_iload hx hb dX9_differs_193 (lv_at hl 5 rfl) ?_
                              refine x_imul hx hb dX9_differs_195 ?_
                              refine lv_iload hx hb dX9_differs_196 (lv_at hl 8 rfl) ?_
                              refine x_iadd hx hb dX9_differs_198 ?_
                              refine x_iald hx hb hK.1 hw (by omega) (by omega) ar_73 (len_E ar_73 (by decide)) (by omega) (by omega) (by omega) dX9_differs_199 ?_
                              have f96 : 0 ≤ X21 73 0 ((5 * ((30 * sv) + r)) + k) ∧ X21 73 0 ((5 * ((30 * sv) + r)) + k) ≤ 19 := hRX21 73 0 ((5 * ((30 * sv) + r)) + k)
                              refine lv_aload_n hx hb dX9_differs_200 rfl (lv_at hl 0 rfl) ?_
                              refine x_geto hx hb hf9 hw (by omega) (by omega) sl_40_32 lk90 dX9_differs_201 ?_
                              refine lv_iconst (v := jI 5) hx hb dX9_differs_204 rfl ?_
                              refine lv_iload hx hb dX9_differs_205 (lv_at hl 6 rfl) ?_
                              refine x_imul hx hb dX9_differs_207 ?_
                              refine lv_iload hx hb dX9_differs_208 (lv_at hl 8 rfl) ?_
                              refine x_iadd hx hb dX9_differs_210 ?_
                              refine x_iald hx hb hK.1 hw (by omega) (by omega) ar_73 (len_E ar_73 (by decide)) (by omega) (by omega) (by omega) dX9_differs_211 ?_
                              have f97 : 0 ≤ X21 73 0 ((5 * (120 + r)) + k) ∧ X21 73 0 ((5 * (120 + r)) + k) ≤ 19 := hRX21 73 0 ((5 * (120 + r)) + k)
                              refine x_icmp_ne (tgt := 246) hx hb (by omega) (by omega) dX9_differs_212 (by decide) (fun c98 => ?_) (fun c98 => ?_)
                              · refine lv_iconst (v := jI 0) hx hb dX9_differs_246 rfl ?_
                                refine lv_istore (lv' := [(7, .int (jI 0)), (0, .ref (ad 40 0)), (1, .int (jI sv)), (2, .int (jI x)), (3, .int (jI nz)), (4, .int (jI r)), (5, .int (jI ((30 * sv) + r))), (6, .int (jI (120 + r))), (8, .int (jI k))]) hx hb dX9_differs_247 hl (by decide) rfl (fun ls hl => ?_)
                                refine lv_iinc (v := jI (k + 1)) (lv' := [(8, .int (jI (k + 1))), (7, .int (jI 0)), (0, .ref (ad 40 0)), (1, .int (jI sv)), (2, .int (jI x)), (3, .int (jI nz)), (4, .int (jI r)), (5, .int (jI ((30 * sv) + r))), (6, .int (jI (120 + r)))]) hx hb dX9_differs_249 hl (k := 8) rfl (jI_add _ _) (by decide) rfl (fun ls hl => ?_)
                                refine lv_goto (tgt := 171) hx hb dX9_differs_252 (by decide) ?_
                                exact ih171 0 (k + 1) _ _ _ (by omega) (by omega) (by omega) (fun q => (by obtain ⟨q1, q2, q3⟩ := hsm1 (by omega); exact ⟨q1, q2, fun j a b => if hj : j = k then (by rw [hj]; exact ⟨by omega, by omega⟩) else q3 j a (by omega)⟩)) (fun q e => (by have h9 := e.2.2.2.2 k (by omega) (by omega); omega)) hw hS (lv_sub hl [2, 3, 4, 5, 6, 7, 8, 1, 0] rfl)
                              · refine lv_aload_n hx hb dX9_differs_215 rfl (lv_at hl 0 rfl) ?_
                                refine x_geto hx hb hf9 hw (by omega) (by omega) sl_40_33 lk93 dX9_differs_216 ?_
                                refine lv_iconst (v := jI 5) hx hb dX9_differs_219 rfl ?_
                                refine lv_iload hx hb dX9_differs_220 (lv_at hl 5 rfl) ?_
                                refine x_imul hx hb dX9_differs_222 ?_
                                refine lv_iload hx hb dX9_differs_223 (lv_at hl 8 rfl) ?_
                                refine x_iadd hx hb dX9_differs_225 ?_
                                refine x_iald hx hb hK.1 hw (by omega) (by omega) ar_74 (len_E ar_74 (by decide)) (by omega) (by omega) (by omega) dX9_differs_226 ?_
                                have f99 : 0 ≤ X21 74 0 ((5 * ((30 * sv) + r)) + k) ∧ X21 74 0 ((5 * ((30 * sv) + r)) + k) ≤ 5 := hRX21 74 0 ((5 * ((30 * sv) + r)) + k)
                                refine lv_aload_n hx hb dX9_differs_227 rfl (lv_at hl 0 rfl) ?_
                                refine x_geto hx hb hf9 hw (by omega) (by omega) sl_40_33 lk93 dX9_differs_228 ?_
                                refine lv_iconst (v := jI 5) hx hb dX9_differs_231 rfl ?_
                                refine lv_iload hx hb dX9_differs_232 (lv_at hl 6 rfl) ?_
                                refine x_imul hx hb dX9_differs_234 ?_
                                refine lv_iload hx hb dX9_differs_235 (lv_at hl 8 rfl) ?_
                                refine x_iadd hx hb dX9_differs_237 ?_
                                refine x_iald hx hb hK.1 hw (by omega) (by omega) ar_74 (len_E ar_74 (by decide)) (by omega) (by omega) (by omega) dX9_differs_238 ?_
                                have f100 : 0 ≤ X21 74 0 ((5 * (120 + r)) + k) ∧ X21 74 0 ((5 * (120 + r)) + k) ≤ 5 := hRX21 74 0 ((5 * (120 + r)) + k)
                                refine x_icmp_ne (tgt := 246) hx hb (by omega) (by omega) dX9_differs_239 (by decide) (fun c101 => ?_) (fun c101 => ?_)
                                · refine lv_iconst (v := jI 0) hx hb dX9_differs_246 rfl ?_
                                  refine lv_istore (lv' := [(7, .int (jI 0)), (0, .ref (ad 40 0)), (1, .int (jI sv)), (2, .int (jI x)), (3, .int (jI nz)), (4, .int (jI r)), (5, .int (jI ((30 * sv) + r))), (6, .int (jI (120 + r))), (8, .int (jI k))]) hx hb dX9_differs_247 hl (by decide) rfl (fun ls hl => ?_)
                                  refine lv_iinc (v := jI (k + 1)) (lv' := [(8, .int (jI (k + 1))), (7, .int (jI 0)), (0, .ref (ad 40 0)), (1, .int (jI sv)), (2, .int (jI x)), (3, .int (jI nz)), (4, .int (jI r)), (5, .int (jI ((30 * sv) + r))), (6, .int (jI (120 + r)))]) hx hb dX9_differs_249 hl (k := 8) rfl (jI_add _ _) (by decide) rfl (fun ls hl => ?_)
                                  refine lv_goto (tgt := 171) hx hb dX9_differs_252 (by decide) ?_
                                  exact ih171 0 (k + 1) _ _ _ (by omega) (by omega) (by omega) (fun q => (by obtain ⟨q1, q2, q3⟩ := hsm1 (by omega); exact ⟨q1, q2, fun j a b => if hj : j = k then (by rw [hj]; exact ⟨by omega, by omega⟩) else q3 j a (by omega)⟩)) (fun q e => (by have h9 := e.2.2.2.2 k (by omega) (by omega); omega)) hw hS (lv_sub hl [2, 3, 4, 5, 6, 7, 8, 1, 0] rfl)
                                · refine lv_iconst (v := jI 1) hx hb dX9_differs_242 rfl ?_
                                  refine lv_goto (tgt := 247) hx hb dX9_differs_243 (by decide) ?_
                                  refine lv_istore (lv' := [(7, .int (jI 1)), (0, .ref (ad 40 0)), (1, .int (jI sv)), (2, .int (jI x)), (3, .int (jI nz)), (4, .int (jI r)), (5, .int (jI ((30 * sv) + r))), (6, .int (jI (120 + r))), (8, .int (jI k))]) hx hb dX9_differs_247 hl (by decide) rfl (fun ls hl => ?_)
                                  refine lv_iinc (v := jI (k + 1)) (lv' := [(8, .int (jI (k + 1))), (7, .int (jI 1)), (0, .ref (ad 40 0)), (1, .int (jI sv)), (2, .int (jI x)), (3, .int (jI nz)), (4, .int (jI r)), (5, .int (jI ((30 * sv) + r))), (6, .int (jI (120 + r)))]) hx hb dX9_differs_249 hl (k := 8) rfl (jI_add _ _) (by decide) rfl (fun ls hl => ?_)
                                  refine lv_goto (tgt := 171) hx hb dX9_differs_252 (by decide) ?_
                                  exact ih171 1 (k + 1) _ _ _ (by omega) (by omega) (by omega) (fun q => (by obtain ⟨q1, q2, q3⟩ := hsm1 (by omega); exact ⟨q1, q2, fun j a b => if hj : j = k then (by rw [hj]; exact ⟨by omega, by omega⟩) else q3 j a (by omega)⟩)) (fun q e => (by have h9 := e.2.2.2.2 k (by omega) (by omega); omega)) hw hS (lv_sub hl [2, 3, 4, 5, 6, 7, 8, 1, 0] rfl)
                      exact lp171 (5 - 0 : Int).toNat.succ 0 0 _ _ _ (by omega) (by omega) (by omega) (fun q => ⟨by omega, by omega, fun j a b => by omega⟩) (fun q e => by obtain ⟨q1, q2, q3, q4, -⟩ := e; omega) hw hS (lv_sub hl [4, 5, 6, 7, 8, 3, 2, 1, 0] rfl)
                    · refine lv_aload_n hx hb dX9_differs_144 rfl (lv_at hl 2 rfl) ?_
                      refine x_geto hx hb hf9 hw (by omega) (by omega) sl_40_31 lk87 dX9_differs_145 ?_
                      refine lv_iload hx hb dX9_differs_148 (lv_at hl 1 rfl) ?_
                      refine x_iald hx hb hK.1 hw (by omega) (by omega) ar_72 (len_E ar_72 (by decide)) (by omega) (by omega) (by omega) dX9_differs_150 ?_
                      have f102 : 0 ≤ X21 72 0 ((30 * sv) + r) ∧ X21 72 0 ((30 * sv) + r) ≤ 5 := hRX21 72 0 ((30 * sv) + r)
                      refine lv_aload_n hx hb dX9_differs_151 rfl (lv_at hl 2 rfl) ?_
                      refine x_geto hx hb hf9 hw (by omega) (by omega) sl_40_31 lk87 dX9_differs_152 ?_
                      refine lv_iload hx hb dX9_differs_155 (lv_at hl 0 rfl) ?_
                      refine x_iald hx hb hK.1 hw (by omega) (by omega) ar_72 (len_E ar_72 (by decide)) (by omega) (by omega) (by omega) dX9_differs_157 ?_
                      have f103 : 0 ≤ X21 72 0 (120 + r) ∧ X21 72 0 (120 + r) ≤ 5 := hRX21 72 0 (120 + r)
                      refine x_icmp_ne (tgt := 165) hx hb (by omega) (by omega) dX9_differs_158 (by decide) (fun c104 => ?_) (fun c104 => ?_)
                      · refine lv_iconst (v := jI 0) hx hb dX9_differs_165 rfl ?_
                        refine lv_istore (lv' := [(7, .int (jI 0)), (6, .int (jI (120 + r))), (5, .int (jI ((30 * sv) + r))), (0, .ref (ad 40 0)), (1, .int (jI sv)), (2, .int (jI x)), (3, .int (jI nz)), (4, .int (jI r))]) hx hb dX9_differs_166 hl (by decide) rfl (fun ls hl => ?_)
                        refine lv_iconst (v := jI 0) hx hb dX9_differs_168 rfl ?_
                        refine lv_istore (lv' := [(8, .int (jI 0)), (7, .int (jI 0)), (6, .int (jI (120 + r))), (5, .int (jI ((30 * sv) + r))), (0, .ref (ad 40 0)), (1, .int (jI sv)), (2, .int (jI x)), (3, .int (jI nz)), (4, .int (jI r))]) hx hb dX9_differs_169 hl (by decide) rfl (fun ls hl => ?_)
                        have lp171 : ∀ (nn : Nat) (sm : Int) (k : Int) (H : Heap) (locs : List Loc) (ls : Array Slot), (5 - k) < (nn : Int) → (0 ≤ sm ∧ sm ≤ 1) → (0 ≤ k ∧ k ≤ 5) → (sm = 1 → X21 71 0 (30 * sv + r) = X21 71 0 (120 + r) ∧ X21 72 0 (30 * sv + r) = X21 72 0 (120 + r) ∧ ∀ j, 0 ≤ j → j < k → X21 73 0 (5 * (30 * sv + r) + j) = X21 73 0 (5 * (120 + r) + j) ∧ X21 74 0 (5 * (30 * sv + r) + j) = X21 74 0 (5 * (120 + r) + j)) → (sm = 0 → ¬ shM X21 sv r) → wd D tc base (ad, cnt, X21, Y, ln) H → va_S (frA base) s.heap H locs → lv_has ls 12 [(0, .ref (ad 40 0)), (1, .int (jI sv)), (2, .int (jI x)), (3, .int (jI nz)), (4, .int (jI r)), (5, .int (jI ((30 * sv) + r))), (6, .int (jI (120 + r))), (7, .int (jI sm)), (8, .int (jI k))] → W p l e ({ frames := 2, cells := 0, slots := 0, locals := 53 } : Room) s m ([.ref (ad 40 0), .int (jI sv), .int (jI x)] : List Value).toArray below meth c H locs 0 0 (MQ below (QI D tc base (fun z u => ∃ X1 : Nat → Int → Int → Int, u = (ad, cnt, X1, Y, ln) ∧ Rng X1 ∧ Frm [4001, 7100, 7200, 7300, 7400, 7500, 8000, 7000, 8100, 7700, 7800, 7900, 7600, 4042, 4043, 4044] X X1 ∧ MInv X1 ∧ (-2147483648 ≤ z ∧ z ≤ 2147483647) ∧ S4 X X1 ∧ S5 X X1 ∧ ((¬ ((0 ≤ sv ∧ sv < 4) ∧ X 70 0 sv ≠ 0 ∧ (0 ≤ x ∧ x < X 40 0 13)) ∧ z = -2) ∨ (((0 ≤ sv ∧ sv < 4) ∧ X 70 0 sv ≠ 0 ∧ (0 ≤ x ∧ x < X 40 0 13)) ∧ (rmT X1 (recR (fcM X) (lnM X) (mRid X) (mRid X) x 30) ∧ rmR X1 (recR (fcM X) (lnM X) (mRid X) (mRid X) x 30) ∧ rmV X1 (recR (fcM X) (lnM X) (mRid X) (mRid X) x 30) (recR (fcM X) (lnM X) (mRid X) (mRid X) x 30 0 0) 0) ∧ dfP (mxM X1 sv) (shM X1 sv) (fun r => X1 72 0 (30 * sv + r)) (vqM X1 sv) (fun r f => X1 73 0 (5 * (30 * sv + r) + f)) z)))) ([.ref (ad 40 0), .int (jI sv), .int (jI x)] : List Value).toArray s 0 0 (frA base)) (F0 m 171 ls []) := by
                          intro nn
                          induction nn with
                          | zero => intro sm k H locs ls hm hsm hk hsm1 hsm0 hw hS hl; exfalso; omega
                          | succ nn ih171 =>
                            intro sm k H locs ls hm hsm hk hsm1 hsm0 hw hS hl
                            skip
                            refine lv_iload hx hb dX9_differs_171 (lv_at hl 7 rfl) ?_
                            refine x_if_eq (tgt := 255) hx hb (by omega) dX9_differs_173 (by decide) (fun c105 => ?_) (fun c105 => ?_)
                            · refine lv_iload hx hb dX9_differs_255 (lv_at hl 7 rfl) ?_
                              refine x_if_ne (tgt := 269) hx hb (by omega) dX9_differs_257 (by decide) (fun c106 => ?_) (fun c106 => ?_)
                              · refine lv_iconst (v := jI 0) hx hb dX9_differs_269 rfl ?_
                                refine lv_istore (lv' := [(8, .int (jI 0)), (0, .ref (ad 40 0)), (1, .int (jI sv)), (2, .int (jI x)), (3, .int (jI nz)), (4, .int (jI r)), (5, .int (jI ((30 * sv) + r))), (6, .int (jI (120 + r))), (7, .int (jI sm))]) hx hb dX9_differs_270 hl (by decide) rfl (fun ls hl => ?_)
                                have lp272 : ∀ (nn : Nat) (k : Int) (H : Heap) (locs : List Loc) (ls : Array Slot), (5 - k) < (nn : Int) → (0 ≤ k ∧ k ≤ 5) → (shM X21 sv r) → (∀ f, 0 ≤ f → f < k → vqM X21 sv r f) → wd D tc base (ad, cnt, X21, Y, ln) H → va_S (frA base) s.heap H locs → lv_has ls 12 [(0, .ref (ad 40 0)), (1, .int (jI sv)), (2, .int (jI x)), (3, .int (jI nz)), (4, .int (jI r)), (5, .int (jI ((30 * sv) + r))), (6, .int (jI (120 + r))), (8, .int (jI k))] → W p l e ({ frames := 2, cells := 0, slots := 0, locals := 53 } : Room) s m ([.ref (ad 40 0), .int (jI sv), .int (jI x)] : List Value).toArray below meth c H locs 0 0 (MQ below (QI D tc base (fun z u => ∃ X1 : Nat → Int → Int → Int, u = (ad, cnt, X1, Y, ln) ∧ Rng X1 ∧ Frm [4001, 7100, 7200, 7300, 7400, 7500, 8000, 7000, 8100, 7700, 7800, 7900, 7600, 4042, 4043, 4044] X X1 ∧ MInv X1 ∧ (-2147483648 ≤ z ∧ z ≤ 2147483647) ∧ S4 X X1 ∧ S5 X X1 ∧ ((¬ ((0 ≤ sv ∧ sv < 4) ∧ X 70 0 sv ≠ 0 ∧ (0 ≤ x ∧ x < X 40 0 13)) ∧ z = -2) ∨ (((0 ≤ sv ∧ sv < 4) ∧ X 70 0 sv ≠ 0 ∧ (0 ≤ x ∧ x < X 40 0 13)) ∧ (rmT X1 (recR (fcM X) (lnM X) (mRid X) (mRid X) x 30) ∧ rmR X1 (recR (fcM X) (lnM X) (mRid X) (mRid X) x 30) ∧ rmV X1 (recR (fcM X) (lnM X) (mRid X) (mRid X) x 30) (recR (fcM X) (lnM X) (mRid X) (mRid X) x 30 0 0) 0) ∧ dfP (mxM X1 sv) (shM X1 sv) (fun r => X1 72 0 (30 * sv + r)) (vqM X1 sv) (fun r f => X1 73 0 (5 * (30 * sv + r) + f)) z)))) ([.ref (ad 40 0), .int (jI sv), .int (jI x)] : List Value).toArray s 0 0 (frA base)) (F0 m 272 ls []) := by
                                  intro nn
                                  induction nn with
                                  | zero => intro k H locs ls hm hk hsh hvk hw hS hl; exfalso; omega
                                  | succ nn ih272 =>
                                    intro k H locs ls hm hk hsh hvk hw hS hl
                                    refine lv_iload hx hb dX9_differs_272 (lv_at hl 7 rfl) ?_
                                    refine lv_aload_n hx hb dX9_differs_274 rfl (lv_at hl 0 rfl) ?_
                                    refine x_geto hx hb hf9 hw (by omega) (by omega) sl_40_31 lk87 dX9_differs_275 ?_
                                    refine lv_iload hx hb dX9_differs_278 (lv_at hl 5 rfl) ?_
                                    refine x_iald hx hb hK.1 hw (by omega) (by omega) ar_72 (len_E ar_72 (by decide)) (by omega) (by omega) (by omega) dX9_differs_280 ?_
                                    have f107 : 0 ≤ X21 72 0 ((30 * sv) + r) ∧ X21 72 0 ((30 * sv) + r) ≤ 5 := hRX21 72 0 ((30 * sv) + r)
                                    refine x_icmp_ge (tgt := 411) hx hb (by omega) (by omega) dX9_differs_281 (by decide) (fun c108 => ?_) (fun c108 => ?_)
                                    · refine lv_iinc (v := jI (r + 1)) (lv' := [(4, .int (jI (r + 1))), (0, .ref (ad 40 0)), (1, .int (jI sv)), (2, .int (jI x)), (3, .int (jI nz)), (5, .int (jI ((30 * sv) + r))), (6, .int (jI (120 + r))), (8, .int (jI k))]) hx hb dX9_differs_411 hl (k := 4) rfl (jI_add _ _) (by decide) rfl (fun ls hl => ?_)
                                      refine lv_goto (tgt := 74) hx hb dX9_differs_414 (by decide) ?_
                                      exact ih74 nz (r + 1) _ _ _ (by omega) (by omega) (by omega) (hnzv) (fun r' a b => if hr9 : r' = r then (by rw [hr9]; exact ⟨hsh, fun f f0 f1 => hvk f f0 (by omega)⟩) else hall r' a (by omega)) hw hS (lv_sub hl [1, 2, 3, 4, 0] rfl)
                                    · refine lv_aload_n hx hb dX9_differs_284 rfl (lv_at hl 0 rfl) ?_
                                      refine x_geto hx hb hf9 hw (by omega) (by omega) sl_40_34 lk96 dX9_differs_285 ?_
                                      refine lv_iconst (v := jI 5) hx hb dX9_differs_288 rfl ?_
                                      refine lv_iload hx hb dX9_differs_289 (lv_at hl 5 rfl) ?_
                                      refine x_imul hx hb dX9_differs_291 ?_
                                      refine lv_iload hx hb dX9_differs_292 (lv_at hl 7 rfl) ?_
                                      refine x_iadd hx hb dX9_differs_294 ?_
                                      obtain ⟨hv1, hv2, hv3⟩ := (hMIX21.2.2.1 sv r (by omega) (by omega) (by omega) (by omega)).2 k (by omega) (by omega)
                                      refine x_lald hx hb hK.1 hw (by omega) (by omega) ar_75 (len_E ar_75 (by decide)) (by omega) (by omega) (by omega) dX9_differs_295 ?_
                                      have f109 : (-9223372036854775808) ≤ X21 75 0 ((5 * ((30 * sv) + r)) + k) ∧ X21 75 0 ((5 * ((30 * sv) + r)) + k) ≤ 9223372036854775807 := hRX21 75 0 ((5 * ((30 * sv) + r)) + k)
                                      refine lv_lstore (lv' := [(9, .long (jL (X21 75 0 ((5 * ((30 * sv) + r)) + k)))), (0, .ref (ad 40 0)), (1, .int (jI sv)), (2, .int (jI x)), (3, .int (jI nz)), (4, .int (jI r)), (5, .int (jI ((30 * sv) + r))), (6, .int (jI (120 + r))), (8, .int (jI k))]) hx hb dX9_differs_296 hl (by decide) rfl (fun ls hl => ?_)
                                      refine lv_lload hx hb dX9_differs_298 (lv_at hl 0 rfl) ?_
                                      refine lv_aload_n hx hb dX9_differs_300 rfl (lv_at hl 1 rfl) ?_
                                      refine x_geto hx hb hf9 hw (by omega) (by omega) sl_40_34 lk96 dX9_differs_301 ?_
                                      refine lv_iconst (v := jI 5) hx hb dX9_differs_304 rfl ?_
                                      refine lv_iload hx hb dX9_differs_305 (lv_at hl 7 rfl) ?_
                                      refine x_imul hx hb dX9_differs_307 ?_
                                      refine lv_iload hx hb dX9_differs_308 (lv_at hl 8 rfl) ?_
                                      refine x_iadd hx hb dX9_differs_310 ?_
                                      refine x_lald hx hb hK.1 hw (by omega) (by omega) ar_75 (len_E ar_75 (by decide)) (by omega) (by omega) (by omega) dX9_differs_311 ?_
                                      have f110 : (-9223372036854775808) ≤ X21 75 0 ((5 * (120 + r)) + k) ∧ X21 75 0 ((5 * (120 + r)) + k) ≤ 9223372036854775807 := hRX21 75 0 ((5 * (120 + r)) + k)
                                      refine x_lcmp hx hb (by omega) (by omega) dX9_differs_312 ?_
                                      obtain ⟨z111, ez111⟩ : ∃ y : Int, y = cmpZ (X21 75 0 ((5 * ((30 * sv) + r)) + k)) (X21 75 0 ((5 * (120 + r)) + k)) := ⟨_, rfl⟩
                                      rw [← ez111]
                                      have gz111 : (z111 < 0 ↔ ((X21 75 0 ((5 * ((30 * sv) + r)) + k)) : Int) < (X21 75 0 ((5 * (120 + r)) + k))) ∧ (z111 = 0 ↔ ((X21 75 0 ((5 * ((30 * sv) + r)) + k)) : Int) = (X21 75 0 ((5 * (120 + r)) + k))) ∧ -1 ≤ z111 ∧ z111 ≤ 1 := by rw [ez111]; exact ⟨cmpZ_lt, cmpZ_eq, (cmpZ_r _ _).1, (cmpZ_r _ _).2⟩
                                      clear ez111
                                      refine x_if_eq (tgt := 320) hx hb (by omega) dX9_differs_313 (by decide) (fun c112 => ?_) (fun c112 => ?_)
                                      · refine lv_iconst (v := jI 0) hx hb dX9_differs_320 rfl ?_
                                        refine lv_istore (lv' := [(11, .int (jI 0)), (9, .long (jL (X21 75 0 ((5 * ((30 * sv) + r)) + k)))), (0, .ref (ad 40 0)), (1, .int (jI sv)), (2, .int (jI x)), (3, .int (jI nz)), (4, .int (jI r)), (5, .int (jI ((30 * sv) + r))), (6, .int (jI (120 + r))), (8, .int (jI k))]) hx hb dX9_differs_321 hl (by decide) rfl (fun ls hl => ?_)
                                        refine lv_iload hx hb dX9_differs_323 (lv_at hl 0 rfl) ?_
                                        refine x_if_neF (tgt := 374) hx hb (by omega) (by decide) dX9_differs_325 (by decide) ?_
                                        refine lv_aload_n hx hb dX9_differs_328 rfl (lv_at hl 2 rfl) ?_
                                        refine x_geto hx hb hf9 hw (by omega) (by omega) sl_40_33 lk93 dX9_differs_329 ?_
                                        refine lv_iconst (v := jI 5) hx hb dX9_differs_332 rfl ?_
                                        refine lv_iload hx hb dX9_differs_333 (lv_at hl 7 rfl) ?_
                                        refine x_imul hx hb dX9_differs_335 ?_
                                        refine lv_iload hx hb dX9_differs_336 (lv_at hl 9 rfl) ?_
                                        refine x_iadd hx hb dX9_differs_338 ?_
                                        refine x_iald hx hb hK.1 hw (by omega) (by omega) ar_74 (len_E ar_74 (by decide)) (by omega) (by omega) (by omega) dX9_differs_339 ?_
                                        have f113 : 0 ≤ X21 74 0 ((5 * ((30 * sv) + r)) + k) ∧ X21 74 0 ((5 * ((30 * sv) + r)) + k) ≤ 5 := hRX21 74 0 ((5 * ((30 * sv) + r)) + k)
                                        refine lv_iconst (v := jI 2) hx hb dX9_differs_340 rfl ?_
                                        refine x_icmp_le (tgt := 378) hx hb (by omega) (by omega) dX9_differs_341 (by decide) (fun c114 => ?_) (fun c114 => ?_)
                                        · refine lv_iconst (v := jI 0) hx hb dX9_differs_378 rfl ?_
                                          refine lv_istore (lv' := [(11, .int (jI 0)), (9, .long (jL (X21 75 0 ((5 * ((30 * sv) + r)) + k)))), (0, .ref (ad 40 0)), (1, .int (jI sv)), (2, .int (jI x)), (3, .int (jI nz)), (4, .int (jI r)), (5, .int (jI ((30 * sv) + r))), (6, .int (jI (120 + r))), (8, .int (jI k))]) hx hb dX9_differs_379 hl (by decide) rfl (fun ls hl => ?_)
                                          refine lv_iload hx hb dX9_differs_381 (lv_at hl 0 rfl) ?_
                                          refine x_if_eqT (tgt := 405) hx hb (by omega) (by decide) dX9_differs_383 (by decide) ?_
                                          refine lv_iinc (v := jI (k + 1)) (lv' := [(8, .int (jI (k + 1))), (11, .int (jI 0)), (9, .long (jL (X21 75 0 ((5 * ((30 * sv) + r)) + k)))), (0, .ref (ad 40 0)), (1, .int (jI sv)), (2, .int (jI x)), (3, .int (jI nz)), (4, .int (jI r)), (5, .int (jI ((30 * sv) + r))), (6, .int (jI (120 + r)))]) hx hb dX9_differs_405 hl (k := 9) rfl (jI_add _ _) (by decide) rfl (fun ls hl => ?_)
                                          refine lv_goto (tgt := 272) hx hb dX9_differs_408 (by decide) ?_
                                          exact ih272 (k + 1) _ _ _ (by omega) (by omega) (hsh) (fun f a b => if hf9 : f = k then (by rw [hf9]; exact (by (try delta Hid at *); first | exact ⟨by omega, fun a9 b9 => (by exfalso; omega)⟩ | exact ⟨by omega, fun a9 b9 => (by rcases hrdf with ⟨e9, h9⟩ | ⟨e9, h9⟩; exact h9; exfalso; omega)⟩)) else hvk f a (by omega)) hw hS (lv_sub hl [3, 4, 5, 6, 7, 8, 9, 0] rfl)
                                        · refine lv_lload hx hb dX9_differs_344 (lv_at hl 1 rfl) ?_
                                          refine lv_lconst (v := jL 0) hx hb dX9_differs_346 (by decide) ?_
                                          refine x_lcmp hx hb (by omega) (by omega) dX9_differs_347 ?_
                                          obtain ⟨z115, ez115⟩ : ∃ y : Int, y = cmpZ (X21 75 0 ((5 * ((30 * sv) + r)) + k)) 0 := ⟨_, rfl⟩
                                          rw [← ez115]
                                          have gz115 : (z115 < 0 ↔ ((X21 75 0 ((5 * ((30 * sv) + r)) + k)) : Int) < 0) ∧ (z115 = 0 ↔ ((X21 75 0 ((5 * ((30 * sv) + r)) + k)) : Int) = 0) ∧ -1 ≤ z115 ∧ z115 ≤ 1 := by rw [ez115]; exact ⟨cmpZ_lt, cmpZ_eq, (cmpZ_r _ _).1, (cmpZ_r _ _).2⟩
                                          clear ez115
                                          refine x_if_lt (tgt := 378) hx hb (by omega) dX9_differs_348 (by decide) (fun c116 => ?_) (fun c116 => ?_)
                                          · refine lv_iconst (v := jI 0) hx hb dX9_differs_378 rfl ?_
                                            refine lv_istore (lv' := [(11, .int (jI 0)), (9, .long (jL (X21 75 0 ((5 * ((30 * sv) + r)) + k)))), (0, .ref (ad 40 0)), (1, .int (jI sv)), (2, .int (jI x)), (3, .int (jI nz)), (4, .int (jI r)), (5, .int (jI ((30 * sv) + r))), (6, .int (jI (120 + r))), (8, .int (jI k))]) hx hb dX9_differs_379 hl (by decide) rfl (fun ls hl => ?_)
                                            refine lv_iload hx hb dX9_differs_381 (lv_at hl 0 rfl) ?_
                                            refine x_if_eqT (tgt := 405) hx hb (by omega) (by decide) dX9_differs_383 (by decide) ?_
                                            refine lv_iinc (v := jI (k + 1)) (lv' := [(8, .int (jI (k + 1))), (11, .int (jI 0)), (9, .long (jL (X21 75 0 ((5 * ((30 * sv) + r)) + k)))), (0, .ref (ad 40 0)), (1, .int (jI sv)), (2, .int (jI x)), (3, .int (jI nz)), (4, .int (jI r)), (5, .int (jI ((30 * sv) + r))), (6, .int (jI (120 + r)))]) hx hb dX9_differs_405 hl (k := 9) rfl (jI_add _ _) (by decide) rfl (fun ls hl => ?_)
                                            refine lv_goto (tgt := 272) hx hb dX9_differs_408 (by decide) ?_
                                            exact ih272 (k + 1) _ _ _ (by omega) (by omega) (hsh) (fun f a b => if hf9 : f = k then (by rw [hf9]; exact (by (try delta Hid at *); first | exact ⟨by omega, fun a9 b9 => (by exfalso; omega)⟩ | exact ⟨by omega, fun a9 b9 => (by rcases hrdf with ⟨e9, h9⟩ | ⟨e9, h9⟩; exact h9; exfalso; omega)⟩)) else hvk f a (by omega)) hw hS (lv_sub hl [3, 4, 5, 6, 7, 8, 9, 0] rfl)
                                          · refine lv_aload_n hx hb dX9_differs_351 rfl (lv_at hl 2 rfl) ?_
                                            refine lv_sipush (v := jI 150) hx hb dX9_differs_352 (by decide) ?_
                                            refine lv_iload_n hx hb dX9_differs_355 rfl (lv_at hl 3 rfl) ?_
                                            refine x_imul hx hb dX9_differs_356 ?_
                                            refine lv_lload hx hb dX9_differs_357 (lv_at hl 1 rfl) ?_
                                            refine x_l2i hx hb dX9_differs_359 ?_
                                            refine x_iadd hx hb dX9_differs_360 ?_
                                            refine lv_sipush (v := jI 600) hx hb dX9_differs_361 (by decide) ?_
                                            refine lv_lload hx hb dX9_differs_364 (lv_at hl 1 rfl) ?_
                                            refine x_l2i hx hb dX9_differs_366 ?_
                                            refine x_iadd hx hb dX9_differs_367 ?_
                                            refine gos_i (run_V (As := [.int (jI ((150 * sv) + (X21 75 0 ((5 * ((30 * sv) + r)) + k)))), .int (jI (600 + (X21 75 0 ((5 * ((30 * sv) + r)) + k))))]) (rest := []) hx hb hml hown hts (c_X9_rowsDiffer l D tc base ad cnt X21 Y ln hRX21 hFx hMIX21 ((150 * sv) + (X21 75 0 ((5 * ((30 * sv) + r)) + k))) (600 + (X21 75 0 ((5 * ((30 * sv) + r)) + k))) (by omega) (by omega)) (cwV 2 hts gX9_differs_X9_rowsDiffer rfl rfl rfl (by decide +kernel) ⟨Nat.le_of_ble_eq_true rfl, Nat.le_of_ble_eq_true rfl⟩) hK hw (by omega) (by omega) sl_40_0 rfl rfl hl.1 rfl (Nat.le_of_ble_eq_true rfl) dX9_differs_368 ⟨Nat.le_of_ble_eq_true rfl, Nat.le_of_ble_eq_true rfl⟩) hS (fun z117 u118 H locs p119 hw hS => ?_)
                                            obtain ⟨eu118, p119, hrdf⟩ := p119
                                            subst eu118
                                            refine x_if_eq (tgt := 378) hx hb (by omega) dX9_differs_371 (by decide) (fun c120 => ?_) (fun c120 => ?_)
                                            · refine lv_iconst (v := jI 0) hx hb dX9_differs_378 rfl ?_
                                              refine lv_istore (lv' := [(11, .int (jI 0)), (9, .long (jL (X21 75 0 ((5 * ((30 * sv) + r)) + k)))), (0, .ref (ad 40 0)), (1, .int (jI sv)), (2, .int (jI x)), (3, .int (jI nz)), (4, .int (jI r)), (5, .int (jI ((30 * sv) + r))), (6, .int (jI (120 + r))), (8, .int (jI k))]) hx hb dX9_differs_379 hl (by decide) rfl (fun ls hl => ?_)
                                              refine lv_iload hx hb dX9_differs_381 (lv_at hl 0 rfl) ?_
                                              refine x_if_eqT (tgt := 405) hx hb (by omega) (by decide) dX9_differs_383 (by decide) ?_
                                              refine lv_iinc (v := jI (k + 1)) (lv' := [(8, .int (jI (k + 1))), (11, .int (jI 0)), (9, .long (jL (X21 75 0 ((5 * ((30 * sv) + r)) + k)))), (0, .ref (ad 40 0)), (1, .int (jI sv)), (2, .int (jI x)), (3, .int (jI nz)), (4, .int (jI r)), (5, .int (jI ((30 * sv) + r))), (6, .int (jI (120 + r)))]) hx hb dX9_differs_405 hl (k := 9) rfl (jI_add _ _) (by decide) rfl (fun ls hl => ?_)
                                              refine lv_goto (tgt := 272) hx hb dX9_differs_408 (by decide) ?_
                                              exact ih272 (k + 1) _ _ _ (by omega) (by omega) (hsh) (fun f a b => if hf9 : f = k then (by rw [hf9]; exact (by (try delta Hid at *); first | exact ⟨by omega, fun a9 b9 => (by exfalso; omega)⟩ | exact ⟨by omega, fun a9 b9 => (by rcases hrdf with ⟨e9, h9⟩ | ⟨e9, h9⟩; exact h9; exfalso; omega)⟩)) else hvk f a (by omega)) hw hS (lv_sub hl [3, 4, 5, 6, 7, 8, 9, 0] rfl)
                                            · refine lv_iconst (v := jI 1) hx hb dX9_differs_374 rfl ?_
                                              refine lv_goto (tgt := 379) hx hb dX9_differs_375 (by decide) ?_
                                              refine lv_istore (lv' := [(11, .int (jI 1)), (9, .long (jL (X21 75 0 ((5 * ((30 * sv) + r)) + k)))), (0, .ref (ad 40 0)), (1, .int (jI sv)), (2, .int (jI x)), (3, .int (jI nz)), (4, .int (jI r)), (5, .int (jI ((30 * sv) + r))), (6, .int (jI (120 + r))), (8, .int (jI k))]) hx hb dX9_differs_379 hl (by decide) rfl (fun ls hl => ?_)
                                              refine lv_iload hx hb dX9_differs_381 (lv_at hl 0 rfl) ?_
                                              refine x_if_eqF (tgt := 405) hx hb (by omega) (by decide) dX9_differs_383 (by decide) ?_
                                              refine lv_bipush (v := jI 100) hx hb dX9_differs_386 (by decide) ?_
                                              refine lv_iload hx hb dX9_differs_388 (lv_at hl 6 rfl) ?_
                                              refine x_imul hx hb dX9_differs_390 ?_
                                              refine lv_aload_n hx hb dX9_differs_391 rfl (lv_at hl 2 rfl) ?_
                                              refine x_geto hx hb hf9 hw (by omega) (by omega) sl_40_32 lk90 dX9_differs_392 ?_
                                              refine lv_iconst (v := jI 5) hx hb dX9_differs_395 rfl ?_
                                              refine lv_iload hx hb dX9_differs_396 (lv_at hl 7 rfl) ?_
                                              refine x_imul hx hb dX9_differs_398 ?_
                                              refine lv_iload hx hb dX9_differs_399 (lv_at hl 9 rfl) ?_
                                              refine x_iadd hx hb dX9_differs_401 ?_
                                              refine x_iald hx hb hK.1 hw (by omega) (by omega) ar_73 (len_E ar_73 (by decide)) (by omega) (by omega) (by omega) dX9_differs_402 ?_
                                              have f121 : 0 ≤ X21 73 0 ((5 * ((30 * sv) + r)) + k) ∧ X21 73 0 ((5 * ((30 * sv) + r)) + k) ≤ 19 := hRX21 73 0 ((5 * ((30 * sv) + r)) + k)
                                              refine x_iadd hx hb dX9_differs_403 ?_
                                              refine ret_i (mc := 0) (ms := 0) hx hb hr hlocks hw hS (by omega) (by omega) dX9_differs_404 ?_
                                              have q122 : Frm [4001] X X1 := by rw [hX1]; exact Frm.set Frm.rf (show 4001 ∈ [4001] by decide)
                                              have hrd123 := rdr_eq (L := [4001]) q122 (by decide)
                                              have hsx124 := hsvX21
                                              rw [hrd123.1, hrd123.2.1, hrd123.2.2, Frm.arr q122 48 (by decide +kernel) (by decide), Frm.arr q122 55 (by decide +kernel) (by decide)] at hsx124
                                              exact ⟨X21, rfl, hRX21, hFX21, hMIX21, by omega, S4.tr (S4.frm q122 (by decide)) h4X21, S5.tr (S5.frm q122 (by decide)) h5X21, Or.inr ⟨(by (try delta Hid at *); omega), (by rcases hsx124 with ⟨-, q, -⟩ | ⟨-, -, q⟩; exact absurd q (by decide); exact q), Or.inr ⟨r, by omega, by omega, hall, Or.inr ⟨hsh, k, by omega, by omega, hvk, (fun q => by (try delta Hid at *); first | (have q1 := q.1; omega) | exact absurd (q.2 (by omega) (by omega)) (by assumption) | (rcases hrdf with ⟨e9, h9⟩ | ⟨e9, h9⟩; omega; exact h9 (q.2 (by omega) (by omega)))), by omega⟩⟩⟩⟩
                                      · refine lv_iconst (v := jI 1) hx hb dX9_differs_316 rfl ?_
                                        refine lv_goto (tgt := 321) hx hb dX9_differs_317 (by decide) ?_
                                        refine lv_istore (lv' := [(11, .int (jI 1)), (9, .long (jL (X21 75 0 ((5 * ((30 * sv) + r)) + k)))), (0, .ref (ad 40 0)), (1, .int (jI sv)), (2, .int (jI x)), (3, .int (jI nz)), (4, .int (jI r)), (5, .int (jI ((30 * sv) + r))), (6, .int (jI (120 + r))), (8, .int (jI k))]) hx hb dX9_differs_321 hl (by decide) rfl (fun ls hl => ?_)
                                        refine lv_iload hx hb dX9_differs_323 (lv_at hl 0 rfl) ?_
                                        refine x_if_neT (tgt := 374) hx hb (by omega) (by decide) dX9_differs_325 (by decide) ?_
                                        refine lv_iconst (v := jI 1) hx hb dX9_differs_374 rfl ?_
                                        refine lv_goto (tgt := 379) hx hb dX9_differs_375 (by decide) ?_
                                        refine lv_istore (lv' := [(11, .int (jI 1)), (9, .long (jL (X21 75 0 ((5 * ((30 * sv) + r)) + k)))), (0, .ref (ad 40 0)), (1, .int (jI sv)), (2, .int (jI x)), (3, .int (jI nz)), (4, .int (jI r)), (5, .int (jI ((30 * sv) + r))), (6, .int (jI (120 + r))), (8, .int (jI k))]) hx hb dX9_differs_379 hl (by decide) rfl (fun ls hl => ?_)
                                        refine lv_iload hx hb dX9_differs_381 (lv_at hl 0 rfl) ?_
                                        refine x_if_eqF (tgt := 405) hx hb (by omega) (by decide) dX9_differs_383 (by decide) ?_
                                        refine lv_bipush (v := jI 100) hx hb dX9_differs_386 (by decide) ?_
                                        refine lv_iload hx hb dX9_differs_388 (lv_at hl 6 rfl) ?_
                                        refine x_imul hx hb dX9_differs_390 ?_
                                        refine lv_aload_n hx hb dX9_differs_391 rfl (lv_at hl 2 rfl) ?_
                                        refine x_geto hx hb hf9 hw (by omega) (by omega) sl_40_32 lk90 dX9_differs_392 ?_
                                        refine lv_iconst (v := jI 5) hx hb dX9_differs_395 rfl ?_
                                        refine lv_iload hx hb dX9_differs_396 (lv_at hl 7 rfl) ?_
                                        refine x_imul hx hb dX9_differs_398 ?_
                                        refine lv_iload hx hb dX9_differs_399 (lv_at hl 9 rfl) ?_
                                        refine x_iadd hx hb dX9_differs_401 ?_
                                        refine x_iald hx hb hK.1 hw (by omega) (by omega) ar_73 (len_E ar_73 (by decide)) (by omega) (by omega) (by omega) dX9_differs_402 ?_
                                        have f125 : 0 ≤ X21 73 0 ((5 * ((30 * sv) + r)) + k) ∧ X21 73 0 ((5 * ((30 * sv) + r)) + k) ≤ 19 := hRX21 73 0 ((5 * ((30 * sv) + r)) + k)
                                        refine x_iadd hx hb dX9_differs_403 ?_
                                        refine ret_i (mc := 0) (ms := 0) hx hb hr hlocks hw hS (by omega) (by omega) dX9_differs_404 ?_
                                        have q126 : Frm [4001] X X1 := by rw [hX1]; exact Frm.set Frm.rf (show 4001 ∈ [4001] by decide)
                                        have hrd127 := rdr_eq (L := [4001]) q126 (by decide)
                                        have hsx128 := hsvX21
                                        rw [hrd127.1, hrd127.2.1, hrd127.2.2, Frm.arr q126 48 (by decide +kernel) (by decide), Frm.arr q126 55 (by decide +kernel) (by decide)] at hsx128
                                        exact ⟨X21, rfl, hRX21, hFX21, hMIX21, by omega, S4.tr (S4.frm q126 (by decide)) h4X21, S5.tr (S5.frm q126 (by decide)) h5X21, Or.inr ⟨(by (try delta Hid at *); omega), (by rcases hsx128 with ⟨-, q, -⟩ | ⟨-, -, q⟩; exact absurd q (by decide); exact q), Or.inr ⟨r, by omega, by omega, hall, Or.inr ⟨hsh, k, by omega, by omega, hvk, (fun q => by (try delta Hid at *); first | (have q1 := q.1; omega) | exact absurd (q.2 (by omega) (by omega)) (by assumption) | (rcases hrdf with ⟨e9, h9⟩ | ⟨e9, h9⟩; omega; exact h9 (q.2 (by omega) (by omega)))), by omega⟩⟩⟩⟩
                                exact lp272 (5 - 0 : Int).toNat.succ 0 _ _ _ (by omega) (by omega) ((by obtain ⟨q1, q2, q3⟩ := hsm1 (by omega); exact ⟨by omega, by omega, q1, q2, fun j a b => q3 j a (by omega)⟩)) (fun f a b => by omega) hw hS (lv_sub hl [1, 2, 3, 4, 5, 6, 7, 0] rfl)
                              · refine lv_bipush (v := jI 100) hx hb dX9_differs_260 (by decide) ?_
                                refine lv_iload hx hb dX9_differs_262 (lv_at hl 4 rfl) ?_
                                refine x_imul hx hb dX9_differs_264 ?_
                                refine lv_bipush (v := jI 99) hx hb dX9_differs_265 (by decide) ?_
                                refine x_iadd hx hb dX9_differs_267 ?_
                                refine ret_i (mc := 0) (ms := 0) hx hb hr hlocks hw hS (by omega) (by omega) dX9_differs_268 ?_
                                have q129 : Frm [4001] X X1 := by rw [hX1]; exact Frm.set Frm.rf (show 4001 ∈ [4001] by decide)
                                have hrd130 := rdr_eq (L := [4001]) q129 (by decide)
                                have hsx131 := hsvX21
                                rw [hrd130.1, hrd130.2.1, hrd130.2.2, Frm.arr q129 48 (by decide +kernel) (by decide), Frm.arr q129 55 (by decide +kernel) (by decide)] at hsx131
                                exact ⟨X21, rfl, hRX21, hFX21, hMIX21, by omega, S4.tr (S4.frm q129 (by decide)) h4X21, S5.tr (S5.frm q129 (by decide)) h5X21, Or.inr ⟨(by (try delta Hid at *); omega), (by rcases hsx131 with ⟨-, q, -⟩ | ⟨-, -, q⟩; exact absurd q (by decide); exact q), Or.inr ⟨r, by omega, by omega, hall, Or.inl ⟨hsm0 (by omega), by omega⟩⟩⟩⟩
                            · refine lv_iload hx hb dX9_differs_176 (lv_at hl 8 rfl) ?_
                              refine lv_aload_n hx hb dX9_differs_178 rfl (lv_at hl 0 rfl) ?_
                              refine x_geto hx hb hf9 hw (by omega) (by omega) sl_40_31 lk87 dX9_differs_179 ?_
                              refine lv_iload hx hb dX9_differs_182 (lv_at hl 5 rfl) ?_
                              refine x_iald hx hb hK.1 hw (by omega) (by omega) ar_72 (len_E ar_72 (by decide)) (by omega) (by omega) (by omega) dX9_differs_184 ?_
                              have f132 : 0 ≤ X21 72 0 ((30 * sv) + r) ∧ X21 72 0 ((30 * sv) + r) ≤ 5 := hRX21 72 0 ((30 * sv) + r)
                              refine x_icmp_ge (tgt := 255) hx hb (by omega) (by omega) dX9_differs_185 (by decide) (fun c133 => ?_) (fun c133 => ?_)
                              · refine lv_iload hx hb dX9_differs_255 (lv_at hl 7 rfl) ?_
                                refine x_if_ne (tgt := 269) hx hb (by omega) dX9_differs_257 (by decide) (fun c134 => ?_) (fun c134 => ?_)
                                · refine lv_iconst (v := jI 0) hx hb dX9_differs_269 rfl ?_
                                  refine lv_istore (lv' := [(8, .int (jI 0)), (0, .ref (ad 40 0)), (1, .int (jI sv)), (2, .int (jI x)), (3, .int (jI nz)), (4, .int (jI r)), (5, .int (jI ((30 * sv) + r))), (6, .int (jI (120 + r))), (7, .int (jI sm))]) hx hb dX9_differs_270 hl (by decide) rfl (fun ls hl => ?_)
                                  have lp272 : ∀ (nn : Nat) (k : Int) (H : Heap) (locs : List Loc) (ls : Array Slot), (5 - k) < (nn : Int) → (0 ≤ k ∧ k ≤ 5) → (shM X21 sv r) → (∀ f, 0 ≤ f → f < k → vqM X21 sv r f) → wd D tc base (ad, cnt, X21, Y, ln) H → va_S (frA base) s.heap H locs → lv_has ls 12 [(0, .ref (ad 40 0)), (1, .int (jI sv)), (2, .int (jI x)), (3, .int (jI nz)), (4, .int (jI r)), (5, .int (jI ((30 * sv) + r))), (6, .int (jI (120 + r))), (8, .int (jI k))] → W p l e ({ frames := 2, cells := 0, slots := 0, locals := 53 } : Room) s m ([.ref (ad 40 0), .int (jI sv), .int (jI x)] : List Value).toArray below meth c H locs 0 0 (MQ below (QI D tc base (fun z u => ∃ X1 : Nat → Int → Int → Int, u = (ad, cnt, X1, Y, ln) ∧ Rng X1 ∧ Frm [4001, 7100, 7200, 7300, 7400, 7500, 8000, 7000, 8100, 7700, 7800, 7900, 7600, 4042, 4043, 4044] X X1 ∧ MInv X1 ∧ (-2147483648 ≤ z ∧ z ≤ 2147483647) ∧ S4 X X1 ∧ S5 X X1 ∧ ((¬ ((0 ≤ sv ∧ sv < 4) ∧ X 70 0 sv ≠ 0 ∧ (0 ≤ x ∧ x < X 40 0 13)) ∧ z = -2) ∨ (((0 ≤ sv ∧ sv < 4) ∧ X 70 0 sv ≠ 0 ∧ (0 ≤ x ∧ x < X 40 0 13)) ∧ (rmT X1 (recR (fcM X) (lnM X) (mRid X) (mRid X) x 30) ∧ rmR X1 (recR (fcM X) (lnM X) (mRid X) (mRid X) x 30) ∧ rmV X1 (recR (fcM X) (lnM X) (mRid X) (mRid X) x 30) (recR (fcM X) (lnM X) (mRid X) (mRid X) x 30 0 0) 0) ∧ dfP (mxM X1 sv) (shM X1 sv) (fun r => X1 72 0 (30 * sv + r)) (vqM X1 sv) (fun r f => X1 73 0 (5 * (30 * sv + r) + f)) z)))) ([.ref (ad 40 0), .int (jI sv), .int (jI x)] : List Value).toArray s 0 0 (frA base)) (F0 m 272 ls []) := by
                                    intro nn
                                    induction nn with
                                    | zero => intro k H locs ls hm hk hsh hvk hw hS hl; exfalso; omega
                                    | succ nn ih272 =>
                                      intro k H locs ls hm hk hsh hvk hw hS hl
                                      refine lv_iload hx hb dX9_differs_272 (lv_at hl 7 rfl) ?_
                                      refine lv_aload_n hx hb dX9_differs_274 rfl (lv_at hl 0 rfl) ?_
                                      refine x_geto hx hb hf9 hw (by omega) (by omega) sl_40_31 lk87 dX9_differs_275 ?_
                                      refine lv_iload hx hb dX9_differs_278 (lv_at hl 5 rfl) ?_
                                      refine x_iald hx hb hK.1 hw (by omega) (by omega) ar_72 (len_E ar_72 (by decide)) (by omega) (by omega) (by omega) dX9_differs_280 ?_
                                      have f135 : 0 ≤ X21 72 0 ((30 * sv) + r) ∧ X21 72 0 ((30 * sv) + r) ≤ 5 := hRX21 72 0 ((30 * sv) + r)
                                      refine x_icmp_ge (tgt := 411) hx hb (by omega) (by omega) dX9_differs_281 (by decide) (fun c136 => ?_) (fun c136 => ?_)
                                      · refine lv_iinc (v := jI (r + 1)) (lv' := [(4, .int (jI (r + 1))), (0, .ref (ad 40 0)), (1, .int (jI sv)), (2, .int (jI x)), (3, .int (jI nz)), (5, .int (jI ((30 * sv) + r))), (6, .int (jI (120 + r))), (8, .int (jI k))]) hx hb dX9_differs_411 hl (k := 4) rfl (jI_add _ _) (by decide) rfl (fun ls hl => ?_)
                                        refine lv_goto (tgt := 74) hx hb dX9_differs_414 (by decide) ?_
                                        exact ih74 nz (r + 1) _ _ _ (by omega) (by omega) (by omega) (hnzv) (fun r' a b => if hr9 : r' = r then (by rw [hr9]; exact ⟨hsh, fun f f0 f1 => hvk f f0 (by omega)⟩) else hall r' a (by omega)) hw hS (lv_sub hl [1, 2, 3, 4, 0] rfl)
                                      · refine lv_aload_n hx hb dX9_differs_284 rfl (lv_at hl 0 rfl) ?_
                                        refine x_geto hx hb hf9 hw (by omega) (by omega) sl_40_34 lk96 dX9_differs_285 ?_
                                        refine lv_iconst (v := jI 5) hx hb dX9_differs_288 rfl ?_
                                        refine lv_iload hx hb dX9_differs_289 (lv_at hl 5 rfl) ?_
                                        refine x_imul hx hb dX9_differs_291 ?_
                                        refine lv_iload hx hb dX9_differs_292 (lv_at hl 7 rfl) ?_
                                        refine x_iadd hx hb dX9_differs_294 ?_
                                        obtain ⟨hv1, hv2, hv3⟩ := (hMIX21.2.2.1 sv r (by omega) (by omega) (by omega) (by omega)).2 k (by omega) (by omega)
                                        refine x_lald hx hb hK.1 hw (by omega) (by omega) ar_75 (len_E ar_75 (by decide)) (by omega) (by omega) (by omega) dX9_differs_295 ?_
                                        have f137 : (-9223372036854775808) ≤ X21 75 0 ((5 * ((30 * sv) + r)) + k) ∧ X21 75 0 ((5 * ((30 * sv) + r)) + k) ≤ 9223372036854775807 := hRX21 75 0 ((5 * ((30 * sv) + r)) + k)
                                        refine lv_lstore (lv' := [(9, .long (jL (X21 75 0 ((5 * ((30 * sv) + r)) + k)))), (0, .ref (ad 40 0)), (1, .int (jI sv)), (2, .int (jI x)), (3, .int (jI nz)), (4, .int (jI r)), (5, .int (jI ((30 * sv) + r))), (6, .int (jI (120 + r))), (8, .int (jI k))]) hx hb dX9_differs_296 hl (by decide) rfl (fun ls hl => ?_)
                                        refine lv_lload hx hb dX9_differs_298 (lv_at hl 0 rfl) ?_
                                        refine lv_aload_n hx hb dX9_differs_300 rfl (lv_at hl 1 rfl) ?_
                                        refine x_geto hx hb hf9 hw (by omega) (by omega) sl_40_34 lk96 dX9_differs_301 ?_
                                        refine lv_iconst (v := jI 5) hx hb dX9_differs_304 rfl ?_
                                        refine lv_iload hx hb dX9_differs_305 (lv_at hl 7 rfl) ?_
                                        refine x_imul hx hb dX9_differs_307 ?_
                                        refine lv_iload hx hb dX9_differs_308 (lv_at hl 8 rfl) ?_
                                        refine x_iadd hx hb dX9_differs_310 ?_
                                        refine x_lald hx hb hK.1 hw (by omega) (by omega) ar_75 (len_E ar_75 (by decide)) (by omega) (by omega) (by omega) dX9_differs_311 ?_
                                        have f138 : (-9223372036854775808) ≤ X21 75 0 ((5 * (120 + r)) + k) ∧ X21 75 0 ((5 * (120 + r)) + k) ≤ 9223372036854775807 := hRX21 75 0 ((5 * (120 + r)) + k)
                                        refine x_lcmp hx hb (by omega) (by omega) dX9_differs_312 ?_
                                        obtain ⟨z139, ez139⟩ : ∃ y : Int, y = cmpZ (X21 75 0 ((5 * ((30 * sv) + r)) + k)) (X21 75 0 ((5 * (120 + r)) + k)) := ⟨_, rfl⟩
                                        rw [← ez139]
                                        have gz139 : (z139 < 0 ↔ ((X21 75 0 ((5 * ((30 * sv) + r)) + k)) : Int) < (X21 75 0 ((5 * (120 + r)) + k))) ∧ (z139 = 0 ↔ ((X21 75 0 ((5 * ((30 * sv) + r)) + k)) : Int) = (X21 75 0 ((5 * (120 + r)) + k))) ∧ -1 ≤ z139 ∧ z139 ≤ 1 := by rw [ez139]; exact ⟨cmpZ_lt, cmpZ_eq, (cmpZ_r _ _).1, (cmpZ_r _ _).2⟩
                                        clear ez139
                                        refine x_if_eq (tgt := 320) hx hb (by omega) dX9_differs_313 (by decide) (fun c140 => ?_) (fun c140 => ?_)
                                        · refine lv_iconst (v := jI 0) hx hb dX9_differs_320 rfl ?_
                                          refine lv_istore (lv' := [(11, .int (jI 0)), (9, .long (jL (X21 75 0 ((5 * ((30 * sv) + r)) + k)))), (0, .ref (ad 40 0)), (1, .int (jI sv)), (2, .int (jI x)), (3, .int (jI nz)), (4, .int (jI r)), (5, .int (jI ((30 * sv) + r))), (6, .int (jI (120 + r))), (8, .int (jI k))]) hx hb dX9_differs_321 hl (by decide) rfl (fun ls hl => ?_)
                                          refine lv_iload hx hb dX9_differs_323 (lv_at hl 0 rfl) ?_
                                          refine x_if_neF (tgt := 374) hx hb (by omega) (by decide) dX9_differs_325 (by decide) ?_
                                          refine lv_aload_n hx hb dX9_differs_328 rfl (lv_at hl 2 rfl) ?_
                                          refine x_geto hx hb hf9 hw (by omega) (by omega) sl_40_33 lk93 dX9_differs_329 ?_
                                          refine lv_iconst (v := jI 5) hx hb dX9_differs_332 rfl ?_
                                          refine lv_iload hx hb dX9_differs_333 (lv_at hl 7 rfl) ?_
                                          refine x_imul hx hb dX9_differs_335 ?_
                                          refine lv_iload hx hb dX9_differs_336 (lv_at hl 9 rfl) ?_
                                          refine x_iadd hx hb dX9_differs_338 ?_
                                          refine x_iald hx hb hK.1 hw (by omega) (by omega) ar_74 (len_E ar_74 (by decide)) (by omega) (by omega) (by omega) dX9_differs_339 ?_
                                          have f141 : 0 ≤ X21 74 0 ((5 * ((30 * sv) + r)) + k) ∧ X21 74 0 ((5 * ((30 * sv) + r)) + k) ≤ 5 := hRX21 74 0 ((5 * ((30 * sv) + r)) + k)
                                          refine lv_iconst (v := jI 2) hx hb dX9_differs_340 rfl ?_
                                          refine x_icmp_le (tgt := 378) hx hb (by omega) (by omega) dX9_differs_341 (by decide) (fun c142 => ?_) (fun c142 => ?_)
                                          · refine lv_iconst (v := jI 0) hx hb dX9_differs_378 rfl ?_
                                            refine lv_istore (lv' := [(11, .int (jI 0)), (9, .long (jL (X21 75 0 ((5 * ((30 * sv) + r)) + k)))), (0, .ref (ad 40 0)), (1, .int (jI sv)), (2, .int (jI x)), (3, .int (jI nz)), (4, .int (jI r)), (5, .int (jI ((30 * sv) + r))), (6, .int (jI (120 + r))), (8, .int (jI k))]) hx hb dX9_differs_379 hl (by decide) rfl (fun ls hl => ?_)
                                            refine lv_iload hx hb dX9_differs_381 (lv_at hl 0 rfl) ?_
                                            refine x_if_eqT (tgt := 405) hx hb (by omega) (by decide) dX9_differs_383 (by decide) ?_
                                            refine lv_iinc (v := jI (k + 1)) (lv' := [(8, .int (jI (k + 1))), (11, .int (jI 0)), (9, .long (jL (X21 75 0 ((5 * ((30 * sv) + r)) + k)))), (0, .ref (ad 40 0)), (1, .int (jI sv)), (2, .int (jI x)), (3, .int (jI nz)), (4, .int (jI r)), (5, .int (jI ((30 * sv) + r))), (6, .int (jI (120 + r)))]) hx hb dX9_differs_405 hl (k := 9) rfl (jI_add _ _) (by decide) rfl (fun ls hl => ?_)
                                            refine lv_goto (tgt := 272) hx hb dX9_differs_408 (by decide) ?_
                                            exact ih272 (k + 1) _ _ _ (by omega) (by omega) (hsh) (fun f a b => if hf9 : f = k then (by rw [hf9]; exact (by (try delta Hid at *); first | exact ⟨by omega, fun a9 b9 => (by exfalso; omega)⟩ | exact ⟨by omega, fun a9 b9 => (by rcases hrdf with ⟨e9, h9⟩ | ⟨e9, h9⟩; exact h9; exfalso; omega)⟩)) else hvk f a (by omega)) hw hS (lv_sub hl [3, 4, 5, 6, 7, 8, 9, 0] rfl)
                                          · refine lv_lload hx hb dX9_differs_344 (lv_at hl 1 rfl) ?_
                                            refine lv_lconst (v := jL 0) hx hb dX9_differs_346 (by decide) ?_
                                            refine x_lcmp hx hb (by omega) (by omega) dX9_differs_347 ?_
                                            obtain ⟨z143, ez143⟩ : ∃ y : Int, y = cmpZ (X21 75 0 ((5 * ((30 * sv) + r)) + k)) 0 := ⟨_, rfl⟩
                                            rw [← ez143]
                                            have gz143 : (z143 < 0 ↔ ((X21 75 0 ((5 * ((30 * sv) + r)) + k)) : Int) < 0) ∧ (z143 = 0 ↔ ((X21 75 0 ((5 * ((30 * sv) + r)) + k)) : Int) = 0) ∧ -1 ≤ z143 ∧ z143 ≤ 1 := by rw [ez143]; exact ⟨cmpZ_lt, cmpZ_eq, (cmpZ_r _ _).1, (cmpZ_r _ _).2⟩
                                            clear ez143
                                            refine x_if_lt (tgt := 378) hx hb (by omega) dX9_differs_348 (by decide) (fun c144 => ?_) (fun c144 => ?_)
                                            · refine lv_iconst (v := jI 0) hx hb dX9_differs_378 rfl ?_
                                              refine lv_istore (lv' := [(11, .int (jI 0)), (9, .long (jL (X21 75 0 ((5 * ((30 * sv) + r)) + k)))), (0, .ref (ad 40 0)), (1, .int (jI sv)), (2, .int (jI x)), (3, .int (jI nz)), (4, .int (jI r)), (5, .int (jI ((30 * sv) + r))), (6, .int (jI (120 + r))), (8, .int (jI k))]) hx hb dX9_differs_379 hl (by decide) rfl (fun ls hl => ?_)
                                              refine lv_iload hx hb dX9_differs_381 (lv_at hl 0 rfl) ?_
                                              refine x_if_eqT (tgt := 405) hx hb (by omega) (by decide) dX9_differs_383 (by decide) ?_
                                              refine lv_iinc (v := jI (k + 1)) (lv' := [(8, .int (jI (k + 1))), (11, .int (jI 0)), (9, .long (jL (X21 75 0 ((5 * ((30 * sv) + r)) + k)))), (0, .ref (ad 40 0)), (1, .int (jI sv)), (2, .int (jI x)), (3, .int (jI nz)), (4, .int (jI r)), (5, .int (jI ((30 * sv) + r))), (6, .int (jI (120 + r)))]) hx hb dX9_differs_405 hl (k := 9) rfl (jI_add _ _) (by decide) rfl (fun ls hl => ?_)
                                              refine lv_goto (tgt := 272) hx hb dX9_differs_408 (by decide) ?_
                                              exact ih272 (k + 1) _ _ _ (by omega) (by omega) (hsh) (fun f a b => if hf9 : f = k then (by rw [hf9]; exact (by (try delta Hid at *); first | exact ⟨by omega, fun a9 b9 => (by exfalso; omega)⟩ | exact ⟨by omega, fun a9 b9 => (by rcases hrdf with ⟨e9, h9⟩ | ⟨e9, h9⟩; exact h9; exfalso; omega)⟩)) else hvk f a (by omega)) hw hS (lv_sub hl [3, 4, 5, 6, 7, 8, 9, 0] rfl)
                                            · refine lv_aload_n hx hb dX9_differs_351 rfl (lv_at hl 2 rfl) ?_
                                              refine lv_sipush (v := jI 150) hx hb dX9_differs_352 (by decide) ?_
                                              refine lv_iload_n hx hb dX9_differs_355 rfl (lv_at hl 3 rfl) ?_
                                              refine x_imul hx hb dX9_differs_356 ?_
                                              refine lv_lload hx hb dX9_differs_357 (lv_at hl 1 rfl) ?_
                                              refine x_l2i hx hb dX9_differs_359 ?_
                                              refine x_iadd hx hb dX9_differs_360 ?_
                                              refine lv_sipush (v := jI 600) hx hb dX9_differs_361 (by decide) ?_
                                              refine lv_lload hx hb dX9_differs_364 (lv_at hl 1 rfl) ?_
                                              refine x_l2i hx hb dX9_differs_366 ?_
                                              refine x_iadd hx hb dX9_differs_367 ?_
                                              refine gos_i (run_V (As := [.int (jI ((150 * sv) + (X21 75 0 ((5 * ((30 * sv) + r)) + k)))), .int (jI (600 + (X21 75 0 ((5 * ((30 * sv) + r)) + k))))]) (rest := []) hx hb hml hown hts (c_X9_rowsDiffer l D tc base ad cnt X21 Y ln hRX21 hFx hMIX21 ((150 * sv) + (X21 75 0 ((5 * ((30 * sv) + r)) + k))) (600 + (X21 75 0 ((5 * ((30 * sv) + r)) + k))) (by omega) (by omega)) (cwV 2 hts gX9_differs_X9_rowsDiffer rfl rfl rfl (by decide +kernel) ⟨Nat.le_of_ble_eq_true rfl, Nat.le_of_ble_eq_true rfl⟩) hK hw (by omega) (by omega) sl_40_0 rfl rfl hl.1 rfl (Nat.le_of_ble_eq_true rfl) dX9_differs_368 ⟨Nat.le_of_ble_eq_true rfl, Nat.le_of_ble_eq_true rfl⟩) hS (fun z145 u146 H locs p147 hw hS => ?_)
                                              obtain ⟨eu146, p147, hrdf⟩ := p147
                                              subst eu146
                                              refine x_if_eq (tgt := 378) hx hb (by omega) dX9_differs_371 (by decide) (fun c148 => ?_) (fun c148 => ?_)
                                              · refine lv_iconst (v := jI 0) hx hb dX9_differs_378 rfl ?_
                                                refine lv_istore (lv' := [(11, .int (jI 0)), (9, .long (jL (X21 75 0 ((5 * ((30 * sv) + r)) + k)))), (0, .ref (ad 40 0)), (1, .int (jI sv)), (2, .int (jI x)), (3, .int (jI nz)), (4, .int (jI r)), (5, .int (jI ((30 * sv) + r))), (6, .int (jI (120 + r))), (8, .int (jI k))]) hx hb dX9_differs_379 hl (by decide) rfl (fun ls hl => ?_)
                                                refine lv_iload hx hb dX9_differs_381 (lv_at hl 0 rfl) ?_
                                                refine x_if_eqT (tgt := 405) hx hb (by omega) (by decide) dX9_differs_383 (by decide) ?_
                                                refine lv_iinc (v := jI (k + 1)) (lv' := [(8, .int (jI (k + 1))), (11, .int (jI 0)), (9, .long (jL (X21 75 0 ((5 * ((30 * sv) + r)) + k)))), (0, .ref (ad 40 0)), (1, .int (jI sv)), (2, .int (jI x)), (3, .int (jI nz)), (4, .int (jI r)), (5, .int (jI ((30 * sv) + r))), (6, .int (jI (120 + r)))]) hx hb dX9_differs_405 hl (k := 9) rfl (jI_add _ _) (by decide) rfl (fun ls hl => ?_)
                                                refine lv_goto (tgt := 272) hx hb dX9_differs_408 (by decide) ?_
                                                exact ih272 (k + 1) _ _ _ (by omega) (by omega) (hsh) (fun f a b => if hf9 : f = k then (by rw [hf9]; exact (by (try delta Hid at *); first | exact ⟨by omega, fun a9 b9 => (by exfalso; omega)⟩ | exact ⟨by omega, fun a9 b9 => (by rcases hrdf with ⟨e9, h9⟩ | ⟨e9, h9⟩; exact h9; exfalso; omega)⟩)) else hvk f a (by omega)) hw hS (lv_sub hl [3, 4, 5, 6, 7, 8, 9, 0] rfl)
                                              · refine lv_iconst (v := jI 1) hx hb dX9_differs_374 rfl ?_
                                                refine lv_goto (tgt := 379) hx hb dX9_differs_375 (by decide) ?_
                                                refine lv_istore (lv' := [(11, .int (jI 1)), (9, .long (jL (X21 75 0 ((5 * ((30 * sv) + r)) + k)))), (0, .ref (ad 40 0)), (1, .int (jI sv)), (2, .int (jI x)), (3, .int (jI nz)), (4, .int (jI r)), (5, .int (jI ((30 * sv) + r))), (6, .int (jI (120 + r))), (8, .int (jI k))]) hx hb dX9_differs_379 hl (by decide) rfl (fun ls hl => ?_)
                                                refine lv_iload hx hb dX9_differs_381 (lv_at hl 0 rfl) ?_
                                                refine x_if_eqF (tgt := 405) hx hb (by omega) (by decide) dX9_differs_383 (by decide) ?_
                                                refine lv_bipush (v := jI 100) hx hb dX9_differs_386 (by decide) ?_
                                                refine lv_iload hx hb dX9_differs_388 (lv_at hl 6 rfl) ?_
                                                refine x_imul hx hb dX9_differs_390 ?_
                                                refine lv_aload_n hx hb dX9_differs_391 rfl (lv_at hl 2 rfl) ?_
                                                refine x_geto hx hb hf9 hw (by omega) (by omega) sl_40_32 lk90 dX9_differs_392 ?_
                                                refine lv_iconst (v := jI 5) hx hb dX9_differs_395 rfl ?_
                                                refine lv_iload hx hb dX9_differs_396 (lv_at hl 7 rfl) ?_
                                                refine x_imul hx hb dX9_differs_398 ?_
                                                refine lv_iload hx hb dX9_differs_399 (lv_at hl 9 rfl) ?_
                                                refine x_iadd hx hb dX9_differs_401 ?_
                                                refine x_iald hx hb hK.1 hw (by omega) (by omega) ar_73 (len_E ar_73 (by decide)) (by omega) (by omega) (by omega) dX9_differs_402 ?_
                                                have f149 : 0 ≤ X21 73 0 ((5 * ((30 * sv) + r)) + k) ∧ X21 73 0 ((5 * ((30 * sv) + r)) + k) ≤ 19 := hRX21 73 0 ((5 * ((30 * sv) + r)) + k)
                                                refine x_iadd hx hb dX9_differs_403 ?_
                                                refine ret_i (mc := 0) (ms := 0) hx hb hr hlocks hw hS (by omega) (by omega) dX9_differs_404 ?_
                                                have q150 : Frm [4001] X X1 := by rw [hX1]; exact Frm.set Frm.rf (show 4001 ∈ [4001] by decide)
                                                have hrd151 := rdr_eq (L := [4001]) q150 (by decide)
                                                have hsx152 := hsvX21
                                                rw [hrd151.1, hrd151.2.1, hrd151.2.2, Frm.arr q150 48 (by decide +kernel) (by decide), Frm.arr q150 55 (by decide +kernel) (by decide)] at hsx152
                                                exact ⟨X21, rfl, hRX21, hFX21, hMIX21, by omega, S4.tr (S4.frm q150 (by decide)) h4X21, S5.tr (S5.frm q150 (by decide)) h5X21, Or.inr ⟨(by (try delta Hid at *); omega), (by rcases hsx152 with ⟨-, q, -⟩ | ⟨-, -, q⟩; exact absurd q (by decide); exact q), Or.inr ⟨r, by omega, by omega, hall, Or.inr ⟨hsh, k, by omega, by omega, hvk, (fun q => by (try delta Hid at *); first | (have q1 := q.1; omega) | exact absurd (q.2 (by omega) (by omega)) (by assumption) | (rcases hrdf with ⟨e9, h9⟩ | ⟨e9, h9⟩; omega; exact h9 (q.2 (by omega) (by omega)))), by omega⟩⟩⟩⟩
                                        · refine lv_iconst (v := jI 1) hx hb dX9_differs_316 rfl ?_
                                          refine lv_goto (tgt := 321) hx hb dX9_differs_317 (by decide) ?_
                                          refine lv_istore (lv' := [(11, .int (jI 1)), (9, .long (jL (X21 75 0 ((5 * ((30 * sv) + r)) + k)))), (0, .ref (ad 40 0)), (1, .int (jI sv)), (2, .int (jI x)), (3, .int (jI nz)), (4, .int (jI r)), (5, .int (jI ((30 * sv) + r))), (6, .int (jI (120 + r))), (8, .int (jI k))]) hx hb dX9_differs_321 hl (by decide) rfl (fun ls hl => ?_)
                                          refine lv_iload hx hb dX9_differs_323 (lv_at hl 0 rfl) ?_
                                          refine x_if_neT (tgt := 374) hx hb (by omega) (by decide) dX9_differs_325 (by decide) ?_
                                          refine lv_iconst (v := jI 1) hx hb dX9_differs_374 rfl ?_
                                          refine lv_goto (tgt := 379) hx hb dX9_differs_375 (by decide) ?_
                                          refine lv_istore (lv' := [(11, .int (jI 1)), (9, .long (jL (X21 75 0 ((5 * ((30 * sv) + r)) + k)))), (0, .ref (ad 40 0)), (1, .int (jI sv)), (2, .int (jI x)), (3, .int (jI nz)), (4, .int (jI r)), (5, .int (jI ((30 * sv) + r))), (6, .int (jI (120 + r))), (8, .int (jI k))]) hx hb dX9_differs_379 hl (by decide) rfl (fun ls hl => ?_)
                                          refine lv_iload hx hb dX9_differs_381 (lv_at hl 0 rfl) ?_
                                          refine x_if_eqF (tgt := 405) hx hb (by omega) (by decide) dX9_differs_383 (by decide) ?_
                                          refine lv_bipush (v := jI 100) hx hb dX9_differs_386 (by decide) ?_
                                          refine lv_iload hx hb dX9_differs_388 (lv_at hl 6 rfl) ?_
                                          refine x_imul hx hb dX9_differs_390 ?_
                                          refine lv_aload_n hx hb dX9_differs_391 rfl (lv_at hl 2 rfl) ?_
                                          refine x_geto hx hb hf9 hw (by omega) (by omega) sl_40_32 lk90 dX9_differs_392 ?_
                                          refine lv_iconst (v := jI 5) hx hb dX9_differs_395 rfl ?_
                                          refine lv_iload hx hb dX9_differs_396 (lv_at hl 7 rfl) ?_
                                          refine x_imul hx hb dX9_differs_398 ?_
                                          refine lv_iload hx hb dX9_differs_399 (lv_at hl 9 rfl) ?_
                                          refine x_iadd hx hb dX9_differs_401 ?_
                                          refine x_iald hx hb hK.1 hw (by omega) (by omega) ar_73 (len_E ar_73 (by decide)) (by omega) (by omega) (by omega) dX9_differs_402 ?_
                                          have f153 : 0 ≤ X21 73 0 ((5 * ((30 * sv) + r)) + k) ∧ X21 73 0 ((5 * ((30 * sv) + r)) + k) ≤ 19 := hRX21 73 0 ((5 * ((30 * sv) + r)) + k)
                                          refine x_iadd hx hb dX9_differs_403 ?_
                                          refine ret_i (mc := 0) (ms := 0) hx hb hr hlocks hw hS (by omega) (by omega) dX9_differs_404 ?_
                                          have q154 : Frm [4001] X X1 := by rw [hX1]; exact Frm.set Frm.rf (show 4001 ∈ [4001] by decide)
                                          have hrd155 := rdr_eq (L := [4001]) q154 (by decide)
                                          have hsx156 := hsvX21
                                          rw [hrd155.1, hrd155.2.1, hrd155.2.2, Frm.arr q154 48 (by decide +kernel) (by decide), Frm.arr q154 55 (by decide +kernel) (by decide)] at hsx156
                                          exact ⟨X21, rfl, hRX21, hFX21, hMIX21, by omega, S4.tr (S4.frm q154 (by decide)) h4X21, S5.tr (S5.frm q154 (by decide)) h5X21, Or.inr ⟨(by (try delta Hid at *); omega), (by rcases hsx156 with ⟨-, q, -⟩ | ⟨-, -, q⟩; exact absurd q (by decide); exact q), Or.inr ⟨r, by omega, by omega, hall, Or.inr ⟨hsh, k, by omega, by omega, hvk, (fun q => by (try delta Hid at *); first | (have q1 := q.1; omega) | exact absurd (q.2 (by omega) (by omega)) (by assumption) | (rcases hrdf with ⟨e9, h9⟩ | ⟨e9, h9⟩; omega; exact h9 (q.2 (by omega) (by omega)))), by omega⟩⟩⟩⟩
                                  exact lp272 (5 - 0 : Int).toNat.succ 0 _ _ _ (by omega) (by omega) ((by obtain ⟨q1, q2, q3⟩ := hsm1 (by omega); exact ⟨by omega, by omega, q1, q2, fun j a b => q3 j a (by omega)⟩)) (fun f a b => by omega) hw hS (lv_sub hl [1, 2, 3, 4, 5, 6, 7, 0] rfl)
                                · refine lv_bipush (v := jI 100) hx hb dX9_differs_260 (by decide) ?_
                                  refine lv_iload hx hb dX9_differs_262 (lv_at hl 4 rfl) ?_
                                  refine x_imul hx hb dX9_differs_264 ?_
                                  refine lv_bipush (v := jI 99) hx hb dX9_differs_265 (by decide) ?_
                                  refine x_iadd hx hb dX9_differs_267 ?_
                                  refine ret_i (mc := 0) (ms := 0) hx hb hr hlocks hw hS (by omega) (by omega) dX9_differs_268 ?_
                                  have q157 : Frm [4001] X X1 := by rw [hX1]; exact Frm.set Frm.rf (show 4001 ∈ [4001] by decide)
                                  have hrd158 := rdr_eq (L := [4001]) q157 (by decide)
                                  have hsx159 := hsvX21
                                  rw [hrd158.1, hrd158.2.1, hrd158.2.2, Frm.arr q157 48 (by decide +kernel) (by decide), Frm.arr q157 55 (by decide +kernel) (by decide)] at hsx159
                                  exact ⟨X21, rfl, hRX21, hFX21, hMIX21, by omega, S4.tr (S4.frm q157 (by decide)) h4X21, S5.tr (S5.frm q157 (by decide)) h5X21, Or.inr ⟨(by (try delta Hid at *); omega), (by rcases hsx159 with ⟨-, q, -⟩ | ⟨-, -, q⟩; exact absurd q (by decide); exact q), Or.inr ⟨r, by omega, by omega, hall, Or.inl ⟨hsm0 (by omega), by omega⟩⟩⟩⟩
                              · refine lv_aload_n hx hb dX9_differs_188 rfl (lv_at hl 0 rfl) ?_
                                refine x_geto hx hb hf9 hw (by omega) (by omega) sl_40_32 lk90 dX9_differs_189 ?_
                                refine lv_iconst (v := jI 5) hx hb dX9_differs_192 rfl ?_
                                refine lv_iload hx hb dX9_differs_193 (lv_at hl 5 rfl) ?_
                                refine x_imul hx hb dX9_differs_195 ?_
                                refine lv_iload hx hb dX9_differs_196 (lv_at hl 8 rfl) ?_
                                refine x_iadd hx hb dX9_differs_198 ?_
                                refine x_iald hx hb hK.1 hw (by omega) (by omega) ar_73 (len_E ar_73 (by decide)) (by omega) (by omega) (by omega) dX9_differs_199 ?_
                                have f160 : 0 ≤ X21 73 0 ((5 * ((30 * sv) + r)) + k) ∧ X21 73 0 ((5 * ((30 * sv) + r)) + k) ≤ 19 := hRX21 73 0 ((5 * ((30 * sv) + r)) + k)
                                refine lv_aload_n hx hb dX9_differs_200 rfl (lv_at hl 0 rfl) ?_
                                refine x_geto hx hb hf9 hw (by omega) (by omega) sl_40_32 lk90 dX9_differs_201 ?_
                                refine lv_iconst (v := jI 5) hx hb dX9_differs_204 rfl ?_
                                refine lv_iload hx hb dX9_differs_205 (lv_at hl 6 rfl) ?_
                                refine x_imul hx hb dX9_differs_207 ?_
                                refine lv_iload hx hb dX9_differs_208 (lv_at hl 8 rfl) ?_
                                refine x_iadd hx hb dX9_differs_210 ?_
                                refine x_iald hx hb hK.1 hw (by omega) (by omega) ar_73 (len_E ar_73 (by decide)) (by omega) (by omega) (by omega) dX9_differs_211 ?_
                                have f161 : 0 ≤ X21 73 0 ((5 * (120 + r)) + k) ∧ X21 73 0 ((5 * (120 + r)) + k) ≤ 19 := hRX21 73 0 ((5 * (120 + r)) + k)
                                refine x_icmp_ne (tgt := 246) hx hb (by omega) (by omega) dX9_differs_212 (by decide) (fun c162 => ?_) (fun c162 => ?_)
                                · refine lv_iconst (v := jI 0) hx hb dX9_differs_246 rfl ?_
                                  refine lv_istore (lv' := [(7, .int (jI 0)), (0, .ref (ad 40 0)), (1, .int (jI sv)), (2, .int (jI x)), (3, .int (jI nz)), (4, .int (jI r)), (5, .int (jI ((30 * sv) + r))), (6, .int (jI (120 + r))), (8, .int (jI k))]) hx hb dX9_differs_247 hl (by decide) rfl (fun ls hl => ?_)
                                  refine lv_iinc (v := jI (k + 1)) (lv' := [(8, .int (jI (k + 1))), (7, .int (jI 0)), (0, .ref (ad 40 0)), (1, .int (jI sv)), (2, .int (jI x)), (3, .int (jI nz)), (4, .int (jI r)), (5, .int (jI ((30 * sv) + r))), (6, .int (jI (120 + r)))]) hx hb dX9_differs_249 hl (k := 8) rfl (jI_add _ _) (by decide) rfl (fun ls hl => ?_)
                                  refine lv_goto (tgt := 171) hx hb dX9_differs_252 (by decide) ?_
                                  exact ih171 0 (k + 1) _ _ _ (by omega) (by omega) (by omega) (fun q => (by obtain ⟨q1, q2, q3⟩ := hsm1 (by omega); exact ⟨q1, q2, fun j a b => if hj : j = k then (by rw [hj]; exact ⟨by omega, by omega⟩) else q3 j a (by omega)⟩)) (fun q e => (by have h9 := e.2.2.2.2 k (by omega) (by omega); omega)) hw hS (lv_sub hl [2, 3, 4, 5, 6, 7, 8, 1, 0] rfl)
                                · refine lv_aload_n hx hb dX9_differs_215 rfl (lv_at hl 0 rfl) ?_
                                  refine x_geto hx hb hf9 hw (by omega) (by omega) sl_40_33 lk93 dX9_differs_216 ?_
                                  refine lv_iconst (v := jI 5) hx hb dX9_differs_219 rfl ?_
                                  refine lv_iload hx hb dX9_differs_220 (lv_at hl 5 rfl) ?_
                                  refine x_imul hx hb dX9_differs_222 ?_
                                  refine lv_iload hx hb dX9_differs_223 (lv_at hl 8 rfl) ?_
                                  refine x_iadd hx hb dX9_differs_225 ?_
                                  refine x_iald hx hb hK.1 hw (by omega) (by omega) ar_74 (len_E ar_74 (by decide)) (by omega) (by omega) (by omega) dX9_differs_226 ?_
                                  have f163 : 0 ≤ X21 74 0 ((5 * ((30 * sv) + r)) + k) ∧ X21 74 0 ((5 * ((30 * sv) + r)) + k) ≤ 5 := hRX21 74 0 ((5 * ((30 * sv) + r)) + k)
                                  refine lv_aload_n hx hb dX9_differs_227 rfl (lv_at hl 0 rfl) ?_
                                  refine x_geto hx hb hf9 hw (by omega) (by omega) sl_40_33 lk93 dX9_differs_228 ?_
                                  refine lv_iconst (v := jI 5) hx hb dX9_differs_231 rfl ?_
                                  refine lv_iload hx hb dX9_differs_232 (lv_at hl 6 rfl) ?_
                                  refine x_imul hx hb dX9_differs_234 ?_
                                  refine lv_iload hx hb dX9_differs_235 (lv_at hl 8 rfl) ?_
                                  refine x_iadd hx hb dX9_differs_237 ?_
                                  refine x_iald hx hb hK.1 hw (by omega) (by omega) ar_74 (len_E ar_74 (by decide)) (by omega) (by omega) (by omega) dX9_differs_238 ?_
                                  have f164 : 0 ≤ X21 74 0 ((5 * (120 + r)) + k) ∧ X21 74 0 ((5 * (120 + r)) + k) ≤ 5 := hRX21 74 0 ((5 * (120 + r)) + k)
                                  refine x_icmp_ne (tgt := 246) hx hb (by omega) (by omega) dX9_differs_239 (by decide) (fun c165 => ?_) (fun c165 => ?_)
                                  · refine lv_iconst (v := jI 0) hx hb dX9_differs_246 rfl ?_
                                    refine lv_istore (lv' := [(7, .int (jI 0)), (0, .ref (ad 40 0)), (1, .int (jI sv)), (2, .int (jI x)), (3, .int (jI nz)), (4, .int (jI r)), (5, .int (jI ((30 * sv) + r))), (6, .int (jI (120 + r))), (8, .int (jI k))]) hx hb dX9_differs_247 hl (by decide) rfl (fun ls hl => ?_)
                                    refine lv_iinc (v := jI (k + 1)) (lv' := [(8, .int (jI (k + 1))), (7, .int (jI 0)), (0, .ref (ad 40 0)), (1, .int (jI sv)), (2, .int (jI x)), (3, .int (jI nz)), (4, .int (jI r)), (5, .int (jI ((30 * sv) + r))), (6, .int (jI (120 + r)))]) hx hb dX9_differs_249 hl (k := 8) rfl (jI_add _ _) (by decide) rfl (fun ls hl => ?_)
                                    refine lv_goto (tgt := 171) hx hb dX9_differs_252 (by decide) ?_
                                    exact ih171 0 (k + 1) _ _ _ (by omega) (by omega) (by omega) (fun q => (by obtain ⟨q1, q2, q3⟩ := hsm1 (by omega); exact ⟨q1, q2, fun j a b => if hj : j = k then (by rw [hj]; exact ⟨by omega, by omega⟩) else q3 j a (by omega)⟩)) (fun q e => (by have h9 := e.2.2.2.2 k (by omega) (by omega); omega)) hw hS (lv_sub hl [2, 3, 4, 5, 6, 7, 8, 1, 0] rfl)
                                  · refine lv_iconst (v := jI 1) hx hb dX9_differs_242 rfl ?_
                                    refine lv_goto (tgt := 247) hx hb dX9_differs_243 (by decide) ?_
                                    refine lv_istore (lv' := [(7, .int (jI 1)), (0, .ref (ad 40 0)), (1, .int (jI sv)), (2, .int (jI x)), (3, .int (jI nz)), (4, .int (jI r)), (5, .int (jI ((30 * sv) + r))), (6, .int (jI (120 + r))), (8, .int (jI k))]) hx hb dX9_differs_247 hl (by decide) rfl (fun ls hl => ?_)
                                    refine lv_iinc (v := jI (k + 1)) (lv' := [(8, .int (jI (k + 1))), (7, .int (jI 1)), (0, .ref (ad 40 0)), (1, .int (jI sv)), (2, .int (jI x)), (3, .int (jI nz)), (4, .int (jI r)), (5, .int (jI ((30 * sv) + r))), (6, .int (jI (120 + r)))]) hx hb dX9_differs_249 hl (k := 8) rfl (jI_add _ _) (by decide) rfl (fun ls hl => ?_)
                                    refine lv_goto (tgt := 171) hx hb dX9_differs_252 (by decide) ?_
                                    exact ih171 1 (k + 1) _ _ _ (by omega) (by omega) (by omega) (fun q => (by obtain ⟨q1, q2, q3⟩ := hsm1 (by omega); exact ⟨q1, q2, fun j a b => if hj : j = k then (by rw [hj]; exact ⟨by omega, by omega⟩) else q3 j a (by omega)⟩)) (fun q e => (by have h9 := e.2.2.2.2 k (by omega) (by omega); omega)) hw hS (lv_sub hl [2, 3, 4, 5, 6, 7, 8, 1, 0] rfl)
                        exact lp171 (5 - 0 : Int).toNat.succ 0 0 _ _ _ (by omega) (by omega) (by omega) (fun q => ⟨by omega, by omega, fun j a b => by omega⟩) (fun q e => by obtain ⟨q1, q2, q3, q4, -⟩ := e; omega) hw hS (lv_sub hl [4, 5, 6, 7, 8, 3, 2, 1, 0] rfl)
                      · refine lv_iconst (v := jI 1) hx hb dX9_differs_161 rfl ?_
                        refine lv_goto (tgt := 166) hx hb dX9_differs_162 (by decide) ?_
                        refine lv_istore (lv' := [(7, .int (jI 1)), (6, .int (jI (120 + r))), (5, .int (jI ((30 * sv) + r))), (0, .ref (ad 40 0)), (1, .int (jI sv)), (2, .int (jI x)), (3, .int (jI nz)), (4, .int (jI r))]) hx hb dX9_differs_166 hl (by decide) rfl (fun ls hl => ?_)
                        refine lv_iconst (v := jI 0) hx hb dX9_differs_168 rfl ?_
                        refine lv_istore (lv' := [(8, .int (jI 0)), (7, .int (jI 1)), (6, .int (jI (120 + r))), (5, .int (jI ((30 * sv) + r))), (0, .ref (ad 40 0)), (1, .int (jI sv)), (2, .int (jI x)), (3, .int (jI nz)), (4, .int (jI r))]) hx hb dX9_differs_169 hl (by decide) rfl (fun ls hl => ?_)
                        have lp171 : ∀ (nn : Nat) (sm : Int) (k : Int) (H : Heap) (locs : List Loc) (ls : Array Slot), (5 - k) < (nn : Int) → (0 ≤ sm ∧ sm ≤ 1) → (0 ≤ k ∧ k ≤ 5) → (sm = 1 → X21 71 0 (30 * sv + r) = X21 71 0 (120 + r) ∧ X21 72 0 (30 * sv + r) = X21 72 0 (120 + r) ∧ ∀ j, 0 ≤ j → j < k → X21 73 0 (5 * (30 * sv + r) + j) = X21 73 0 (5 * (120 + r) + j) ∧ X21 74 0 (5 * (30 * sv + r) + j) = X21 74 0 (5 * (120 + r) + j)) → (sm = 0 → ¬ shM X21 sv r) → wd D tc base (ad, cnt, X21, Y, ln) H → va_S (frA base) s.heap H locs → lv_has ls 12 [(0, .ref (ad 40 0)), (1, .int (jI sv)), (2, .int (jI x)), (3, .int (jI nz)), (4, .int (jI r)), (5, .int (jI ((30 * sv) + r))), (6, .int (jI (120 + r))), (7, .int (jI sm)), (8, .int (jI k))] → W p l e ({ frames := 2, cells := 0, slots := 0, locals := 53 } : Room) s m ([.ref (ad 40 0), .int (jI sv), .int (jI x)] : List Value).toArray below meth c H locs 0 0 (MQ below (QI D tc base (fun z u => ∃ X1 : Nat → Int → Int → Int, u = (ad, cnt, X1, Y, ln) ∧ Rng X1 ∧ Frm [4001, 7100, 7200, 7300, 7400, 7500, 8000, 7000, 8100, 7700, 7800, 7900, 7600, 4042, 4043, 4044] X X1 ∧ MInv X1 ∧ (-2147483648 ≤ z ∧ z ≤ 2147483647) ∧ S4 X X1 ∧ S5 X X1 ∧ ((¬ ((0 ≤ sv ∧ sv < 4) ∧ X 70 0 sv ≠ 0 ∧ (0 ≤ x ∧ x < X 40 0 13)) ∧ z = -2) ∨ (((0 ≤ sv ∧ sv < 4) ∧ X 70 0 sv ≠ 0 ∧ (0 ≤ x ∧ x < X 40 0 13)) ∧ (rmT X1 (recR (fcM X) (lnM X) (mRid X) (mRid X) x 30) ∧ rmR X1 (recR (fcM X) (lnM X) (mRid X) (mRid X) x 30) ∧ rmV X1 (recR (fcM X) (lnM X) (mRid X) (mRid X) x 30) (recR (fcM X) (lnM X) (mRid X) (mRid X) x 30 0 0) 0) ∧ dfP (mxM X1 sv) (shM X1 sv) (fun r => X1 72 0 (30 * sv + r)) (vqM X1 sv) (fun r f => X1 73 0 (5 * (30 * sv + r) + f)) z)))) ([.ref (ad 40 0), .int (jI sv), .int (jI x)] : List Value).toArray s 0 0 (frA base)) (F0 m 171 ls []) := by
                          intro nn
                          induction nn with
                          | zero => intro sm k H locs ls hm hsm hk hsm1 hsm0 hw hS hl; exfalso; omega
                          | succ nn ih171 =>
                            intro sm k H locs ls hm hsm hk hsm1 hsm0 hw hS hl
                            skip
                            refine lv_iload hx hb dX9_differs_171 (lv_at hl 7 rfl) ?_
                            refine x_if_eq (tgt := 255) hx hb (by omega) dX9_differs_173 (by decide) (fun c166 => ?_) (fun c166 => ?_)
                            · refine lv_iload hx hb dX9_differs_255 (lv_at hl 7 rfl) ?_
                              refine x_if_ne (tgt := 269) hx hb (by omega) dX9_differs_257 (by decide) (fun c167 => ?_) (fun c167 => ?_)
                              · refine lv_iconst (v := jI 0) hx hb dX9_differs_269 rfl ?_
                                refine lv_istore (lv' := [(8, .int (jI 0)), (0, .ref (ad 40 0)), (1, .int (jI sv)), (2, .int (jI x)), (3, .int (jI nz)), (4, .int (jI r)), (5, .int (jI ((30 * sv) + r))), (6, .int (jI (120 + r))), (7, .int (jI sm))]) hx hb dX9_differs_270 hl (by decide) rfl (fun ls hl => ?_)
                                have lp272 : ∀ (nn : Nat) (k : Int) (H : Heap) (locs : List Loc) (ls : Array Slot), (5 - k) < (nn : Int) → (0 ≤ k ∧ k ≤ 5) → (shM X21 sv r) → (∀ f, 0 ≤ f → f < k → vqM X21 sv r f) → wd D tc base (ad, cnt, X21, Y, ln) H → va_S (frA base) s.heap H locs → lv_has ls 12 [(0, .ref (ad 40 0)), (1, .int (jI sv)), (2, .int (jI x)), (3, .int (jI nz)), (4, .int (jI r)), (5, .int (jI ((30 * sv) + r))), (6, .int (jI (120 + r))), (8, .int (jI k))] → W p l e ({ frames := 2, cells := 0, slots := 0, locals := 53 } : Room) s m ([.ref (ad 40 0), .int (jI sv), .int (jI x)] : List Value).toArray below meth c H locs 0 0 (MQ below (QI D tc base (fun z u => ∃ X1 : Nat → Int → Int → Int, u = (ad, cnt, X1, Y, ln) ∧ Rng X1 ∧ Frm [4001, 7100, 7200, 7300, 7400, 7500, 8000, 7000, 8100, 7700, 7800, 7900, 7600, 4042, 4043, 4044] X X1 ∧ MInv X1 ∧ (-2147483648 ≤ z ∧ z ≤ 2147483647) ∧ S4 X X1 ∧ S5 X X1 ∧ ((¬ ((0 ≤ sv ∧ sv < 4) ∧ X 70 0 sv ≠ 0 ∧ (0 ≤ x ∧ x < X 40 0 13)) ∧ z = -2) ∨ (((0 ≤ sv ∧ sv < 4) ∧ X 70 0 sv ≠ 0 ∧ (0 ≤ x ∧ x < X 40 0 13)) ∧ (rmT X1 (recR (fcM X) (lnM X) (mRid X) (mRid X) x 30) ∧ rmR X1 (recR (fcM X) (lnM X) (mRid X) (mRid X) x 30) ∧ rmV X1 (recR (fcM X) (lnM X) (mRid X) (mRid X) x 30) (recR (fcM X) (lnM X) (mRid X) (mRid X) x 30 0 0) 0) ∧ dfP (mxM X1 sv) (shM X1 sv) (fun r => X1 72 0 (30 * sv + r)) (vqM X1 sv) (fun r f => X1 73 0 (5 * (30 * sv + r) + f)) z)))) ([.ref (ad 40 0), .int (jI sv), .int (jI x)] : List Value).toArray s 0 0 (frA base)) (F0 m 272 ls []) := by
                                  intro nn
                                  induction nn with
                                  | zero => intro k H locs ls hm hk hsh hvk hw hS hl; exfalso; omega
                                  | succ nn ih272 =>
                                    intro k H locs ls hm hk hsh hvk hw hS hl
                                    refine lv_iload hx hb dX9_differs_272 (lv_at hl 7 rfl) ?_
                                    refine lv_aload_n hx hb dX9_differs_274 rfl (lv_at hl 0 rfl) ?_
                                    refine x_geto hx hb hf9 hw (by omega) (by omega) sl_40_31 lk87 dX9_differs_275 ?_
                                    refine lv_iload hx hb dX9_differs_278 (lv_at hl 5 rfl) ?_
                                    refine x_iald hx hb hK.1 hw (by omega) (by omega) ar_72 (len_E ar_72 (by decide)) (by omega) (by omega) (by omega) dX9_differs_280 ?_
                                    have f168 : 0 ≤ X21 72 0 ((30 * sv) + r) ∧ X21 72 0 ((30 * sv) + r) ≤ 5 := hRX21 72 0 ((30 * sv) + r)
                                    refine x_icmp_ge (tgt := 411) hx hb (by omega) (by omega) dX9_differs_281 (by decide) (fun c169 => ?_) (fun c169 => ?_)
                                    · refine lv_iinc (v := jI (r + 1)) (lv' := [(4, .int (jI (r + 1))), (0, .ref (ad 40 0)), (1, .int (jI sv)), (2, .int (jI x)), (3, .int (jI nz)), (5, .int (jI ((30 * sv) + r))), (6, .int (jI (120 + r))), (8, .int (jI k))]) hx hb dX9_differs_411 hl (k := 4) rfl (jI_add _ _) (by decide) rfl (fun ls hl => ?_)
                                      refine lv_goto (tgt := 74) hx hb dX9_differs_414 (by decide) ?_
                                      exact ih74 nz (r + 1) _ _ _ (by omega) (by omega) (by omega) (hnzv) (fun r' a b => if hr9 : r' = r then (by rw [hr9]; exact ⟨hsh, fun f f0 f1 => hvk f f0 (by omega)⟩) else hall r' a (by omega)) hw hS (lv_sub hl [1, 2, 3, 4, 0] rfl)
                                    · refine lv_aload_n hx hb dX9_differs_284 rfl (lv_at hl 0 rfl) ?_
                                      refine x_geto hx hb hf9 hw (by omega) (by omega) sl_40_34 lk96 dX9_differs_285 ?_
                                      refine lv_iconst (v := jI 5) hx hb dX9_differs_288 rfl ?_
                                      refine lv_iload hx hb dX9_differs_289 (lv_at hl 5 rfl) ?_
                                      refine x_imul hx hb dX9_differs_291 ?_
                                      refine lv_iload hx hb dX9_differs_292 (lv_at hl 7 rfl) ?_
                                      refine x_iadd hx hb dX9_differs_294 ?_
                                      obtain ⟨hv1, hv2, hv3⟩ := (hMIX21.2.2.1 sv r (by omega) (by omega) (by omega) (by omega)).2 k (by omega) (by omega)
                                      refine x_lald hx hb hK.1 hw (by omega) (by omega) ar_75 (len_E ar_75 (by decide)) (by omega) (by omega) (by omega) dX9_differs_295 ?_
                                      have f170 : (-9223372036854775808) ≤ X21 75 0 ((5 * ((30 * sv) + r)) + k) ∧ X21 75 0 ((5 * ((30 * sv) + r)) + k) ≤ 9223372036854775807 := hRX21 75 0 ((5 * ((30 * sv) + r)) + k)
                                      refine lv_lstore (lv' := [(9, .long (jL (X21 75 0 ((5 * ((30 * sv) + r)) + k)))), (0, .ref (ad 40 0)), (1, .int (jI sv)), (2, .int (jI x)), (3, .int (jI nz)), (4, .int (jI r)), (5, .int (jI ((30 * sv) + r))), (6, .int (jI (120 + r))), (8, .int (jI k))]) hx hb dX9_differs_296 hl (by decide) rfl (fun ls hl => ?_)
                                      refine lv_lload hx hb dX9_differs_298 (lv_at hl 0 rfl) ?_
                                      refine lv_aload_n hx hb dX9_differs_300 rfl (lv_at hl 1 rfl) ?_
                                      refine x_geto hx hb hf9 hw (by omega) (by omega) sl_40_34 lk96 dX9_differs_301 ?_
                                      refine lv_iconst (v := jI 5) hx hb dX9_differs_304 rfl ?_
                                      refine lv_iload hx hb dX9_differs_305 (lv_at hl 7 rfl) ?_
                                      refine x_imul hx hb dX9_differs_307 ?_
                                      refine lv_iload hx hb dX9_differs_308 (lv_at hl 8 rfl) ?_
                                      refine x_iadd hx hb dX9_differs_310 ?_
                                      refine x_lald hx hb hK.1 hw (by omega) (by omega) ar_75 (len_E ar_75 (by decide)) (by omega) (by omega) (by omega) dX9_differs_311 ?_
                                      have f171 : (-9223372036854775808) ≤ X21 75 0 ((5 * (120 + r)) + k) ∧ X21 75 0 ((5 * (120 + r)) + k) ≤ 9223372036854775807 := hRX21 75 0 ((5 * (120 + r)) + k)
                                      refine x_lcmp hx hb (by omega) (by omega) dX9_differs_312 ?_
                                      obtain ⟨z172, ez172⟩ : ∃ y : Int, y = cmpZ (X21 75 0 ((5 * ((30 * sv) + r)) + k)) (X21 75 0 ((5 * (120 + r)) + k)) := ⟨_, rfl⟩
                                      rw [← ez172]
                                      have gz172 : (z172 < 0 ↔ ((X21 75 0 ((5 * ((30 * sv) + r)) + k)) : Int) < (X21 75 0 ((5 * (120 + r)) + k))) ∧ (z172 = 0 ↔ ((X21 75 0 ((5 * ((30 * sv) + r)) + k)) : Int) = (X21 75 0 ((5 * (120 + r)) + k))) ∧ -1 ≤ z172 ∧ z172 ≤ 1 := by rw [ez172]; exact ⟨cmpZ_lt, cmpZ_eq, (cmpZ_r _ _).1, (cmpZ_r _ _).2⟩
                                      clear ez172
                                      refine x_if_eq (tgt := 320) hx hb (by omega) dX9_differs_313 (by decide) (fun c173 => ?_) (fun c173 => ?_)
                                      · refine lv_iconst (v := jI 0) hx hb dX9_differs_320 rfl ?_
                                        refine lv_istore (lv' := [(11, .int (jI 0)), (9, .long (jL (X21 75 0 ((5 * ((30 * sv) + r)) + k)))), (0, .ref (ad 40 0)), (1, .int (jI sv)), (2, .int (jI x)), (3, .int (jI nz)), (4, .int (jI r)), (5, .int (jI ((30 * sv) + r))), (6, .int (jI (120 + r))), (8, .int (jI k))]) hx hb dX9_differs_321 hl (by decide) rfl (fun ls hl => ?_)
                                        refine lv_iload hx hb dX9_differs_323 (lv_at hl 0 rfl) ?_
                                        refine x_if_neF (tgt := 374) hx hb (by omega) (by decide) dX9_differs_325 (by decide) ?_
                                        refine lv_aload_n hx hb dX9_differs_328 rfl (lv_at hl 2 rfl) ?_
                                        refine x_geto hx hb hf9 hw (by omega) (by omega) sl_40_33 lk93 dX9_differs_329 ?_
                                        refine lv_iconst (v := jI 5) hx hb dX9_differs_332 rfl ?_
                                        refine lv_iload hx hb dX9_differs_333 (lv_at hl 7 rfl) ?_
                                        refine x_imul hx hb dX9_differs_335 ?_
                                        refine lv_iload hx hb dX9_differs_336 (lv_at hl 9 rfl) ?_
                                        refine x_iadd hx hb dX9_differs_338 ?_
                                        refine x_iald hx hb hK.1 hw (by omega) (by omega) ar_74 (len_E ar_74 (by decide)) (by omega) (by omega) (by omega) dX9_differs_339 ?_
                                        have f174 : 0 ≤ X21 74 0 ((5 * ((30 * sv) + r)) + k) ∧ X21 74 0 ((5 * ((30 * sv) + r)) + k) ≤ 5 := hRX21 74 0 ((5 * ((30 * sv) + r)) + k)
                                        refine lv_iconst (v := jI 2) hx hb dX9_differs_340 rfl ?_
                                        refine x_icmp_le (tgt := 378) hx hb (by omega) (by omega) dX9_differs_341 (by decide) (fun c175 => ?_) (fun c175 => ?_)
                                        · refine lv_iconst (v := jI 0) hx hb dX9_differs_378 rfl ?_
                                          refine lv_istore (lv' := [(11, .int (jI 0)), (9, .long (jL (X21 75 0 ((5 * ((30 * sv) + r)) + k)))), (0, .ref (ad 40 0)), (1, .int (jI sv)), (2, .int (jI x)), (3, .int (jI nz)), (4, .int (jI r)), (5, .int (jI ((30 * sv) + r))), (6, .int (jI (120 + r))), (8, .int (jI k))]) hx hb dX9_differs_379 hl (by decide) rfl (fun ls hl => ?_)
                                          refine lv_iload hx hb dX9_differs_381 (lv_at hl 0 rfl) ?_
                                          refine x_if_eqT (tgt := 405) hx hb (by omega) (by decide) dX9_differs_383 (by decide) ?_
                                          refine lv_iinc (v := jI (k + 1)) (lv' := [(8, .int (jI (k + 1))), (11, .int (jI 0)), (9, .long (jL (X21 75 0 ((5 * ((30 * sv) + r)) + k)))), (0, .ref (ad 40 0)), (1, .int (jI sv)), (2, .int (jI x)), (3, .int (jI nz)), (4, .int (jI r)), (5, .int (jI ((30 * sv) + r))), (6, .int (jI (120 + r)))]) hx hb dX9_differs_405 hl (k := 9) rfl (jI_add _ _) (by decide) rfl (fun ls hl => ?_)
                                          refine lv_goto (tgt := 272) hx hb dX9_differs_408 (by decide) ?_
                                          exact ih272 (k + 1) _ _ _ (by omega) (by omega) (hsh) (fun f a b => if hf9 : f = k then (by rw [hf9]; exact (by (try delta Hid at *); first | exact ⟨by omega, fun a9 b9 => (by exfalso; omega)⟩ | exact ⟨by omega, fun a9 b9 => (by rcases hrdf with ⟨e9, h9⟩ | ⟨e9, h9⟩; exact h9; exfalso; omega)⟩)) else hvk f a (by omega)) hw hS (lv_sub hl [3, 4, 5, 6, 7, 8, 9, 0] rfl)
                                        · refine lv_lload hx hb dX9_differs_344 (lv_at hl 1 rfl) ?_
                                          refine lv_lconst (v := jL 0) hx hb dX9_differs_346 (by decide) ?_
                                          refine x_lcmp hx hb (by omega) (by omega) dX9_differs_347 ?_
                                          obtain ⟨z176, ez176⟩ : ∃ y : Int, y = cmpZ (X21 75 0 ((5 * ((30 * sv) + r)) + k)) 0 := ⟨_, rfl⟩
                                          rw [← ez176]
                                          have gz176 : (z176 < 0 ↔ ((X21 75 0 ((5 * ((30 * sv) + r)) + k)) : Int) < 0) ∧ (z176 = 0 ↔ ((X21 75 0 ((5 * ((30 * sv) + r)) + k)) : Int) = 0) ∧ -1 ≤ z176 ∧ z176 ≤ 1 := by rw [ez176]; exact ⟨cmpZ_lt, cmpZ_eq, (cmpZ_r _ _).1, (cmpZ_r _ _).2⟩
                                          clear ez176
                                          refine x_if_lt (tgt := 378) hx hb (by omega) dX9_differs_348 (by decide) (fun c177 => ?_) (fun c177 => ?_)
                                          · refine lv_iconst (v := jI 0) hx hb dX9_differs_378 rfl ?_
                                            refine lv_istore (lv' := [(11, .int (jI 0)), (9, .long (jL (X21 75 0 ((5 * ((30 * sv) + r)) + k)))), (0, .ref (ad 40 0)), (1, .int (jI sv)), (2, .int (jI x)), (3, .int (jI nz)), (4, .int (jI r)), (5, .int (jI ((30 * sv) + r))), (6, .int (jI (120 + r))), (8, .int (jI k))]) hx hb dX9_differs_379 hl (by decide) rfl (fun ls hl => ?_)
                                            refine lv_iload hx hb dX9_differs_381 (lv_at hl 0 rfl) ?_
                                            refine x_if_eqT (tgt := 405) hx hb (by omega) (by decide) dX9_differs_383 (by decide) ?_
                                            refine lv_iinc (v := jI (k + 1)) (lv' := [(8, .int (jI (k + 1))), (11, .int (jI 0)), (9, .long (jL (X21 75 0 ((5 * ((30 * sv) + r)) + k)))), (0, .ref (ad 40 0)), (1, .int (jI sv)), (2, .int (jI x)), (3, .int (jI nz)), (4, .int (jI r)), (5, .int (jI ((30 * sv) + r))), (6, .int (jI (120 + r)))]) hx hb dX9_differs_405 hl (k := 9) rfl (jI_add _ _) (by decide) rfl (fun ls hl => ?_)
                                            refine lv_goto (tgt := 272) hx hb dX9_differs_408 (by decide) ?_
                                            exact ih272 (k + 1) _ _ _ (by omega) (by omega) (hsh) (fun f a b => if hf9 : f = k then (by rw [hf9]; exact (by (try delta Hid at *); first | exact ⟨by omega, fun a9 b9 => (by exfalso; omega)⟩ | exact ⟨by omega, fun a9 b9 => (by rcases hrdf with ⟨e9, h9⟩ | ⟨e9, h9⟩; exact h9; exfalso; omega)⟩)) else hvk f a (by omega)) hw hS (lv_sub hl [3, 4, 5, 6, 7, 8, 9, 0] rfl)
                                          · refine lv_aload_n hx hb dX9_differs_351 rfl (lv_at hl 2 rfl) ?_
                                            refine lv_sipush (v := jI 150) hx hb dX9_differs_352 (by decide) ?_
                                            refine lv_iload_n hx hb dX9_differs_355 rfl (lv_at hl 3 rfl) ?_
                                            refine x_imul hx hb dX9_differs_356 ?_
                                            refine lv_lload hx hb dX9_differs_357 (lv_at hl 1 rfl) ?_
                                            refine x_l2i hx hb dX9_differs_359 ?_
                                            refine x_iadd hx hb dX9_differs_360 ?_
                                            refine lv_sipush (v := jI 600) hx hb dX9_differs_361 (by decide) ?_
                                            refine lv_lload hx hb dX9_differs_364 (lv_at hl 1 rfl) ?_
                                            refine x_l2i hx hb dX9_differs_366 ?_
                                            refine x_iadd hx hb dX9_differs_367 ?_
                                            refine gos_i (run_V (As := [.int (jI ((150 * sv) + (X21 75 0 ((5 * ((30 * sv) + r)) + k)))), .int (jI (600 + (X21 75 0 ((5 * ((30 * sv) + r)) + k))))]) (rest := []) hx hb hml hown hts (c_X9_rowsDiffer l D tc base ad cnt X21 Y ln hRX21 hFx hMIX21 ((150 * sv) + (X21 75 0 ((5 * ((30 * sv) + r)) + k))) (600 + (X21 75 0 ((5 * ((30 * sv) + r)) + k))) (by omega) (by omega)) (cwV 2 hts gX9_differs_X9_rowsDiffer rfl rfl rfl (by decide +kernel) ⟨Nat.le_of_ble_eq_true rfl, Nat.le_of_ble_eq_true rfl⟩) hK hw (by omega) (by omega) sl_40_0 rfl rfl hl.1 rfl (Nat.le_of_ble_eq_true rfl) dX9_differs_368 ⟨Nat.le_of_ble_eq_true rfl, Nat.le_of_ble_eq_true rfl⟩) hS (fun z178 u179 H locs p180 hw hS => ?_)
                                            obtain ⟨eu179, p180, hrdf⟩ := p180
                                            subst eu179
                                            refine x_if_eq (tgt := 378) hx hb (by omega) dX9_differs_371 (by decide) (fun c181 => ?_) (fun c181 => ?_)
                                            · refine lv_iconst (v := jI 0) hx hb dX9_differs_378 rfl ?_
                                              refine lv_istore (lv' := [(11, .int (jI 0)), (9, .long (jL (X21 75 0 ((5 * ((30 * sv) + r)) + k)))), (0, .ref (ad 40 0)), (1, .int (jI sv)), (2, .int (jI x)), (3, .int (jI nz)), (4, .int (jI r)), (5, .int (jI ((30 * sv) + r))), (6, .int (jI (120 + r))), (8, .int (jI k))]) hx hb dX9_differs_379 hl (by decide) rfl (fun ls hl => ?_)
                                              refine lv_iload hx hb dX9_differs_381 (lv_at hl 0 rfl) ?_
                                              refine x_if_eqT (tgt := 405) hx hb (by omega) (by decide) dX9_differs_383 (by decide) ?_
                                              refine lv_iinc (v := jI (k + 1)) (lv' := [(8, .int (jI (k + 1))), (11, .int (jI 0)), (9, .long (jL (X21 75 0 ((5 * ((30 * sv) + r)) + k)))), (0, .ref (ad 40 0)), (1, .int (jI sv)), (2, .int (jI x)), (3, .int (jI nz)), (4, .int (jI r)), (5, .int (jI ((30 * sv) + r))), (6, .int (jI (120 + r)))]) hx hb dX9_differs_405 hl (k := 9) rfl (jI_add _ _) (by decide) rfl (fun ls hl => ?_)
                                              refine lv_goto (tgt := 272) hx hb dX9_differs_408 (by decide) ?_
                                              exact ih272 (k + 1) _ _ _ (by omega) (by omega) (hsh) (fun f a b => if hf9 : f = k then (by rw [hf9]; exact (by (try delta Hid at *); first | exact ⟨by omega, fun a9 b9 => (by exfalso; omega)⟩ | exact ⟨by omega, fun a9 b9 => (by rcases hrdf with ⟨e9, h9⟩ | ⟨e9, h9⟩; exact h9; exfalso; omega)⟩)) else hvk f a (by omega)) hw hS (lv_sub hl [3, 4, 5, 6, 7, 8, 9, 0] rfl)
                                            · refine lv_iconst (v := jI 1) hx hb dX9_differs_374 rfl ?_
                                              refine lv_goto (tgt := 379) hx hb dX9_differs_375 (by decide) ?_
                                              refine lv_istore (lv' := [(11, .int (jI 1)), (9, .long (jL (X21 75 0 ((5 * ((30 * sv) + r)) + k)))), (0, .ref (ad 40 0)), (1, .int (jI sv)), (2, .int (jI x)), (3, .int (jI nz)), (4, .int (jI r)), (5, .int (jI ((30 * sv) + r))), (6, .int (jI (120 + r))), (8, .int (jI k))]) hx hb dX9_differs_379 hl (by decide) rfl (fun ls hl => ?_)
                                              refine lv_iload hx hb dX9_differs_381 (lv_at hl 0 rfl) ?_
                                              refine x_if_eqF (tgt := 405) hx hb (by omega) (by decide) dX9_differs_383 (by decide) ?_
                                              refine lv_bipush (v := jI 100) hx hb dX9_differs_386 (by decide) ?_
                                              refine lv_iload hx hb dX9_differs_388 (lv_at hl 6 rfl) ?_
                                              refine x_imul hx hb dX9_differs_390 ?_
                                              refine lv_aload_n hx hb dX9_differs_391 rfl (lv_at hl 2 rfl) ?_
                                              refine x_geto hx hb hf9 hw (by omega) (by omega) sl_40_32 lk90 dX9_differs_392 ?_
                                              refine lv_iconst (v := jI 5) hx hb dX9_differs_395 rfl ?_
                                              refine lv_iload hx hb dX9_differs_396 (lv_at hl 7 rfl) ?_
                                              refine x_imul hx hb dX9_differs_398 ?_
                                              refine lv_iload hx hb dX9_differs_399 (lv_at hl 9 rfl) ?_
                                              refine x_iadd hx hb dX9_differs_401 ?_
                                              refine x_iald hx hb hK.1 hw (by omega) (by omega) ar_73 (len_E ar_73 (by decide)) (by omega) (by omega) (by omega) dX9_differs_402 ?_
                                              have f182 : 0 ≤ X21 73 0 ((5 * ((30 * sv) + r)) + k) ∧ X21 73 0 ((5 * ((30 * sv) + r)) + k) ≤ 19 := hRX21 73 0 ((5 * ((30 * sv) + r)) + k)
                                              refine x_iadd hx hb dX9_differs_403 ?_
                                              refine ret_i (mc := 0) (ms := 0) hx hb hr hlocks hw hS (by omega) (by omega) dX9_differs_404 ?_
                                              have q183 : Frm [4001] X X1 := by rw [hX1]; exact Frm.set Frm.rf (show 4001 ∈ [4001] by decide)
                                              have hrd184 := rdr_eq (L := [4001]) q183 (by decide)
                                              have hsx185 := hsvX21
                                              rw [hrd184.1, hrd184.2.1, hrd184.2.2, Frm.arr q183 48 (by decide +kernel) (by decide), Frm.arr q183 55 (by decide +kernel) (by decide)] at hsx185
                                              exact ⟨X21, rfl, hRX21, hFX21, hMIX21, by omega, S4.tr (S4.frm q183 (by decide)) h4X21, S5.tr (S5.frm q183 (by decide)) h5X21, Or.inr ⟨(by (try delta Hid at *); omega), (by rcases hsx185 with ⟨-, q, -⟩ | ⟨-, -, q⟩; exact absurd q (by decide); exact q), Or.inr ⟨r, by omega, by omega, hall, Or.inr ⟨hsh, k, by omega, by omega, hvk, (fun q => by (try delta Hid at *); first | (have q1 := q.1; omega) | exact absurd (q.2 (by omega) (by omega)) (by assumption) | (rcases hrdf with ⟨e9, h9⟩ | ⟨e9, h9⟩; omega; exact h9 (q.2 (by omega) (by omega)))), by omega⟩⟩⟩⟩
                                      · refine lv_iconst (v := jI 1) hx hb dX9_differs_316 rfl ?_
                                        refine lv_goto (tgt := 321) hx hb dX9_differs_317 (by decide) ?_
                                        refine lv_istore (lv' := [(11, .int (jI 1)), (9, .long (jL (X21 75 0 ((5 * ((30 * sv) + r)) + k)))), (0, .ref (ad 40 0)), (1, .int (jI sv)), (2, .int (jI x)), (3, .int (jI nz)), (4, .int (jI r)), (5, .int (jI ((30 * sv) + r))), (6, .int (jI (120 + r))), (8, .int (jI k))]) hx hb dX9_differs_321 hl (by decide) rfl (fun ls hl => ?_)
                                        refine lv_iload hx hb dX9_differs_323 (lv_at hl 0 rfl) ?_
                                        refine x_if_neT (tgt := 374) hx hb (by omega) (by decide) dX9_differs_325 (by decide) ?_
                                        refine lv_iconst (v := jI 1) hx hb dX9_differs_374 rfl ?_
                                        refine lv_goto (tgt := 379) hx hb dX9_differs_375 (by decide) ?_
                                        refine lv_istore (lv' := [(11, .int (jI 1)), (9, .long (jL (X21 75 0 ((5 * ((30 * sv) + r)) + k)))), (0, .ref (ad 40 0)), (1, .int (jI sv)), (2, .int (jI x)), (3, .int (jI nz)), (4, .int (jI r)), (5, .int (jI ((30 * sv) + r))), (6, .int (jI (120 + r))), (8, .int (jI k))]) hx hb dX9_differs_379 hl (by decide) rfl (fun ls hl => ?_)
                                        refine lv_iload hx hb dX9_differs_381 (lv_at hl 0 rfl) ?_
                                        refine x_if_eqF (tgt := 405) hx hb (by omega) (by decide) dX9_differs_383 (by decide) ?_
                                        refine lv_bipush (v := jI 100) hx hb dX9_differs_386 (by decide) ?_
                                        refine lv_iload hx hb dX9_differs_388 (lv_at hl 6 rfl) ?_
                                        refine x_imul hx hb dX9_differs_390 ?_
                                        refine lv_aload_n hx hb dX9_differs_391 rfl (lv_at hl 2 rfl) ?_
                                        refine x_geto hx hb hf9 hw (by omega) (by omega) sl_40_32 lk90 dX9_differs_392 ?_
                                        refine lv_iconst (v := jI 5) hx hb dX9_differs_395 rfl ?_
                                        refine lv_iload hx hb dX9_differs_396 (lv_at hl 7 rfl) ?_
                                        refine x_imul hx hb dX9_differs_398 ?_
                                        refine lv_iload hx hb dX9_differs_399 (lv_at hl 9 rfl) ?_
                                        refine x_iadd hx hb dX9_differs_401 ?_
                                        refine x_iald hx hb hK.1 hw (by omega) (by omega) ar_73 (len_E ar_73 (by decide)) (by omega) (by omega) (by omega) dX9_differs_402 ?_
                                        have f186 : 0 ≤ X21 73 0 ((5 * ((30 * sv) + r)) + k) ∧ X21 73 0 ((5 * ((30 * sv) + r)) + k) ≤ 19 := hRX21 73 0 ((5 * ((30 * sv) + r)) + k)
                                        refine x_iadd hx hb dX9_differs_403 ?_
                                        refine ret_i (mc := 0) (ms := 0) hx hb hr hlocks hw hS (by omega) (by omega) dX9_differs_404 ?_
                                        have q187 : Frm [4001] X X1 := by rw [hX1]; exact Frm.set Frm.rf (show 4001 ∈ [4001] by decide)
                                        have hrd188 := rdr_eq (L := [4001]) q187 (by decide)
                                        have hsx189 := hsvX21
                                        rw [hrd188.1, hrd188.2.1, hrd188.2.2, Frm.arr q187 48 (by decide +kernel) (by decide), Frm.arr q187 55 (by decide +kernel) (by decide)] at hsx189
                                        exact ⟨X21, rfl, hRX21, hFX21, hMIX21, by omega, S4.tr (S4.frm q187 (by decide)) h4X21, S5.tr (S5.frm q187 (by decide)) h5X21, Or.inr ⟨(by (try delta Hid at *); omega), (by rcases hsx189 with ⟨-, q, -⟩ | ⟨-, -, q⟩; exact absurd q (by decide); exact q), Or.inr ⟨r, by omega, by omega, hall, Or.inr ⟨hsh, k, by omega, by omega, hvk, (fun q => by (try delta Hid at *); first | (have q1 := q.1; omega) | exact absurd (q.2 (by omega) (by omega)) (by assumption) | (rcases hrdf with ⟨e9, h9⟩ | ⟨e9, h9⟩; omega; exact h9 (q.2 (by omega) (by omega)))), by omega⟩⟩⟩⟩
                                exact lp272 (5 - 0 : Int).toNat.succ 0 _ _ _ (by omega) (by omega) ((by obtain ⟨q1, q2, q3⟩ := hsm1 (by omega); exact ⟨by omega, by omega, q1, q2, fun j a b => q3 j a (by omega)⟩)) (fun f a b => by omega) hw hS (lv_sub hl [1, 2, 3, 4, 5, 6, 7, 0] rfl)
                              · refine lv_bipush (v := jI 100) hx hb dX9_differs_260 (by decide) ?_
                                refine lv_iload hx hb dX9_differs_262 (lv_at hl 4 rfl) ?_
                                refine x_imul hx hb dX9_differs_264 ?_
                                refine lv_bipush (v := jI 99) hx hb dX9_differs_265 (by decide) ?_
                                refine x_iadd hx hb dX9_differs_267 ?_
                                refine ret_i (mc := 0) (ms := 0) hx hb hr hlocks hw hS (by omega) (by omega) dX9_differs_268 ?_
                                have q190 : Frm [4001] X X1 := by rw [hX1]; exact Frm.set Frm.rf (show 4001 ∈ [4001] by decide)
                                have hrd191 := rdr_eq (L := [4001]) q190 (by decide)
                                have hsx192 := hsvX21
                                rw [hrd191.1, hrd191.2.1, hrd191.2.2, Frm.arr q190 48 (by decide +kernel) (by decide), Frm.arr q190 55 (by decide +kernel) (by decide)] at hsx192
                                exact ⟨X21, rfl, hRX21, hFX21, hMIX21, by omega, S4.tr (S4.frm q190 (by decide)) h4X21, S5.tr (S5.frm q190 (by decide)) h5X21, Or.inr ⟨(by (try delta Hid at *); omega), (by rcases hsx192 with ⟨-, q, -⟩ | ⟨-, -, q⟩; exact absurd q (by decide); exact q), Or.inr ⟨r, by omega, by omega, hall, Or.inl ⟨hsm0 (by omega), by omega⟩⟩⟩⟩
                            · refine lv_iload hx hb dX9_differs_176 (lv_at hl 8 rfl) ?_
                              refine lv_aload_n hx hb dX9_differs_178 rfl (lv_at hl 0 rfl) ?_
                              refine x_geto hx hb hf9 hw (by omega) (by omega) sl_40_31 lk87 dX9_differs_179 ?_
                              refine lv_iload hx hb dX9_differs_182 (lv_at hl 5 rfl) ?_
                              refine x_iald hx hb hK.1 hw (by omega) (by omega) ar_72 (len_E ar_72 (by decide)) (by omega) (by omega) (by omega) dX9_differs_184 ?_
                              have f193 : 0 ≤ X21 72 0 ((30 * sv) + r) ∧ X21 72 0 ((30 * sv) + r) ≤ 5 := hRX21 72 0 ((30 * sv) + r)
                              refine x_icmp_ge (tgt := 255) hx hb (by omega) (by omega) dX9_differs_185 (by decide) (fun c194 => ?_) (fun c194 => ?_)
                              · refine lv_iload hx hb dX9_differs_255 (lv_at hl 7 rfl) ?_
                                refine x_if_ne (tgt := 269) hx hb (by omega) dX9_differs_257 (by decide) (fun c195 => ?_) (fun c195 => ?_)
                                · refine lv_iconst (v := jI 0) hx hb dX9_differs_269 rfl ?_
                                  refine lv_istore (lv' := [(8, .int (jI 0)), (0, .ref (ad 40 0)), (1, .int (jI sv)), (2, .int (jI x)), (3, .int (jI nz)), (4, .int (jI r)), (5, .int (jI ((30 * sv) + r))), (6, .int (jI (120 + r))), (7, .int (jI sm))]) hx hb dX9_differs_270 hl (by decide) rfl (fun ls hl => ?_)
                                  have lp272 : ∀ (nn : Nat) (k : Int) (H : Heap) (locs : List Loc) (ls : Array Slot), (5 - k) < (nn : Int) → (0 ≤ k ∧ k ≤ 5) → (shM X21 sv r) → (∀ f, 0 ≤ f → f < k → vqM X21 sv r f) → wd D tc base (ad, cnt, X21, Y, ln) H → va_S (frA base) s.heap H locs → lv_has ls 12 [(0, .ref (ad 40 0)), (1, .int (jI sv)), (2, .int (jI x)), (3, .int (jI nz)), (4, .int (jI r)), (5, .int (jI ((30 * sv) + r))), (6, .int (jI (120 + r))), (8, .int (jI k))] → W p l e ({ frames := 2, cells := 0, slots := 0, locals := 53 } : Room) s m ([.ref (ad 40 0), .int (jI sv), .int (jI x)] : List Value).toArray below meth c H locs 0 0 (MQ below (QI D tc base (fun z u => ∃ X1 : Nat → Int → Int → Int, u = (ad, cnt, X1, Y, ln) ∧ Rng X1 ∧ Frm [4001, 7100, 7200, 7300, 7400, 7500, 8000, 7000, 8100, 7700, 7800, 7900, 7600, 4042, 4043, 4044] X X1 ∧ MInv X1 ∧ (-2147483648 ≤ z ∧ z ≤ 2147483647) ∧ S4 X X1 ∧ S5 X X1 ∧ ((¬ ((0 ≤ sv ∧ sv < 4) ∧ X 70 0 sv ≠ 0 ∧ (0 ≤ x ∧ x < X 40 0 13)) ∧ z = -2) ∨ (((0 ≤ sv ∧ sv < 4) ∧ X 70 0 sv ≠ 0 ∧ (0 ≤ x ∧ x < X 40 0 13)) ∧ (rmT X1 (recR (fcM X) (lnM X) (mRid X) (mRid X) x 30) ∧ rmR X1 (recR (fcM X) (lnM X) (mRid X) (mRid X) x 30) ∧ rmV X1 (recR (fcM X) (lnM X) (mRid X) (mRid X) x 30) (recR (fcM X) (lnM X) (mRid X) (mRid X) x 30 0 0) 0) ∧ dfP (mxM X1 sv) (shM X1 sv) (fun r => X1 72 0 (30 * sv + r)) (vqM X1 sv) (fun r f => X1 73 0 (5 * (30 * sv + r) + f)) z)))) ([.ref (ad 40 0), .int (jI sv), .int (jI x)] : List Value).toArray s 0 0 (frA base)) (F0 m 272 ls []) := by
                                    intro nn
                                    induction nn with
                                    | zero => intro k H locs ls hm hk hsh hvk hw hS hl; exfalso; omega
                                    | succ nn ih272 =>
                                      intro k H locs ls hm hk hsh hvk hw hS hl
                                      refine lv_iload hx hb dX9_differs_272 (lv_at hl 7 rfl) ?_
                                      refine lv_aload_n hx hb dX9_differs_274 rfl (lv_at hl 0 rfl) ?_
                                      refine x_geto hx hb hf9 hw (by omega) (by omega) sl_40_31 lk87 dX9_differs_275 ?_
                                      refine lv_iload hx hb dX9_differs_278 (lv_at hl 5 rfl) ?_
                                      refine x_iald hx hb hK.1 hw (by omega) (by omega) ar_72 (len_E ar_72 (by decide)) (by omega) (by omega) (by omega) dX9_differs_280 ?_
                                      have f196 : 0 ≤ X21 72 0 ((30 * sv) + r) ∧ X21 72 0 ((30 * sv) + r) ≤ 5 := hRX21 72 0 ((30 * sv) + r)
                                      refine x_icmp_ge (tgt := 411) hx hb (by omega) (by omega) dX9_differs_281 (by decide) (fun c197 => ?_) (fun c197 => ?_)
                                      · refine lv_iinc (v := jI (r + 1)) (lv' := [(4, .int (jI (r + 1))), (0, .ref (ad 40 0)), (1, .int (jI sv)), (2, .int (jI x)), (3, .int (jI nz)), (5, .int (jI ((30 * sv) + r))), (6, .int (jI (120 + r))), (8, .int (jI k))]) hx hb dX9_differs_411 hl (k := 4) rfl (jI_add _ _) (by decide) rfl (fun ls hl => ?_)
                                        refine lv_goto (tgt := 74) hx hb dX9_differs_414 (by decide) ?_
                                        exact ih74 nz (r + 1) _ _ _ (by omega) (by omega) (by omega) (hnzv) (fun r' a b => if hr9 : r' = r then (by rw [hr9]; exact ⟨hsh, fun f f0 f1 => hvk f f0 (by omega)⟩) else hall r' a (by omega)) hw hS (lv_sub hl [1, 2, 3, 4, 0] rfl)
                                      · refine lv_aload_n hx hb dX9_differs_284 rfl (lv_at hl 0 rfl) ?_
                                        refine x_geto hx hb hf9 hw (by omega) (by omega) sl_40_34 lk96 dX9_differs_285 ?_
                                        refine lv_iconst (v := jI 5) hx hb dX9_differs_288 rfl ?_
                                        refine lv_iload hx hb dX9_differs_289 (lv_at hl 5 rfl) ?_
                                        refine x_imul hx hb dX9_differs_291 ?_
                                        refine lv_iload hx hb dX9_differs_292 (lv_at hl 7 rfl) ?_
                                        refine x_iadd hx hb dX9_differs_294 ?_
                                        obtain ⟨hv1, hv2, hv3⟩ := (hMIX21.2.2.1 sv r (by omega) (by omega) (by omega) (by omega)).2 k (by omega) (by omega)
                                        refine x_lald hx hb hK.1 hw (by omega) (by omega) ar_75 (len_E ar_75 (by decide)) (by omega) (by omega) (by omega) dX9_differs_295 ?_
                                        have f198 : (-9223372036854775808) ≤ X21 75 0 ((5 * ((30 * sv) + r)) + k) ∧ X21 75 0 ((5 * ((30 * sv) + r)) + k) ≤ 9223372036854775807 := hRX21 75 0 ((5 * ((30 * sv) + r)) + k)
                                        refine lv_lstore (lv' := [(9, .long (jL (X21 75 0 ((5 * ((30 * sv) + r)) + k)))), (0, .ref (ad 40 0)), (1, .int (jI sv)), (2, .int (jI x)), (3, .int (jI nz)), (4, .int (jI r)), (5, .int (jI ((30 * sv) + r))), (6, .int (jI (120 + r))), (8, .int (jI k))]) hx hb dX9_differs_296 hl (by decide) rfl (fun ls hl => ?_)
                                        refine lv_lload hx hb dX9_differs_298 (lv_at hl 0 rfl) ?_
                                        refine lv_aload_n hx hb dX9_differs_300 rfl (lv_at hl 1 rfl) ?_
                                        refine x_geto hx hb hf9 hw (by omega) (by omega) sl_40_34 lk96 dX9_differs_301 ?_
                                        refine lv_iconst (v := jI 5) hx hb dX9_differs_304 rfl ?_
                                        refine lv_iload hx hb dX9_differs_305 (lv_at hl 7 rfl) ?_
                                        refine x_imul hx hb dX9_differs_307 ?_
                                        refine lv_iload hx hb dX9_differs_308 (lv_at hl 8 rfl) ?_
                                        refine x_iadd hx hb dX9_differs_310 ?_
                                        refine x_lald hx hb hK.1 hw (by omega) (by omega) ar_75 (len_E ar_75 (by decide)) (by omega) (by omega) (by omega) dX9_differs_311 ?_
                                        have f199 : (-9223372036854775808) ≤ X21 75 0 ((5 * (120 + r)) + k) ∧ X21 75 0 ((5 * (120 + r)) + k) ≤ 9223372036854775807 := hRX21 75 0 ((5 * (120 + r)) + k)
                                        refine x_lcmp hx hb (by omega) (by omega) dX9_differs_312 ?_
                                        obtain ⟨z200, ez200⟩ : ∃ y : Int, y = cmpZ (X21 75 0 ((5 * ((30 * sv) + r)) + k)) (X21 75 0 ((5 * (120 + r)) + k)) := ⟨_, rfl⟩
                                        rw [← ez200]
                                        have gz200 : (z200 < 0 ↔ ((X21 75 0 ((5 * ((30 * sv) + r)) + k)) : Int) < (X21 75 0 ((5 * (120 + r)) + k))) ∧ (z200 = 0 ↔ ((X21 75 0 ((5 * ((30 * sv) + r)) + k)) : Int) = (X21 75 0 ((5 * (120 + r)) + k))) ∧ -1 ≤ z200 ∧ z200 ≤ 1 := by rw [ez200]; exact ⟨cmpZ_lt, cmpZ_eq, (cmpZ_r _ _).1, (cmpZ_r _ _).2⟩
                                        clear ez200
                                        refine x_if_eq (tgt := 320) hx hb (by omega) dX9_differs_313 (by decide) (fun c201 => ?_) (fun c201 => ?_)
                                        · refine lv_iconst (v := jI 0) hx hb dX9_differs_320 rfl ?_
                                          refine lv_istore (lv' := [(11, .int (jI 0)), (9, .long (jL (X21 75 0 ((5 * ((30 * sv) + r)) + k)))), (0, .ref (ad 40 0)), (1, .int (jI sv)), (2, .int (jI x)), (3, .int (jI nz)), (4, .int (jI r)), (5, .int (jI ((30 * sv) + r))), (6, .int (jI (120 + r))), (8, .int (jI k))]) hx hb dX9_differs_321 hl (by decide) rfl (fun ls hl => ?_)
                                          refine lv_iload hx hb dX9_differs_323 (lv_at hl 0 rfl) ?_
                                          refine x_if_neF (tgt := 374) hx hb (by omega) (by decide) dX9_differs_325 (by decide) ?_
                                          refine lv_aload_n hx hb dX9_differs_328 rfl (lv_at hl 2 rfl) ?_
                                          refine x_geto hx hb hf9 hw (by omega) (by omega) sl_40_33 lk93 dX9_differs_329 ?_
                                          refine lv_iconst (v := jI 5) hx hb dX9_differs_332 rfl ?_
                                          refine lv_iload hx hb dX9_differs_333 (lv_at hl 7 rfl) ?_
                                          refine x_imul hx hb dX9_differs_335 ?_
                                          refine lv_iload hx hb dX9_differs_336 (lv_at hl 9 rfl) ?_
                                          refine x_iadd hx hb dX9_differs_338 ?_
                                          refine x_iald hx hb hK.1 hw (by omega) (by omega) ar_74 (len_E ar_74 (by decide)) (by omega) (by omega) (by omega) dX9_differs_339 ?_
                                          have f202 : 0 ≤ X21 74 0 ((5 * ((30 * sv) + r)) + k) ∧ X21 74 0 ((5 * ((30 * sv) + r)) + k) ≤ 5 := hRX21 74 0 ((5 * ((30 * sv) + r)) + k)
                                          refine lv_iconst (v := jI 2) hx hb dX9_differs_340 rfl ?_
                                          refine x_icmp_le (tgt := 378) hx hb (by omega) (by omega) dX9_differs_341 (by decide) (fun c203 => ?_) (fun c203 => ?_)
                                          · refine lv_iconst (v := jI 0) hx hb dX9_differs_378 rfl ?_
                                            refine lv_istore (lv' := [(11, .int (jI 0)), (9, .long (jL (X21 75 0 ((5 * ((30 * sv) + r)) + k)))), (0, .ref (ad 40 0)), (1, .int (jI sv)), (2, .int (jI x)), (3, .int (jI nz)), (4, .int (jI r)), (5, .int (jI ((30 * sv) + r))), (6, .int (jI (120 + r))), (8, .int (jI k))]) hx hb dX9_differs_379 hl (by decide) rfl (fun ls hl => ?_)
                                            refine lv_iload hx hb dX9_differs_381 (lv_at hl 0 rfl) ?_
                                            refine x_if_eqT (tgt := 405) hx hb (by omega) (by decide) dX9_differs_383 (by decide) ?_
                                            refine lv_iinc (v := jI (k + 1)) (lv' := [(8, .int (jI (k + 1))), (11, .int (jI 0)), (9, .long (jL (X21 75 0 ((5 * ((30 * sv) + r)) + k)))), (0, .ref (ad 40 0)), (1, .int (jI sv)), (2, .int (jI x)), (3, .int (jI nz)), (4, .int (jI r)), (5, .int (jI ((30 * sv) + r))), (6, .int (jI (120 + r)))]) hx hb dX9_differs_405 hl (k := 9) rfl (jI_add _ _) (by decide) rfl (fun ls hl => ?_)
                                            refine lv_goto (tgt := 272) hx hb dX9_differs_408 (by decide) ?_
                                            exact ih272 (k + 1) _ _ _ (by omega) (by omega) (hsh) (fun f a b => if hf9 : f = k then (by rw [hf9]; exact (by (try delta Hid at *); first | exact ⟨by omega, fun a9 b9 => (by exfalso; omega)⟩ | exact ⟨by omega, fun a9 b9 => (by rcases hrdf with ⟨e9, h9⟩ | ⟨e9, h9⟩; exact h9; exfalso; omega)⟩)) else hvk f a (by omega)) hw hS (lv_sub hl [3, 4, 5, 6, 7, 8, 9, 0] rfl)
                                          · refine lv_lload hx hb dX9_differs_344 (lv_at hl 1 rfl) ?_
                                            refine lv_lconst (v := jL 0) hx hb dX9_differs_346 (by decide) ?_
                                            refine x_lcmp hx hb (by omega) (by omega) dX9_differs_347 ?_
                                            obtain ⟨z204, ez204⟩ : ∃ y : Int, y = cmpZ (X21 75 0 ((5 * ((30 * sv) + r)) + k)) 0 := ⟨_, rfl⟩
                                            rw [← ez204]
                                            have gz204 : (z204 < 0 ↔ ((X21 75 0 ((5 * ((30 * sv) + r)) + k)) : Int) < 0) ∧ (z204 = 0 ↔ ((X21 75 0 ((5 * ((30 * sv) + r)) + k)) : Int) = 0) ∧ -1 ≤ z204 ∧ z204 ≤ 1 := by rw [ez204]; exact ⟨cmpZ_lt, cmpZ_eq, (cmpZ_r _ _).1, (cmpZ_r _ _).2⟩
                                            clear ez204
                                            refine x_if_lt (tgt := 378) hx hb (by omega) dX9_differs_348 (by decide) (fun c205 => ?_) (fun c205 => ?_)
                                            · refine lv_iconst (v := jI 0) hx hb dX9_differs_378 rfl ?_
                                              refine lv_istore (lv' := [(11, .int (jI 0)), (9, .long (jL (X21 75 0 ((5 * ((30 * sv) + r)) + k)))), (0, .ref (ad 40 0)), (1, .int (jI sv)), (2, .int (jI x)), (3, .int (jI nz)), (4, .int (jI r)), (5, .int (jI ((30 * sv) + r))), (6, .int (jI (120 + r))), (8, .int (jI k))]) hx hb dX9_differs_379 hl (by decide) rfl (fun ls hl => ?_)
                                              refine lv_iload hx hb dX9_differs_381 (lv_at hl 0 rfl) ?_
                                              refine x_if_eqT (tgt := 405) hx hb (by omega) (by decide) dX9_differs_383 (by decide) ?_
                                              refine lv_iinc (v := jI (k + 1)) (lv' := [(8, .int (jI (k + 1))), (11, .int (jI 0)), (9, .long (jL (X21 75 0 ((5 * ((30 * sv) + r)) + k)))), (0, .ref (ad 40 0)), (1, .int (jI sv)), (2, .int (jI x)), (3, .int (jI nz)), (4, .int (jI r)), (5, .int (jI ((30 * sv) + r))), (6, .int (jI (120 + r)))]) hx hb dX9_differs_405 hl (k := 9) rfl (jI_add _ _) (by decide) rfl (fun ls hl => ?_)
                                              refine lv_goto (tgt := 272) hx hb dX9_differs_408 (by decide) ?_
                                              exact ih272 (k + 1) _ _ _ (by omega) (by omega) (hsh) (fun f a b => if hf9 : f = k then (by rw [hf9]; exact (by (try delta Hid at *); first | exact ⟨by omega, fun a9 b9 => (by exfalso; omega)⟩ | exact ⟨by omega, fun a9 b9 => (by rcases hrdf with ⟨e9, h9⟩ | ⟨e9, h9⟩; exact h9; exfalso; omega)⟩)) else hvk f a (by omega)) hw hS (lv_sub hl [3, 4, 5, 6, 7, 8, 9, 0] rfl)
                                            · refine lv_aload_n hx hb dX9_differs_351 rfl (lv_at hl 2 rfl) ?_
                                              refine lv_sipush (v := jI 150) hx hb dX9_differs_352 (by decide) ?_
                                              refine lv_iload_n hx hb dX9_differs_355 rfl (lv_at hl 3 rfl) ?_
                                              refine x_imul hx hb dX9_differs_356 ?_
                                              refine lv_lload hx hb dX9_differs_357 (lv_at hl 1 rfl) ?_
                                              refine x_l2i hx hb dX9_differs_359 ?_
                                              refine x_iadd hx hb dX9_differs_360 ?_
                                              refine lv_sipush (v := jI 600) hx hb dX9_differs_361 (by decide) ?_
                                              refine lv_lload hx hb dX9_differs_364 (lv_at hl 1 rfl) ?_
                                              refine x_l2i hx hb dX9_differs_366 ?_
                                              refine x_iadd hx hb dX9_differs_367 ?_
                                              refine gos_i (run_V (As := [.int (jI ((150 * sv) + (X21 75 0 ((5 * ((30 * sv) + r)) + k)))), .int (jI (600 + (X21 75 0 ((5 * ((30 * sv) + r)) + k))))]) (rest := []) hx hb hml hown hts (c_X9_rowsDiffer l D tc base ad cnt X21 Y ln hRX21 hFx hMIX21 ((150 * sv) + (X21 75 0 ((5 * ((30 * sv) + r)) + k))) (600 + (X21 75 0 ((5 * ((30 * sv) + r)) + k))) (by omega) (by omega)) (cwV 2 hts gX9_differs_X9_rowsDiffer rfl rfl rfl (by decide +kernel) ⟨Nat.le_of_ble_eq_true rfl, Nat.le_of_ble_eq_true rfl⟩) hK hw (by omega) (by omega) sl_40_0 rfl rfl hl.1 rfl (Nat.le_of_ble_eq_true rfl) dX9_differs_368 ⟨Nat.le_of_ble_eq_true rfl, Nat.le_of_ble_eq_true rfl⟩) hS (fun z206 u207 H locs p208 hw hS => ?_)
                                              obtain ⟨eu207, p208, hrdf⟩ := p208
                                              subst eu207
                                              refine x_if_eq (tgt := 378) hx hb (by omega) dX9_differs_371 (by decide) (fun c209 => ?_) (fun c209 => ?_)
                                              · refine lv_iconst (v := jI 0) hx hb dX9_differs_378 rfl ?_
                                                refine lv_istore (lv' := [(11, .int (jI 0)), (9, .long (jL (X21 75 0 ((5 * ((30 * sv) + r)) + k)))), (0, .ref (ad 40 0)), (1, .int (jI sv)), (2, .int (jI x)), (3, .int (jI nz)), (4, .int (jI r)), (5, .int (jI ((30 * sv) + r))), (6, .int (jI (120 + r))), (8, .int (jI k))]) hx hb dX9_differs_379 hl (by decide) rfl (fun ls hl => ?_)
                                                refine lv_iload hx hb dX9_differs_381 (lv_at hl 0 rfl) ?_
                                                refine x_if_eqT (tgt := 405) hx hb (by omega) (by decide) dX9_differs_383 (by decide) ?_
                                                refine lv_iinc (v := jI (k + 1)) (lv' := [(8, .int (jI (k + 1))), (11, .int (jI 0)), (9, .long (jL (X21 75 0 ((5 * ((30 * sv) + r)) + k)))), (0, .ref (ad 40 0)), (1, .int (jI sv)), (2, .int (jI x)), (3, .int (jI nz)), (4, .int (jI r)), (5, .int (jI ((30 * sv) + r))), (6, .int (jI (120 + r)))]) hx hb dX9_differs_405 hl (k := 9) rfl (jI_add _ _) (by decide) rfl (fun ls hl => ?_)
                                                refine lv_goto (tgt := 272) hx hb dX9_differs_408 (by decide) ?_
                                                exact ih272 (k + 1) _ _ _ (by omega) (by omega) (hsh) (fun f a b => if hf9 : f = k then (by rw [hf9]; exact (by (try delta Hid at *); first | exact ⟨by omega, fun a9 b9 => (by exfalso; omega)⟩ | exact ⟨by omega, fun a9 b9 => (by rcases hrdf with ⟨e9, h9⟩ | ⟨e9, h9⟩; exact h9; exfalso; omega)⟩)) else hvk f a (by omega)) hw hS (lv_sub hl [3, 4, 5, 6, 7, 8, 9, 0] rfl)
                                              · refine lv_iconst (v := jI 1) hx hb dX9_differs_374 rfl ?_
                                                refine lv_goto (tgt := 379) hx hb dX9_differs_375 (by decide) ?_
                                                refine lv_istore (lv' := [(11, .int (jI 1)), (9, .long (jL (X21 75 0 ((5 * ((30 * sv) + r)) + k)))), (0, .ref (ad 40 0)), (1, .int (jI sv)), (2, .int (jI x)), (3, .int (jI nz)), (4, .int (jI r)), (5, .int (jI ((30 * sv) + r))), (6, .int (jI (120 + r))), (8, .int (jI k))]) hx hb dX9_differs_379 hl (by decide) rfl (fun ls hl => ?_)
                                                refine lv_iload hx hb dX9_differs_381 (lv_at hl 0 rfl) ?_
                                                refine x_if_eqF (tgt := 405) hx hb (by omega) (by decide) dX9_differs_383 (by decide) ?_
                                                refine lv_bipush (v := jI 100) hx hb dX9_differs_386 (by decide) ?_
                                                refine lv_iload hx hb dX9_differs_388 (lv_at hl 6 rfl) ?_
                                                refine x_imul hx hb dX9_differs_390 ?_
                                                refine lv_aload_n hx hb dX9_differs_391 rfl (lv_at hl 2 rfl) ?_
                                                refine x_geto hx hb hf9 hw (by omega) (by omega) sl_40_32 lk90 dX9_differs_392 ?_
                                                refine lv_iconst (v := jI 5) hx hb dX9_differs_395 rfl ?_
                                                refine lv_iload hx hb dX9_differs_396 (lv_at hl 7 rfl) ?_
                                                refine x_imul hx hb dX9_differs_398 ?_
                                                refine lv_iload hx hb dX9_differs_399 (lv_at hl 9 rfl) ?_
                                                refine x_iadd hx hb dX9_differs_401 ?_
                                                refine x_iald hx hb hK.1 hw (by omega) (by omega) ar_73 (len_E ar_73 (by decide)) (by omega) (by omega) (by omega) dX9_differs_402 ?_
                                                have f210 : 0 ≤ X21 73 0 ((5 * ((30 * sv) + r)) + k) ∧ X21 73 0 ((5 * ((30 * sv) + r)) + k) ≤ 19 := hRX21 73 0 ((5 * ((30 * sv) + r)) + k)
                                                refine x_iadd hx hb dX9_differs_403 ?_
                                                refine ret_i (mc := 0) (ms := 0) hx hb hr hlocks hw hS (by omega) (by omega) dX9_differs_404 ?_
                                                have q211 : Frm [4001] X X1 := by rw [hX1]; exact Frm.set Frm.rf (show 4001 ∈ [4001] by decide)
                                                have hrd212 := rdr_eq (L := [4001]) q211 (by decide)
                                                have hsx213 := hsvX21
                                                rw [hrd212.1, hrd212.2.1, hrd212.2.2, Frm.arr q211 48 (by decide +kernel) (by decide), Frm.arr q211 55 (by decide +kernel) (by decide)] at hsx213
                                                exact ⟨X21, rfl, hRX21, hFX21, hMIX21, by omega, S4.tr (S4.frm q211 (by decide)) h4X21, S5.tr (S5.frm q211 (by decide)) h5X21, Or.inr ⟨(by (try delta Hid at *); omega), (by rcases hsx213 with ⟨-, q, -⟩ | ⟨-, -, q⟩; exact absurd q (by decide); exact q), Or.inr ⟨r, by omega, by omega, hall, Or.inr ⟨hsh, k, by omega, by omega, hvk, (fun q => by (try delta Hid at *); first | (have q1 := q.1; omega) | exact absurd (q.2 (by omega) (by omega)) (by assumption) | (rcases hrdf with ⟨e9, h9⟩ | ⟨e9, h9⟩; omega; exact h9 (q.2 (by omega) (by omega)))), by omega⟩⟩⟩⟩
                                        · refine lv_iconst (v := jI 1) hx hb dX9_differs_316 rfl ?_
                                          refine lv_goto (tgt := 321) hx hb dX9_differs_317 (by decide) ?_
                                          refine lv_istore (lv' := [(11, .int (jI 1)), (9, .long (jL (X21 75 0 ((5 * ((30 * sv) + r)) + k)))), (0, .ref (ad 40 0)), (1, .int (jI sv)), (2, .int (jI x)), (3, .int (jI nz)), (4, .int (jI r)), (5, .int (jI ((30 * sv) + r))), (6, .int (jI (120 + r))), (8, .int (jI k))]) hx hb dX9_differs_321 hl (by decide) rfl (fun ls hl => ?_)
                                          refine lv_iload hx hb dX9_differs_323 (lv_at hl 0 rfl) ?_
                                          refine x_if_neT (tgt := 374) hx hb (by omega) (by decide) dX9_differs_325 (by decide) ?_
                                          refine lv_iconst (v := jI 1) hx hb dX9_differs_374 rfl ?_
                                          refine lv_goto (tgt := 379) hx hb dX9_differs_375 (by decide) ?_
                                          refine lv_istore (lv' := [(11, .int (jI 1)), (9, .long (jL (X21 75 0 ((5 * ((30 * sv) + r)) + k)))), (0, .ref (ad 40 0)), (1, .int (jI sv)), (2, .int (jI x)), (3, .int (jI nz)), (4, .int (jI r)), (5, .int (jI ((30 * sv) + r))), (6, .int (jI (120 + r))), (8, .int (jI k))]) hx hb dX9_differs_379 hl (by decide) rfl (fun ls hl => ?_)
                                          refine lv_iload hx hb dX9_differs_381 (lv_at hl 0 rfl) ?_
                                          refine x_if_eqF (tgt := 405) hx hb (by omega) (by decide) dX9_differs_383 (by decide) ?_
                                          refine lv_bipush (v := jI 100) hx hb dX9_differs_386 (by decide) ?_
                                          refine lv_iload hx hb dX9_differs_388 (lv_at hl 6 rfl) ?_
                                          refine x_imul hx hb dX9_differs_390 ?_
                                          refine lv_aload_n hx hb dX9_differs_391 rfl (lv_at hl 2 rfl) ?_
                                          refine x_geto hx hb hf9 hw (by omega) (by omega) sl_40_32 lk90 dX9_differs_392 ?_
                                          refine lv_iconst (v := jI 5) hx hb dX9_differs_395 rfl ?_
                                          refine lv_iload hx hb dX9_differs_396 (lv_at hl 7 rfl) ?_
                                          refine x_imul hx hb dX9_differs_398 ?_
                                          refine lv_iload hx hb dX9_differs_399 (lv_at hl 9 rfl) ?_
                                          refine x_iadd hx hb dX9_differs_401 ?_
                                          refine x_iald hx hb hK.1 hw (by omega) (by omega) ar_73 (len_E ar_73 (by decide)) (by omega) (by omega) (by omega) dX9_differs_402 ?_
                                          have f214 : 0 ≤ X21 73 0 ((5 * ((30 * sv) + r)) + k) ∧ X21 73 0 ((5 * ((30 * sv) + r)) + k) ≤ 19 := hRX21 73 0 ((5 * ((30 * sv) + r)) + k)
                                          refine x_iadd hx hb dX9_differs_403 ?_
                                          refine ret_i (mc := 0) (ms := 0) hx hb hr hlocks hw hS (by omega) (by omega) dX9_differs_404 ?_
                                          have q215 : Frm [4001] X X1 := by rw [hX1]; exact Frm.set Frm.rf (show 4001 ∈ [4001] by decide)
                                          have hrd216 := rdr_eq (L := [4001]) q215 (by decide)
                                          have hsx217 := hsvX21
                                          rw [hrd216.1, hrd216.2.1, hrd216.2.2, Frm.arr q215 48 (by decide +kernel) (by decide), Frm.arr q215 55 (by decide +kernel) (by decide)] at hsx217
                                          exact ⟨X21, rfl, hRX21, hFX21, hMIX21, by omega, S4.tr (S4.frm q215 (by decide)) h4X21, S5.tr (S5.frm q215 (by decide)) h5X21, Or.inr ⟨(by (try delta Hid at *); omega), (by rcases hsx217 with ⟨-, q, -⟩ | ⟨-, -, q⟩; exact absurd q (by decide); exact q), Or.inr ⟨r, by omega, by omega, hall, Or.inr ⟨hsh, k, by omega, by omega, hvk, (fun q => by (try delta Hid at *); first | (have q1 := q.1; omega) | exact absurd (q.2 (by omega) (by omega)) (by assumption) | (rcases hrdf with ⟨e9, h9⟩ | ⟨e9, h9⟩; omega; exact h9 (q.2 (by omega) (by omega)))), by omega⟩⟩⟩⟩
                                  exact lp272 (5 - 0 : Int).toNat.succ 0 _ _ _ (by omega) (by omega) ((by obtain ⟨q1, q2, q3⟩ := hsm1 (by omega); exact ⟨by omega, by omega, q1, q2, fun j a b => q3 j a (by omega)⟩)) (fun f a b => by omega) hw hS (lv_sub hl [1, 2, 3, 4, 5, 6, 7, 0] rfl)
                                · refine lv_bipush (v := jI 100) hx hb dX9_differs_260 (by decide) ?_
                                  refine lv_iload hx hb dX9_differs_262 (lv_at hl 4 rfl) ?_
                                  refine x_imul hx hb dX9_differs_264 ?_
                                  refine lv_bipush (v := jI 99) hx hb dX9_differs_265 (by decide) ?_
                                  refine x_iadd hx hb dX9_differs_267 ?_
                                  refine ret_i (mc := 0) (ms := 0) hx hb hr hlocks hw hS (by omega) (by omega) dX9_differs_268 ?_
                                  have q218 : Frm [4001] X X1 := by rw [hX1]; exact Frm.set Frm.rf (show 4001 ∈ [4001] by decide)
                                  have hrd219 := rdr_eq (L := [4001]) q218 (by decide)
                                  have hsx220 := hsvX21
                                  rw [hrd219.1, hrd219.2.1, hrd219.2.2, Frm.arr q218 48 (by decide +kernel) (by decide), Frm.arr q218 55 (by decide +kernel) (by decide)] at hsx220
                                  exact ⟨X21, rfl, hRX21, hFX21, hMIX21, by omega, S4.tr (S4.frm q218 (by decide)) h4X21, S5.tr (S5.frm q218 (by decide)) h5X21, Or.inr ⟨(by (try delta Hid at *); omega), (by rcases hsx220 with ⟨-, q, -⟩ | ⟨-, -, q⟩; exact absurd q (by decide); exact q), Or.inr ⟨r, by omega, by omega, hall, Or.inl ⟨hsm0 (by omega), by omega⟩⟩⟩⟩
                              · refine lv_aload_n hx hb dX9_differs_188 rfl (lv_at hl 0 rfl) ?_
                                refine x_geto hx hb hf9 hw (by omega) (by omega) sl_40_32 lk90 dX9_differs_189 ?_
                                refine lv_iconst (v := jI 5) hx hb dX9_differs_192 rfl ?_
                                refine lv_iload hx hb dX9_differs_193 (lv_at hl 5 rfl) ?_
                                refine x_imul hx hb dX9_differs_195 ?_
                                refine lv_iload hx hb dX9_differs_196 (lv_at hl 8 rfl) ?_
                                refine x_iadd hx hb dX9_differs_198 ?_
                                refine x_iald hx hb hK.1 hw (by omega) (by omega) ar_73 (len_E ar_73 (by decide)) (by omega) (by omega) (by omega) dX9_differs_199 ?_
                                have f221 : 0 ≤ X21 73 0 ((5 * ((30 * sv) + r)) + k) ∧ X21 73 0 ((5 * ((30 * sv) + r)) + k) ≤ 19 := hRX21 73 0 ((5 * ((30 * sv) + r)) + k)
                                refine lv_aload_n hx hb dX9_differs_200 rfl (lv_at hl 0 rfl) ?_
                                refine x_geto hx hb hf9 hw (by omega) (by omega) sl_40_32 lk90 dX9_differs_201 ?_
                                refine lv_iconst (v := jI 5) hx hb dX9_differs_204 rfl ?_
                                refine lv_iload hx hb dX9_differs_205 (lv_at hl 6 rfl) ?_
                                refine x_imul hx hb dX9_differs_207 ?_
                                refine lv_iload hx hb dX9_differs_208 (lv_at hl 8 rfl) ?_
                                refine x_iadd hx hb dX9_differs_210 ?_
                                refine x_iald hx hb hK.1 hw (by omega) (by omega) ar_73 (len_E ar_73 (by decide)) (by omega) (by omega) (by omega) dX9_differs_211 ?_
                                have f222 : 0 ≤ X21 73 0 ((5 * (120 + r)) + k) ∧ X21 73 0 ((5 * (120 + r)) + k) ≤ 19 := hRX21 73 0 ((5 * (120 + r)) + k)
                                refine x_icmp_ne (tgt := 246) hx hb (by omega) (by omega) dX9_differs_212 (by decide) (fun c223 => ?_) (fun c223 => ?_)
                                · refine lv_iconst (v := jI 0) hx hb dX9_differs_246 rfl ?_
                                  refine lv_istore (lv' := [(7, .int (jI 0)), (0, .ref (ad 40 0)), (1, .int (jI sv)), (2, .int (jI x)), (3, .int (jI nz)), (4, .int (jI r)), (5, .int (jI ((30 * sv) + r))), (6, .int (jI (120 + r))), (8, .int (jI k))]) hx hb dX9_differs_247 hl (by decide) rfl (fun ls hl => ?_)
                                  refine lv_iinc (v := jI (k + 1)) (lv' := [(8, .int (jI (k + 1))), (7, .int (jI 0)), (0, .ref (ad 40 0)), (1, .int (jI sv)), (2, .int (jI x)), (3, .int (jI nz)), (4, .int (jI r)), (5, .int (jI ((30 * sv) + r))), (6, .int (jI (120 + r)))]) hx hb dX9_differs_249 hl (k := 8) rfl (jI_add _ _) (by decide) rfl (fun ls hl => ?_)
                                  refine lv_goto (tgt := 171) hx hb dX9_differs_252 (by decide) ?_
                                  exact ih171 0 (k + 1) _ _ _ (by omega) (by omega) (by omega) (fun q => (by obtain ⟨q1, q2, q3⟩ := hsm1 (by omega); exact ⟨q1, q2, fun j a b => if hj : j = k then (by rw [hj]; exact ⟨by omega, by omega⟩) else q3 j a (by omega)⟩)) (fun q e => (by have h9 := e.2.2.2.2 k (by omega) (by omega); omega)) hw hS (lv_sub hl [2, 3, 4, 5, 6, 7, 8, 1, 0] rfl)
                                · refine lv_aload_n hx hb dX9_differs_215 rfl (lv_at hl 0 rfl) ?_
                                  refine x_geto hx hb hf9 hw (by omega) (by omega) sl_40_33 lk93 dX9_differs_216 ?_
                                  refine lv_iconst (v := jI 5) hx hb dX9_differs_219 rfl ?_
                                  refine lv_iload hx hb dX9_differs_220 (lv_at hl 5 rfl) ?_
                                  refine x_imul hx hb dX9_differs_222 ?_
                                  refine lv_iload hx hb dX9_differs_223 (lv_at hl 8 rfl) ?_
                                  refine x_iadd hx hb dX9_differs_225 ?_
                                  refine x_iald hx hb hK.1 hw (by omega) (by omega) ar_74 (len_E ar_74 (by decide)) (by omega) (by omega) (by omega) dX9_differs_226 ?_
                                  have f224 : 0 ≤ X21 74 0 ((5 * ((30 * sv) + r)) + k) ∧ X21 74 0 ((5 * ((30 * sv) + r)) + k) ≤ 5 := hRX21 74 0 ((5 * ((30 * sv) + r)) + k)
                                  refine lv_aload_n hx hb dX9_differs_227 rfl (lv_at hl 0 rfl) ?_
                                  refine x_geto hx hb hf9 hw (by omega) (by omega) sl_40_33 lk93 dX9_differs_228 ?_
                                  refine lv_iconst (v := jI 5) hx hb dX9_differs_231 rfl ?_
                                  refine lv_iload hx hb dX9_differs_232 (lv_at hl 6 rfl) ?_
                                  refine x_imul hx hb dX9_differs_234 ?_
                                  refine lv_iload hx hb dX9_differs_235 (lv_at hl 8 rfl) ?_
                                  refine x_iadd hx hb dX9_differs_237 ?_
                                  refine x_iald hx hb hK.1 hw (by omega) (by omega) ar_74 (len_E ar_74 (by decide)) (by omega) (by omega) (by omega) dX9_differs_238 ?_
                                  have f225 : 0 ≤ X21 74 0 ((5 * (120 + r)) + k) ∧ X21 74 0 ((5 * (120 + r)) + k) ≤ 5 := hRX21 74 0 ((5 * (120 + r)) + k)
                                  refine x_icmp_ne (tgt := 246) hx hb (by omega) (by omega) dX9_differs_239 (by decide) (fun c226 => ?_) (fun c226 => ?_)
                                  · refine lv_iconst (v := jI 0) hx hb dX9_differs_246 rfl ?_
                                    refine lv_istore (lv' := [(7, .int (jI 0)), (0, .ref (ad 40 0)), (1, .int (jI sv)), (2, .int (jI x)), (3, .int (jI nz)), (4, .int (jI r)), (5, .int (jI ((30 * sv) + r))), (6, .int (jI (120 + r))), (8, .int (jI k))]) hx hb dX9_differs_247 hl (by decide) rfl (fun ls hl => ?_)
                                    refine lv_iinc (v := jI (k + 1)) (lv' := [(8, .int (jI (k + 1))), (7, .int (jI 0)), (0, .ref (ad 40 0)), (1, .int (jI sv)), (2, .int (jI x)), (3, .int (jI nz)), (4, .int (jI r)), (5, .int (jI ((30 * sv) + r))), (6, .int (jI (120 + r)))]) hx hb dX9_differs_249 hl (k := 8) rfl (jI_add _ _) (by decide) rfl (fun ls hl => ?_)
                                    refine lv_goto (tgt := 171) hx hb dX9_differs_252 (by decide) ?_
                                    exact ih171 0 (k + 1) _ _ _ (by omega) (by omega) (by omega) (fun q => (by obtain ⟨q1, q2, q3⟩ := hsm1 (by omega); exact ⟨q1, q2, fun j a b => if hj : j = k then (by rw [hj]; exact ⟨by omega, by omega⟩) else q3 j a (by omega)⟩)) (fun q e => (by have h9 := e.2.2.2.2 k (by omega) (by omega); omega)) hw hS (lv_sub hl [2, 3, 4, 5, 6, 7, 8, 1, 0] rfl)
                                  · refine lv_iconst (v := jI 1) hx hb dX9_differs_242 rfl ?_
                                    refine lv_goto (tgt := 247) hx hb dX9_differs_243 (by decide) ?_
                                    refine lv_istore (lv' := [(7, .int (jI 1)), (0, .ref (ad 40 0)), (1, .int (jI sv)), (2, .int (jI x)), (3, .int (jI nz)), (4, .int (jI r)), (5, .int (jI ((30 * sv) + r))), (6, .int (jI (120 + r))), (8, .int (jI k))]) hx hb dX9_differs_247 hl (by decide) rfl (fun ls hl => ?_)
                                    refine lv_iinc (v := jI (k + 1)) (lv' := [(8, .int (jI (k + 1))), (7, .int (jI 1)), (0, .ref (ad 40 0)), (1, .int (jI sv)), (2, .int (jI x)), (3, .int (jI nz)), (4, .int (jI r)), (5, .int (jI ((30 * sv) + r))), (6, .int (jI (120 + r)))]) hx hb dX9_differs_249 hl (k := 8) rfl (jI_add _ _) (by decide) rfl (fun ls hl => ?_)
                                    refine lv_goto (tgt := 171) hx hb dX9_differs_252 (by decide) ?_
                                    exact ih171 1 (k + 1) _ _ _ (by omega) (by omega) (by omega) (fun q => (by obtain ⟨q1, q2, q3⟩ := hsm1 (by omega); exact ⟨q1, q2, fun j a b => if hj : j = k then (by rw [hj]; exact ⟨by omega, by omega⟩) else q3 j a (by omega)⟩)) (fun q e => (by have h9 := e.2.2.2.2 k (by omega) (by omega); omega)) hw hS (lv_sub hl [2, 3, 4, 5, 6, 7, 8, 1, 0] rfl)
                        exact lp171 (5 - 0 : Int).toNat.succ 1 0 _ _ _ (by omega) (by omega) (by omega) (fun q => ⟨by omega, by omega, fun j a b => by omega⟩) (fun q e => by obtain ⟨q1, q2, q3, q4, -⟩ := e; omega) hw hS (lv_sub hl [4, 5, 6, 7, 8, 3, 2, 1, 0] rfl)
                  · refine lv_bipush (v := jI 100) hx hb dX9_differs_102 (by decide) ?_
                    refine lv_iload hx hb dX9_differs_104 (lv_at hl 4 rfl) ?_
                    refine x_imul hx hb dX9_differs_106 ?_
                    refine lv_bipush (v := jI 99) hx hb dX9_differs_107 (by decide) ?_
                    refine x_iadd hx hb dX9_differs_109 ?_
                    refine ret_i (mc := 0) (ms := 0) hx hb hr hlocks hw hS (by omega) (by omega) dX9_differs_110 ?_
                    have q227 : Frm [4001] X X1 := by rw [hX1]; exact Frm.set Frm.rf (show 4001 ∈ [4001] by decide)
                    have hrd228 := rdr_eq (L := [4001]) q227 (by decide)
                    have hsx229 := hsvX21
                    rw [hrd228.1, hrd228.2.1, hrd228.2.2, Frm.arr q227 48 (by decide +kernel) (by decide), Frm.arr q227 55 (by decide +kernel) (by decide)] at hsx229
                    exact ⟨X21, rfl, hRX21, hFX21, hMIX21, by omega, S4.tr (S4.frm q227 (by decide)) h4X21, S5.tr (S5.frm q227 (by decide)) h5X21, Or.inr ⟨(by (try delta Hid at *); omega), (by rcases hsx229 with ⟨-, q, -⟩ | ⟨-, -, q⟩; exact absurd q (by decide); exact q), Or.inr ⟨r, by omega, by omega, hall, Or.inl ⟨(fun q => by have q1 := q.1; have q2 := q.2.1; omega), by omega⟩⟩⟩⟩
          exact lp74 (30 - 0 : Int).toNat.succ (X21 70 0 4) 0 _ _ _ (by omega) (by omega) (by omega) (by unfold mxM; split <;> omega) (fun r' a b => by omega) hw hS (lv_sub hl [2, 3, 4, 1, 0] rfl)
        · refine lv_aload_n hx hb dX9_differs_55 rfl (lv_at hl 0 rfl) ?_
          refine x_geto hx hb hf9 hw (by omega) (by omega) sl_40_29 lk81 dX9_differs_56 ?_
          refine lv_iload_n hx hb dX9_differs_59 rfl (lv_at hl 1 rfl) ?_
          refine x_iald hx hb hK.1 hw (by omega) (by omega) ar_70 (len_E ar_70 (by decide)) (by omega) (by omega) (by omega) dX9_differs_60 ?_
          have f230 : 0 ≤ X21 70 0 sv ∧ X21 70 0 sv ≤ 30 := hRX21 70 0 sv
          refine lv_goto (tgt := 70) hx hb dX9_differs_61 (by decide) ?_
          refine lv_istore_n (lv' := [(3, .int (jI (X21 70 0 sv))), (0, .ref (ad 40 0)), (1, .int (jI sv)), (2, .int (jI x))]) hx hb dX9_differs_70 rfl hl (by decide) rfl (fun ls hl => ?_)
          refine lv_iconst (v := jI 0) hx hb dX9_differs_71 rfl ?_
          refine lv_istore (lv' := [(4, .int (jI 0)), (3, .int (jI (X21 70 0 sv))), (0, .ref (ad 40 0)), (1, .int (jI sv)), (2, .int (jI x))]) hx hb dX9_differs_72 hl (by decide) rfl (fun ls hl => ?_)
          have lp74 : ∀ (nn : Nat) (nz : Int) (r : Int) (H : Heap) (locs : List Loc) (ls : Array Slot), (30 - r) < (nn : Int) → (0 ≤ nz ∧ nz ≤ 30) → (0 ≤ r ∧ r ≤ 30) → (nz = mxM X21 sv) → (∀ r', 0 ≤ r' → r' < r → shM X21 sv r' ∧ ∀ f, 0 ≤ f → f < X21 72 0 (30 * sv + r') → vqM X21 sv r' f) → wd D tc base (ad, cnt, X21, Y, ln) H → va_S (frA base) s.heap H locs → lv_has ls 12 [(0, .ref (ad 40 0)), (1, .int (jI sv)), (2, .int (jI x)), (3, .int (jI nz)), (4, .int (jI r))] → W p l e ({ frames := 2, cells := 0, slots := 0, locals := 53 } : Room) s m ([.ref (ad 40 0), .int (jI sv), .int (jI x)] : List Value).toArray below meth c H locs 0 0 (MQ below (QI D tc base (fun z u => ∃ X1 : Nat → Int → Int → Int, u = (ad, cnt, X1, Y, ln) ∧ Rng X1 ∧ Frm [4001, 7100, 7200, 7300, 7400, 7500, 8000, 7000, 8100, 7700, 7800, 7900, 7600, 4042, 4043, 4044] X X1 ∧ MInv X1 ∧ (-2147483648 ≤ z ∧ z ≤ 2147483647) ∧ S4 X X1 ∧ S5 X X1 ∧ ((¬ ((0 ≤ sv ∧ sv < 4) ∧ X 70 0 sv ≠ 0 ∧ (0 ≤ x ∧ x < X 40 0 13)) ∧ z = -2) ∨ (((0 ≤ sv ∧ sv < 4) ∧ X 70 0 sv ≠ 0 ∧ (0 ≤ x ∧ x < X 40 0 13)) ∧ (rmT X1 (recR (fcM X) (lnM X) (mRid X) (mRid X) x 30) ∧ rmR X1 (recR (fcM X) (lnM X) (mRid X) (mRid X) x 30) ∧ rmV X1 (recR (fcM X) (lnM X) (mRid X) (mRid X) x 30) (recR (fcM X) (lnM X) (mRid X) (mRid X) x 30 0 0) 0) ∧ dfP (mxM X1 sv) (shM X1 sv) (fun r => X1 72 0 (30 * sv + r)) (vqM X1 sv) (fun r f => X1 73 0 (5 * (30 * sv + r) + f)) z)))) ([.ref (ad 40 0), .int (jI sv), .int (jI x)] : List Value).toArray s 0 0 (frA base)) (F0 m 74 ls []) := by
            intro nn
            induction nn with
            | zero => intro nz r H locs ls hm hnz hr0 hnzv hall hw hS hl; exfalso; omega
            | succ nn ih74 =>
              intro nz r H locs ls hm hnz hr0 hnzv hall hw hS hl
              refine lv_iload hx hb dX9_differs_74 (lv_at hl 4 rfl) ?_
              refine lv_iload_n hx hb dX9_differs_76 rfl (lv_at hl 3 rfl) ?_
              refine x_icmp_ge (tgt := 417) hx hb (by omega) (by omega) dX9_differs_77 (by decide) (fun c231 => ?_) (fun c231 => ?_)
              · refine lv_iconst (v := jI (-1)) hx hb dX9_differs_417 rfl ?_
                refine ret_i (mc := 0) (ms := 0) hx hb hr hlocks hw hS (by omega) (by omega) dX9_differs_418 ?_
                have q232 : Frm [4001] X X1 := by rw [hX1]; exact Frm.set Frm.rf (show 4001 ∈ [4001] by decide)
                have hrd233 := rdr_eq (L := [4001]) q232 (by decide)
                have hsx234 := hsvX21
                rw [hrd233.1, hrd233.2.1, hrd233.2.2, Frm.arr q232 48 (by decide +kernel) (by decide), Frm.arr q232 55 (by decide +kernel) (by decide)] at hsx234
                exact ⟨X21, rfl, hRX21, hFX21, hMIX21, by omega, S4.tr (S4.frm q232 (by decide)) h4X21, S5.tr (S5.frm q232 (by decide)) h5X21, Or.inr ⟨(by (try delta Hid at *); omega), (by rcases hsx234 with ⟨-, q, -⟩ | ⟨-, -, q⟩; exact absurd q (by decide); exact q), Or.inl ⟨rfl, fun r9 a b => hall r9 a (by omega)⟩⟩⟩
              · refine lv_iload hx hb dX9_differs_80 (lv_at hl 4 rfl) ?_
                refine lv_aload_n hx hb dX9_differs_82 rfl (lv_at hl 0 rfl) ?_
                refine x_geto hx hb hf9 hw (by omega) (by omega) sl_40_29 lk81 dX9_differs_83 ?_
                refine lv_iload_n hx hb dX9_differs_86 rfl (lv_at hl 1 rfl) ?_
                refine x_iald hx hb hK.1 hw (by omega) (by omega) ar_70 (len_E ar_70 (by decide)) (by omega) (by omega) (by omega) dX9_differs_87 ?_
                have f235 : 0 ≤ X21 70 0 sv ∧ X21 70 0 sv ≤ 30 := hRX21 70 0 sv
                refine x_icmp_ge (tgt := 102) hx hb (by omega) (by omega) dX9_differs_88 (by decide) (fun c236 => ?_) (fun c236 => ?_)
                · refine lv_bipush (v := jI 100) hx hb dX9_differs_102 (by decide) ?_
                  refine lv_iload hx hb dX9_differs_104 (lv_at hl 4 rfl) ?_
                  refine x_imul hx hb dX9_differs_106 ?_
                  refine lv_bipush (v := jI 99) hx hb dX9_differs_107 (by decide) ?_
                  refine x_iadd hx hb dX9_differs_109 ?_
                  refine ret_i (mc := 0) (ms := 0) hx hb hr hlocks hw hS (by omega) (by omega) dX9_differs_110 ?_
                  have q237 : Frm [4001] X X1 := by rw [hX1]; exact Frm.set Frm.rf (show 4001 ∈ [4001] by decide)
                  have hrd238 := rdr_eq (L := [4001]) q237 (by decide)
                  have hsx239 := hsvX21
                  rw [hrd238.1, hrd238.2.1, hrd238.2.2, Frm.arr q237 48 (by decide +kernel) (by decide), Frm.arr q237 55 (by decide +kernel) (by decide)] at hsx239
                  exact ⟨X21, rfl, hRX21, hFX21, hMIX21, by omega, S4.tr (S4.frm q237 (by decide)) h4X21, S5.tr (S5.frm q237 (by decide)) h5X21, Or.inr ⟨(by (try delta Hid at *); omega), (by rcases hsx239 with ⟨-, q, -⟩ | ⟨-, -, q⟩; exact absurd q (by decide); exact q), Or.inr ⟨r, by omega, by omega, hall, Or.inl ⟨(fun q => by have q1 := q.1; have q2 := q.2.1; omega), by omega⟩⟩⟩⟩
                · refine lv_iload hx hb dX9_differs_91 (lv_at hl 4 rfl) ?_
                  refine lv_aload_n hx hb dX9_differs_93 rfl (lv_at hl 0 rfl) ?_
                  refine x_geto hx hb hf9 hw (by omega) (by omega) sl_40_29 lk81 dX9_differs_94 ?_
                  refine lv_iconst (v := jI 4) hx hb dX9_differs_97 rfl ?_
                  refine x_iald hx hb hK.1 hw (by omega) (by omega) ar_70 (len_E ar_70 (by decide)) (by omega) (by omega) (by omega) dX9_differs_98 ?_
                  have f240 : 0 ≤ X21 70 0 4 ∧ X21 70 0 4 ≤ 30 := hRX21 70 0 4
                  refine x_icmp_lt (tgt := 111) hx hb (by omega) (by omega) dX9_differs_99 (by decide) (fun c241 => ?_) (fun c241 => ?_)
                  · refine lv_bipush (v := jI 30) hx hb dX9_differs_111 (by decide) ?_
                    refine lv_iload_n hx hb dX9_differs_113 rfl (lv_at hl 1 rfl) ?_
                    refine x_imul hx hb dX9_differs_114 ?_
                    refine lv_iload hx hb dX9_differs_115 (lv_at hl 4 rfl) ?_
                    refine x_iadd hx hb dX9_differs_117 ?_
                    refine lv_istore (lv' := [(5, .int (jI ((30 * sv) + r))), (0, .ref (ad 40 0)), (1, .int (jI sv)), (2, .int (jI x)), (3, .int (jI nz)), (4, .int (jI r))]) hx hb dX9_differs_118 hl (by decide) rfl (fun ls hl => ?_)
                    refine lv_bipush (v := jI 120) hx hb dX9_differs_120 (by decide) ?_
                    refine lv_iload hx hb dX9_differs_122 (lv_at hl 5 rfl) ?_
                    refine x_iadd hx hb dX9_differs_124 ?_
                    refine lv_istore (lv' := [(6, .int (jI (120 + r))), (5, .int (jI ((30 * sv) + r))), (0, .ref (ad 40 0)), (1, .int (jI sv)), (2, .int (jI x)), (3, .int (jI nz)), (4, .int (jI r))]) hx hb dX9_differs_125 hl (by decide) rfl (fun ls hl => ?_)
                    refine lv_aload_n hx hb dX9_differs_127 rfl (lv_at hl 2 rfl) ?_
                    refine x_geto hx hb hf9 hw (by omega) (by omega) sl_40_30 lk84 dX9_differs_128 ?_
                    refine lv_iload hx hb dX9_differs_131 (lv_at hl 1 rfl) ?_
                    refine x_iald hx hb hK.1 hw (by omega) (by omega) ar_71 (len_E ar_71 (by decide)) (by omega) (by omega) (by omega) dX9_differs_133 ?_
                    have f242 : 0 ≤ X21 71 0 ((30 * sv) + r) ∧ X21 71 0 ((30 * sv) + r) ≤ 7 := hRX21 71 0 ((30 * sv) + r)
                    refine lv_aload_n hx hb dX9_differs_134 rfl (lv_at hl 2 rfl) ?_
                    refine x_geto hx hb hf9 hw (by omega) (by omega) sl_40_30 lk84 dX9_differs_135 ?_
                    refine lv_iload hx hb dX9_differs_138 (lv_at hl 0 rfl) ?_
                    refine x_iald hx hb hK.1 hw (by omega) (by omega) ar_71 (len_E ar_71 (by decide)) (by omega) (by omega) (by omega) dX9_differs_140 ?_
                    have f243 : 0 ≤ X21 71 0 (120 + r) ∧ X21 71 0 (120 + r) ≤ 7 := hRX21 71 0 (120 + r)
                    refine x_icmp_ne (tgt := 165) hx hb (by omega) (by omega) dX9_differs_141 (by decide) (fun c244 => ?_) (fun c244 => ?_)
                    · refine lv_iconst (v := jI 0) hx hb dX9_differs_165 rfl ?_
                      refine lv_istore (lv' := [(7, .int (jI 0)), (6, .int (jI (120 + r))), (5, .int (jI ((30 * sv) + r))), (0, .ref (ad 40 0)), (1, .int (jI sv)), (2, .int (jI x)), (3, .int (jI nz)), (4, .int (jI r))]) hx hb dX9_differs_166 hl (by decide) rfl (fun ls hl => ?_)
                      refine lv_iconst (v := jI 0) hx hb dX9_differs_168 rfl ?_
                      refine lv_istore (lv' := [(8, .int (jI 0)), (7, .int (jI 0)), (6, .int (jI (120 + r))), (5, .int (jI ((30 * sv) + r))), (0, .ref (ad 40 0)), (1, .int (jI sv)), (2, .int (jI x)), (3, .int (jI nz)), (4, .int (jI r))]) hx hb dX9_differs_169 hl (by decide) rfl (fun ls hl => ?_)
                      have lp171 : ∀ (nn : Nat) (sm : Int) (k : Int) (H : Heap) (locs : List Loc) (ls : Array Slot), (5 - k) < (nn : Int) → (0 ≤ sm ∧ sm ≤ 1) → (0 ≤ k ∧ k ≤ 5) → (sm = 1 → X21 71 0 (30 * sv + r) = X21 71 0 (120 + r) ∧ X21 72 0 (30 * sv + r) = X21 72 0 (120 + r) ∧ ∀ j, 0 ≤ j → j < k → X21 73 0 (5 * (30 * sv + r) + j) = X21 73 0 (5 * (120 + r) + j) ∧ X21 74 0 (5 * (30 * sv + r) + j) = X21 74 0 (5 * (120 + r) + j)) → (sm = 0 → ¬ shM X21 sv r) → wd D tc base (ad, cnt, X21, Y, ln) H → va_S (frA base) s.heap H locs → lv_has ls 12 [(0, .ref (ad 40 0)), (1, .int (jI sv)), (2, .int (jI x)), (3, .int (jI nz)), (4, .int (jI r)), (5, .int (jI ((30 * sv) + r))), (6, .int (jI (120 + r))), (7, .int (jI sm)), (8, .int (jI k))] → W p l e ({ frames := 2, cells := 0, slots := 0, locals := 53 } : Room) s m ([.ref (ad 40 0), .int (jI sv), .int (jI x)] : List Value).toArray below meth c H locs 0 0 (MQ below (QI D tc base (fun z u => ∃ X1 : Nat → Int → Int → Int, u = (ad, cnt, X1, Y, ln) ∧ Rng X1 ∧ Frm [4001, 7100, 7200, 7300, 7400, 7500, 8000, 7000, 8100, 7700, 7800, 7900, 7600, 4042, 4043, 4044] X X1 ∧ MInv X1 ∧ (-2147483648 ≤ z ∧ z ≤ 2147483647) ∧ S4 X X1 ∧ S5 X X1 ∧ ((¬ ((0 ≤ sv ∧ sv < 4) ∧ X 70 0 sv ≠ 0 ∧ (0 ≤ x ∧ x < X 40 0 13)) ∧ z = -2) ∨ (((0 ≤ sv ∧ sv < 4) ∧ X 70 0 sv ≠ 0 ∧ (0 ≤ x ∧ x < X 40 0 13)) ∧ (rmT X1 (recR (fcM X) (lnM X) (mRid X) (mRid X) x 30) ∧ rmR X1 (recR (fcM X) (lnM X) (mRid X) (mRid X) x 30) ∧ rmV X1 (recR (fcM X) (lnM X) (mRid X) (mRid X) x 30) (recR (fcM X) (lnM X) (mRid X) (mRid X) x 30 0 0) 0) ∧ dfP (mxM X1 sv) (shM X1 sv) (fun r => X1 72 0 (30 * sv + r)) (vqM X1 sv) (fun r f => X1 73 0 (5 * (30 * sv + r) + f)) z)))) ([.ref (ad 40 0), .int (jI sv), .int (jI x)] : List Value).toArray s 0 0 (frA base)) (F0 m 171 ls []) := by
                        intro nn
                        induction nn with
                        | zero => intro sm k H locs ls hm hsm hk hsm1 hsm0 hw hS hl; exfalso; omega
                        | succ nn ih171 =>
                          intro sm k H locs ls hm hsm hk hsm1 hsm0 hw hS hl
                          skip
                          refine lv_iload hx hb dX9_differs_171 (lv_at hl 7 rfl) ?_
                          refine x_if_eq (tgt := 255) hx hb (by omega) dX9_differs_173 (by decide) (fun c245 => ?_) (fun c245 => ?_)
                          · refine lv_iload hx hb dX9_differs_255 (lv_at hl 7 rfl) ?_
                            refine x_if_ne (tgt := 269) hx hb (by omega) dX9_differs_257 (by decide) (fun c246 => ?_) (fun c246 => ?_)
                            · refine lv_iconst (v := jI 0) hx hb dX9_differs_269 rfl ?_
                              refine lv_istore (lv' := [(8, .int (jI 0)), (0, .ref (ad 40 0)), (1, .int (jI sv)), (2, .int (jI x)), (3, .int (jI nz)), (4, .int (jI r)), (5, .int (jI ((30 * sv) + r))), (6, .int (jI (120 + r))), (7, .int (jI sm))]) hx hb dX9_differs_270 hl (by decide) rfl (fun ls hl => ?_)
                              have lp272 : ∀ (nn : Nat) (k : Int) (H : Heap) (locs : List Loc) (ls : Array Slot), (5 - k) < (nn : Int) → (0 ≤ k ∧ k ≤ 5) → (shM X21 sv r) → (∀ f, 0 ≤ f → f < k → vqM X21 sv r f) → wd D tc base (ad, cnt, X21, Y, ln) H → va_S (frA base) s.heap H locs → lv_has ls 12 [(0, .ref (ad 40 0)), (1, .int (jI sv)), (2, .int (jI x)), (3, .int (jI nz)), (4, .int (jI r)), (5, .int (jI ((30 * sv) + r))), (6, .int (jI (120 + r))), (8, .int (jI k))] → W p l e ({ frames := 2, cells := 0, slots := 0, locals := 53 } : Room) s m ([.ref (ad 40 0), .int (jI sv), .int (jI x)] : List Value).toArray below meth c H locs 0 0 (MQ below (QI D tc base (fun z u => ∃ X1 : Nat → Int → Int → Int, u = (ad, cnt, X1, Y, ln) ∧ Rng X1 ∧ Frm [4001, 7100, 7200, 7300, 7400, 7500, 8000, 7000, 8100, 7700, 7800, 7900, 7600, 4042, 4043, 4044] X X1 ∧ MInv X1 ∧ (-2147483648 ≤ z ∧ z ≤ 2147483647) ∧ S4 X X1 ∧ S5 X X1 ∧ ((¬ ((0 ≤ sv ∧ sv < 4) ∧ X 70 0 sv ≠ 0 ∧ (0 ≤ x ∧ x < X 40 0 13)) ∧ z = -2) ∨ (((0 ≤ sv ∧ sv < 4) ∧ X 70 0 sv ≠ 0 ∧ (0 ≤ x ∧ x < X 40 0 13)) ∧ (rmT X1 (recR (fcM X) (lnM X) (mRid X) (mRid X) x 30) ∧ rmR X1 (recR (fcM X) (lnM X) (mRid X) (mRid X) x 30) ∧ rmV X1 (recR (fcM X) (lnM X) (mRid X) (mRid X) x 30) (recR (fcM X) (lnM X) (mRid X) (mRid X) x 30 0 0) 0) ∧ dfP (mxM X1 sv) (shM X1 sv) (fun r => X1 72 0 (30 * sv + r)) (vqM X1 sv) (fun r f => X1 73 0 (5 * (30 * sv + r) + f)) z)))) ([.ref (ad 40 0), .int (jI sv), .int (jI x)] : List Value).toArray s 0 0 (frA base)) (F0 m 272 ls []) := by
                                intro nn
                                induction nn with
                                | zero => intro k H locs ls hm hk hsh hvk hw hS hl; exfalso; omega
                                | succ nn ih272 =>
                                  intro k H locs ls hm hk hsh hvk hw hS hl
                                  refine lv_iload hx hb dX9_differs_272 (lv_at hl 7 rfl) ?_
                                  refine lv_aload_n hx hb dX9_differs_274 rfl (lv_at hl 0 rfl) ?_
                                  refine x_geto hx hb hf9 hw (by omega) (by omega) sl_40_31 lk87 dX9_differs_275 ?_
                                  refine lv_iload hx hb dX9_differs_278 (lv_at hl 5 rfl) ?_
                                  refine x_iald hx hb hK.1 hw (by omega) (by omega) ar_72 (len_E ar_72 (by decide)) (by omega) (by omega) (by omega) dX9_differs_280 ?_
                                  have f247 : 0 ≤ X21 72 0 ((30 * sv) + r) ∧ X21 72 0 ((30 * sv) + r) ≤ 5 := hRX21 72 0 ((30 * sv) + r)
                                  refine x_icmp_ge (tgt := 411) hx hb (by omega) (by omega) dX9_differs_281 (by decide) (fun c248 => ?_) (fun c248 => ?_)
                                  · refine lv_iinc (v := jI (r + 1)) (lv' := [(4, .int (jI (r + 1))), (0, .ref (ad 40 0)), (1, .int (jI sv)), (2, .int (jI x)), (3, .int (jI nz)), (5, .int (jI ((30 * sv) + r))), (6, .int (jI (120 + r))), (8, .int (jI k))]) hx hb dX9_differs_411 hl (k := 4) rfl (jI_add _ _) (by decide) rfl (fun ls hl => ?_)
                                    refine lv_goto (tgt := 74) hx hb dX9_differs_414 (by decide) ?_
                                    exact ih74 nz (r + 1) _ _ _ (by omega) (by omega) (by omega) (hnzv) (fun r' a b => if hr9 : r' = r then (by rw [hr9]; exact ⟨hsh, fun f f0 f1 => hvk f f0 (by omega)⟩) else hall r' a (by omega)) hw hS (lv_sub hl [1, 2, 3, 4, 0] rfl)
                                  · refine lv_aload_n hx hb dX9_differs_284 rfl (lv_at hl 0 rfl) ?_
                                    refine x_geto hx hb hf9 hw (by omega) (by omega) sl_40_34 lk96 dX9_differs_285 ?_
                                    refine lv_iconst (v := jI 5) hx hb dX9_differs_288 rfl ?_
                                    refine lv_iload hx hb dX9_differs_289 (lv_at hl 5 rfl) ?_
                                    refine x_imul hx hb dX9_differs_291 ?_
                                    refine lv_iload hx hb dX9_differs_292 (lv_at hl 7 rfl) ?_
                                    refine x_iadd hx hb dX9_differs_294 ?_
                                    obtain ⟨hv1, hv2, hv3⟩ := (hMIX21.2.2.1 sv r (by omega) (by omega) (by omega) (by omega)).2 k (by omega) (by omega)
                                    refine x_lald hx hb hK.1 hw (by omega) (by omega) ar_75 (len_E ar_75 (by decide)) (by omega) (by omega) (by omega) dX9_differs_295 ?_
                                    have f249 : (-9223372036854775808) ≤ X21 75 0 ((5 * ((30 * sv) + r)) + k) ∧ X21 75 0 ((5 * ((30 * sv) + r)) + k) ≤ 9223372036854775807 := hRX21 75 0 ((5 * ((30 * sv) + r)) + k)
                                    refine lv_lstore (lv' := [(9, .long (jL (X21 75 0 ((5 * ((30 * sv) + r)) + k)))), (0, .ref (ad 40 0)), (1, .int (jI sv)), (2, .int (jI x)), (3, .int (jI nz)), (4, .int (jI r)), (5, .int (jI ((30 * sv) + r))), (6, .int (jI (120 + r))), (8, .int (jI k))]) hx hb dX9_differs_296 hl (by decide) rfl (fun ls hl => ?_)
                                    refine lv_lload hx hb dX9_differs_298 (lv_at hl 0 rfl) ?_
                                    refine lv_aload_n hx hb dX9_differs_300 rfl (lv_at hl 1 rfl) ?_
                                    refine x_geto hx hb hf9 hw (by omega) (by omega) sl_40_34 lk96 dX9_differs_301 ?_
                                    refine lv_iconst (v := jI 5) hx hb dX9_differs_304 rfl ?_
                                    refine lv_iload hx hb dX9_differs_305 (lv_at hl 7 rfl) ?_
                                    refine x_imul hx hb dX9_differs_307 ?_
                                    refine lv_iload hx hb dX9_differs_308 (lv_at hl 8 rfl) ?_
                                    refine x_iadd hx hb dX9_differs_310 ?_
                                    refine x_lald hx hb hK.1 hw (by omega) (by omega) ar_75 (len_E ar_75 (by decide)) (by omega) (by omega) (by omega) dX9_differs_311 ?_
                                    have f250 : (-9223372036854775808) ≤ X21 75 0 ((5 * (120 + r)) + k) ∧ X21 75 0 ((5 * (120 + r)) + k) ≤ 9223372036854775807 := hRX21 75 0 ((5 * (120 + r)) + k)
                                    refine x_lcmp hx hb (by omega) (by omega) dX9_differs_312 ?_
                                    obtain ⟨z251, ez251⟩ : ∃ y : Int, y = cmpZ (X21 75 0 ((5 * ((30 * sv) + r)) + k)) (X21 75 0 ((5 * (120 + r)) + k)) := ⟨_, rfl⟩
                                    rw [← ez251]
                                    have gz251 : (z251 < 0 ↔ ((X21 75 0 ((5 * ((30 * sv) + r)) + k)) : Int) < (X21 75 0 ((5 * (120 + r)) + k))) ∧ (z251 = 0 ↔ ((X21 75 0 ((5 * ((30 * sv) + r)) + k)) : Int) = (X21 75 0 ((5 * (120 + r)) + k))) ∧ -1 ≤ z251 ∧ z251 ≤ 1 := by rw [ez251]; exact ⟨cmpZ_lt, cmpZ_eq, (cmpZ_r _ _).1, (cmpZ_r _ _).2⟩
                                    clear ez251
                                    refine x_if_eq (tgt := 320) hx hb (by omega) dX9_differs_313 (by decide) (fun c252 => ?_) (fun c252 => ?_)
                                    · refine lv_iconst (v := jI 0) hx hb dX9_differs_320 rfl ?_
                                      refine lv_istore (lv' := [(11, .int (jI 0)), (9, .long (jL (X21 75 0 ((5 * ((30 * sv) + r)) + k)))), (0, .ref (ad 40 0)), (1, .int (jI sv)), (2, .int (jI x)), (3, .int (jI nz)), (4, .int (jI r)), (5, .int (jI ((30 * sv) + r))), (6, .int (jI (120 + r))), (8, .int (jI k))]) hx hb dX9_differs_321 hl (by decide) rfl (fun ls hl => ?_)
                                      refine lv_iload hx hb dX9_differs_323 (lv_at hl 0 rfl) ?_
                                      refine x_if_neF (tgt := 374) hx hb (by omega) (by decide) dX9_differs_325 (by decide) ?_
                                      refine lv_aload_n hx hb dX9_differs_328 rfl (lv_at hl 2 rfl) ?_
                                      refine x_geto hx hb hf9 hw (by omega) (by omega) sl_40_33 lk93 dX9_differs_329 ?_
                                      refine lv_iconst (v := jI 5) hx hb dX9_differs_332 rfl ?_
                                      refine lv_iload hx hb dX9_differs_333 (lv_at hl 7 rfl) ?_
                                      refine x_imul hx hb dX9_differs_335 ?_
                                      refine lv_iload hx hb dX9_differs_336 (lv_at hl 9 rfl) ?_
                                      refine x_iadd hx hb dX9_differs_338 ?_
                                      refine x_iald hx hb hK.1 hw (by omega) (by omega) ar_74 (len_E ar_74 (by decide)) (by omega) (by omega) (by omega) dX9_differs_339 ?_
                                      have f253 : 0 ≤ X21 74 0 ((5 * ((30 * sv) + r)) + k) ∧ X21 74 0 ((5 * ((30 * sv) + r)) + k) ≤ 5 := hRX21 74 0 ((5 * ((30 * sv) + r)) + k)
                                      refine lv_iconst (v := jI 2) hx hb dX9_differs_340 rfl ?_
                                      refine x_icmp_le (tgt := 378) hx hb (by omega) (by omega) dX9_differs_341 (by decide) (fun c254 => ?_) (fun c254 => ?_)
                                      · refine lv_iconst (v := jI 0) hx hb dX9_differs_378 rfl ?_
                                        refine lv_istore (lv' := [(11, .int (jI 0)), (9, .long (jL (X21 75 0 ((5 * ((30 * sv) + r)) + k)))), (0, .ref (ad 40 0)), (1, .int (jI sv)), (2, .int (jI x)), (3, .int (jI nz)), (4, .int (jI r)), (5, .int (jI ((30 * sv) + r))), (6, .int (jI (120 + r))), (8, .int (jI k))]) hx hb dX9_differs_379 hl (by decide) rfl (fun ls hl => ?_)
                                        refine lv_iload hx hb dX9_differs_381 (lv_at hl 0 rfl) ?_
                                        refine x_if_eqT (tgt := 405) hx hb (by omega) (by decide) dX9_differs_383 (by decide) ?_
                                        refine lv_iinc (v := jI (k + 1)) (lv' := [(8, .int (jI (k + 1))), (11, .int (jI 0)), (9, .long (jL (X21 75 0 ((5 * ((30 * sv) + r)) + k)))), (0, .ref (ad 40 0)), (1, .int (jI sv)), (2, .int (jI x)), (3, .int (jI nz)), (4, .int (jI r)), (5, .int (jI ((30 * sv) + r))), (6, .int (jI (120 + r)))]) hx hb dX9_differs_405 hl (k := 9) rfl (jI_add _ _) (by decide) rfl (fun ls hl => ?_)
                                        refine lv_goto (tgt := 272) hx hb dX9_differs_408 (by decide) ?_
                                        exact ih272 (k + 1) _ _ _ (by omega) (by omega) (hsh) (fun f a b => if hf9 : f = k then (by rw [hf9]; exact (by (try delta Hid at *); first | exact ⟨by omega, fun a9 b9 => (by exfalso; omega)⟩ | exact ⟨by omega, fun a9 b9 => (by rcases hrdf with ⟨e9, h9⟩ | ⟨e9, h9⟩; exact h9; exfalso; omega)⟩)) else hvk f a (by omega)) hw hS (lv_sub hl [3, 4, 5, 6, 7, 8, 9, 0] rfl)
                                      · refine lv_lload hx hb dX9_differs_344 (lv_at hl 1 rfl) ?_
                                        refine lv_lconst (v := jL 0) hx hb dX9_differs_346 (by decide) ?_
                                        refine x_lcmp hx hb (by omega) (by omega) dX9_differs_347 ?_
                                        obtain ⟨z255, ez255⟩ : ∃ y : Int, y = cmpZ (X21 75 0 ((5 * ((30 * sv) + r)) + k)) 0 := ⟨_, rfl⟩
                                        rw [← ez255]
                                        have gz255 : (z255 < 0 ↔ ((X21 75 0 ((5 * ((30 * sv) + r)) + k)) : Int) < 0) ∧ (z255 = 0 ↔ ((X21 75 0 ((5 * ((30 * sv) + r)) + k)) : Int) = 0) ∧ -1 ≤ z255 ∧ z255 ≤ 1 := by rw [ez255]; exact ⟨cmpZ_lt, cmpZ_eq, (cmpZ_r _ _).1, (cmpZ_r _ _).2⟩
                                        clear ez255
                                        refine x_if_lt (tgt := 378) hx hb (by omega) dX9_differs_348 (by decide) (fun c256 => ?_) (fun c256 => ?_)
                                        · refine lv_iconst (v := jI 0) hx hb dX9_differs_378 rfl ?_
                                          refine lv_istore (lv' := [(11, .int (jI 0)), (9, .long (jL (X21 75 0 ((5 * ((30 * sv) + r)) + k)))), (0, .ref (ad 40 0)), (1, .int (jI sv)), (2, .int (jI x)), (3, .int (jI nz)), (4, .int (jI r)), (5, .int (jI ((30 * sv) + r))), (6, .int (jI (120 + r))), (8, .int (jI k))]) hx hb dX9_differs_379 hl (by decide) rfl (fun ls hl => ?_)
                                          refine lv_iload hx hb dX9_differs_381 (lv_at hl 0 rfl) ?_
                                          refine x_if_eqT (tgt := 405) hx hb (by omega) (by decide) dX9_differs_383 (by decide) ?_
                                          refine lv_iinc (v := jI (k + 1)) (lv' := [(8, .int (jI (k + 1))), (11, .int (jI 0)), (9, .long (jL (X21 75 0 ((5 * ((30 * sv) + r)) + k)))), (0, .ref (ad 40 0)), (1, .int (jI sv)), (2, .int (jI x)), (3, .int (jI nz)), (4, .int (jI r)), (5, .int (jI ((30 * sv) + r))), (6, .int (jI (120 + r)))]) hx hb dX9_differs_405 hl (k := 9) rfl (jI_add _ _) (by decide) rfl (fun ls hl => ?_)
                                          refine lv_goto (tgt := 272) hx hb dX9_differs_408 (by decide) ?_
                                          exact ih272 (k + 1) _ _ _ (by omega) (by omega) (hsh) (fun f a b => if hf9 : f = k then (by rw [hf9]; exact (by (try delta Hid at *); first | exact ⟨by omega, fun a9 b9 => (by exfalso; omega)⟩ | exact ⟨by omega, fun a9 b9 => (by rcases hrdf with ⟨e9, h9⟩ | ⟨e9, h9⟩; exact h9; exfalso; omega)⟩)) else hvk f a (by omega)) hw hS (lv_sub hl [3, 4, 5, 6, 7, 8, 9, 0] rfl)
                                        · refine lv_aload_n hx hb dX9_differs_351 rfl (lv_at hl 2 rfl) ?_
                                          refine lv_sipush (v := jI 150) hx hb dX9_differs_352 (by decide) ?_
                                          refine lv_iload_n hx hb dX9_differs_355 rfl (lv_at hl 3 rfl) ?_
                                          refine x_imul hx hb dX9_differs_356 ?_
                                          refine lv_lload hx hb dX9_differs_357 (lv_at hl 1 rfl) ?_
                                          refine x_l2i hx hb dX9_differs_359 ?_
                                          refine x_iadd hx hb dX9_differs_360 ?_
                                          refine lv_sipush (v := jI 600) hx hb dX9_differs_361 (by decide) ?_
                                          refine lv_lload hx hb dX9_differs_364 (lv_at hl 1 rfl) ?_
                                          refine x_l2i hx hb dX9_differs_366 ?_
                                          refine x_iadd hx hb dX9_differs_367 ?_
                                          refine gos_i (run_V (As := [.int (jI ((150 * sv) + (X21 75 0 ((5 * ((30 * sv) + r)) + k)))), .int (jI (600 + (X21 75 0 ((5 * ((30 * sv) + r)) + k))))]) (rest := []) hx hb hml hown hts (c_X9_rowsDiffer l D tc base ad cnt X21 Y ln hRX21 hFx hMIX21 ((150 * sv) + (X21 75 0 ((5 * ((30 * sv) + r)) + k))) (600 + (X21 75 0 ((5 * ((30 * sv) + r)) + k))) (by omega) (by omega)) (cwV 2 hts gX9_differs_X9_rowsDiffer rfl rfl rfl (by decide +kernel) ⟨Nat.le_of_ble_eq_true rfl, Nat.le_of_ble_eq_true rfl⟩) hK hw (by omega) (by omega) sl_40_0 rfl rfl hl.1 rfl (Nat.le_of_ble_eq_true rfl) dX9_differs_368 ⟨Nat.le_of_ble_eq_true rfl, Nat.le_of_ble_eq_true rfl⟩) hS (fun z257 u258 H locs p259 hw hS => ?_)
                                          obtain ⟨eu258, p259, hrdf⟩ := p259
                                          subst eu258
                                          refine x_if_eq (tgt := 378) hx hb (by omega) dX9_differs_371 (by decide) (fun c260 => ?_) (fun c260 => ?_)
                                          · refine lv_iconst (v := jI 0) hx hb dX9_differs_378 rfl ?_
                                            refine lv_istore (lv' := [(11, .int (jI 0)), (9, .long (jL (X21 75 0 ((5 * ((30 * sv) + r)) + k)))), (0, .ref (ad 40 0)), (1, .int (jI sv)), (2, .int (jI x)), (3, .int (jI nz)), (4, .int (jI r)), (5, .int (jI ((30 * sv) + r))), (6, .int (jI (120 + r))), (8, .int (jI k))]) hx hb dX9_differs_379 hl (by decide) rfl (fun ls hl => ?_)
                                            refine lv_iload hx hb dX9_differs_381 (lv_at hl 0 rfl) ?_
                                            refine x_if_eqT (tgt := 405) hx hb (by omega) (by decide) dX9_differs_383 (by decide) ?_
                                            refine lv_iinc (v := jI (k + 1)) (lv' := [(8, .int (jI (k + 1))), (11, .int (jI 0)), (9, .long (jL (X21 75 0 ((5 * ((30 * sv) + r)) + k)))), (0, .ref (ad 40 0)), (1, .int (jI sv)), (2, .int (jI x)), (3, .int (jI nz)), (4, .int (jI r)), (5, .int (jI ((30 * sv) + r))), (6, .int (jI (120 + r)))]) hx hb dX9_differs_405 hl (k := 9) rfl (jI_add _ _) (by decide) rfl (fun ls hl => ?_)
                                            refine lv_goto (tgt := 272) hx hb dX9_differs_408 (by decide) ?_
                                            exact ih272 (k + 1) _ _ _ (by omega) (by omega) (hsh) (fun f a b => if hf9 : f = k then (by rw [hf9]; exact (by (try delta Hid at *); first | exact ⟨by omega, fun a9 b9 => (by exfalso; omega)⟩ | exact ⟨by omega, fun a9 b9 => (by rcases hrdf with ⟨e9, h9⟩ | ⟨e9, h9⟩; exact h9; exfalso; omega)⟩)) else hvk f a (by omega)) hw hS (lv_sub hl [3, 4, 5, 6, 7, 8, 9, 0] rfl)
                                          · refine lv_iconst (v := jI 1) hx hb dX9_differs_374 rfl ?_
                                            refine lv_goto (tgt := 379) hx hb dX9_differs_375 (by decide) ?_
                                            refine lv_istore (lv' := [(11, .int (jI 1)), (9, .long (jL (X21 75 0 ((5 * ((30 * sv) + r)) + k)))), (0, .ref (ad 40 0)), (1, .int (jI sv)), (2, .int (jI x)), (3, .int (jI nz)), (4, .int (jI r)), (5, .int (jI ((30 * sv) + r))), (6, .int (jI (120 + r))), (8, .int (jI k))]) hx hb dX9_differs_379 hl (by decide) rfl (fun ls hl => ?_)
                                            refine lv_iload hx hb dX9_differs_381 (lv_at hl 0 rfl) ?_
                                            refine x_if_eqF (tgt := 405) hx hb (by omega) (by decide) dX9_differs_383 (by decide) ?_
                                            refine lv_bipush (v := jI 100) hx hb dX9_differs_386 (by decide) ?_
                                            refine lv_iload hx hb dX9_differs_388 (lv_at hl 6 rfl) ?_
                                            refine x_imul hx hb dX9_differs_390 ?_
                                            refine lv_aload_n hx hb dX9_differs_391 rfl (lv_at hl 2 rfl) ?_
                                            refine x_geto hx hb hf9 hw (by omega) (by omega) sl_40_32 lk90 dX9_differs_392 ?_
                                            refine lv_iconst (v := jI 5) hx hb dX9_differs_395 rfl ?_
                                            refine lv_iload hx hb dX9_differs_396 (lv_at hl 7 rfl) ?_
                                            refine x_imul hx hb dX9_differs_398 ?_
                                            refine lv_iload hx hb dX9_differs_399 (lv_at hl 9 rfl) ?_
                                            refine x_iadd hx hb dX9_differs_401 ?_
                                            refine x_iald hx hb hK.1 hw (by omega) (by omega) ar_73 (len_E ar_73 (by decide)) (by omega) (by omega) (by omega) dX9_differs_402 ?_
                                            have f261 : 0 ≤ X21 73 0 ((5 * ((30 * sv) + r)) + k) ∧ X21 73 0 ((5 * ((30 * sv) + r)) + k) ≤ 19 := hRX21 73 0 ((5 * ((30 * sv) + r)) + k)
                                            refine x_iadd hx hb dX9_differs_403 ?_
                                            refine ret_i (mc := 0) (ms := 0) hx hb hr hlocks hw hS (by omega) (by omega) dX9_differs_404 ?_
                                            have q262 : Frm [4001] X X1 := by rw [hX1]; exact Frm.set Frm.rf (show 4001 ∈ [4001] by decide)
                                            have hrd263 := rdr_eq (L := [4001]) q262 (by decide)
                                            have hsx264 := hsvX21
                                            rw [hrd263.1, hrd263.2.1, hrd263.2.2, Frm.arr q262 48 (by decide +kernel) (by decide), Frm.arr q262 55 (by decide +kernel) (by decide)] at hsx264
                                            exact ⟨X21, rfl, hRX21, hFX21, hMIX21, by omega, S4.tr (S4.frm q262 (by decide)) h4X21, S5.tr (S5.frm q262 (by decide)) h5X21, Or.inr ⟨(by (try delta Hid at *); omega), (by rcases hsx264 with ⟨-, q, -⟩ | ⟨-, -, q⟩; exact absurd q (by decide); exact q), Or.inr ⟨r, by omega, by omega, hall, Or.inr ⟨hsh, k, by omega, by omega, hvk, (fun q => by (try delta Hid at *); first | (have q1 := q.1; omega) | exact absurd (q.2 (by omega) (by omega)) (by assumption) | (rcases hrdf with ⟨e9, h9⟩ | ⟨e9, h9⟩; omega; exact h9 (q.2 (by omega) (by omega)))), by omega⟩⟩⟩⟩
                                    · refine lv_iconst (v := jI 1) hx hb dX9_differs_316 rfl ?_
                                      refine lv_goto (tgt := 321) hx hb dX9_differs_317 (by decide) ?_
                                      refine lv_istore (lv' := [(11, .int (jI 1)), (9, .long (jL (X21 75 0 ((5 * ((30 * sv) + r)) + k)))), (0, .ref (ad 40 0)), (1, .int (jI sv)), (2, .int (jI x)), (3, .int (jI nz)), (4, .int (jI r)), (5, .int (jI ((30 * sv) + r))), (6, .int (jI (120 + r))), (8, .int (jI k))]) hx hb dX9_differs_321 hl (by decide) rfl (fun ls hl => ?_)
                                      refine lv_iload hx hb dX9_differs_323 (lv_at hl 0 rfl) ?_
                                      refine x_if_neT (tgt := 374) hx hb (by omega) (by decide) dX9_differs_325 (by decide) ?_
                                      refine lv_iconst (v := jI 1) hx hb dX9_differs_374 rfl ?_
                                      refine lv_goto (tgt := 379) hx hb dX9_differs_375 (by decide) ?_
                                      refine lv_istore (lv' := [(11, .int (jI 1)), (9, .long (jL (X21 75 0 ((5 * ((30 * sv) + r)) + k)))), (0, .ref (ad 40 0)), (1, .int (jI sv)), (2, .int (jI x)), (3, .int (jI nz)), (4, .int (jI r)), (5, .int (jI ((30 * sv) + r))), (6, .int (jI (120 + r))), (8, .int (jI k))]) hx hb dX9_differs_379 hl (by decide) rfl (fun ls hl => ?_)
                                      refine lv_iload hx hb dX9_differs_381 (lv_at hl 0 rfl) ?_
                                      refine x_if_eqF (tgt := 405) hx hb (by omega) (by decide) dX9_differs_383 (by decide) ?_
                                      refine lv_bipush (v := jI 100) hx hb dX9_differs_386 (by decide) ?_
                                      refine lv_iload hx hb dX9_differs_388 (lv_at hl 6 rfl) ?_
                                      refine x_imul hx hb dX9_differs_390 ?_
                                      refine lv_aload_n hx hb dX9_differs_391 rfl (lv_at hl 2 rfl) ?_
                                      refine x_geto hx hb hf9 hw (by omega) (by omega) sl_40_32 lk90 dX9_differs_392 ?_
                                      refine lv_iconst (v := jI 5) hx hb dX9_differs_395 rfl ?_
                                      refine lv_iload hx hb dX9_differs_396 (lv_at hl 7 rfl) ?_
                                      refine x_imul hx hb dX9_differs_398 ?_
                                      refine lv_iload hx hb dX9_differs_399 (lv_at hl 9 rfl) ?_
                                      refine x_iadd hx hb dX9_differs_401 ?_
                                      refine x_iald hx hb hK.1 hw (by omega) (by omega) ar_73 (len_E ar_73 (by decide)) (by omega) (by omega) (by omega) dX9_differs_402 ?_
                                      have f265 : 0 ≤ X21 73 0 ((5 * ((30 * sv) + r)) + k) ∧ X21 73 0 ((5 * ((30 * sv) + r)) + k) ≤ 19 := hRX21 73 0 ((5 * ((30 * sv) + r)) + k)
                                      refine x_iadd hx hb dX9_differs_403 ?_
                                      refine ret_i (mc := 0) (ms := 0) hx hb hr hlocks hw hS (by omega) (by omega) dX9_differs_404 ?_
                                      have q266 : Frm [4001] X X1 := by rw [hX1]; exact Frm.set Frm.rf (show 4001 ∈ [4001] by decide)
                                      have hrd267 := rdr_eq (L := [4001]) q266 (by decide)
                                      have hsx268 := hsvX21
                                      rw [hrd267.1, hrd267.2.1, hrd267.2.2, Frm.arr q266 48 (by decide +kernel) (by decide), Frm.arr q266 55 (by decide +kernel) (by decide)] at hsx268
                                      exact ⟨X21, rfl, hRX21, hFX21, hMIX21, by omega, S4.tr (S4.frm q266 (by decide)) h4X21, S5.tr (S5.frm q266 (by decide)) h5X21, Or.inr ⟨(by (try delta Hid at *); omega), (by rcases hsx268 with ⟨-, q, -⟩ | ⟨-, -, q⟩; exact absurd q (by decide); exact q), Or.inr ⟨r, by omega, by omega, hall, Or.inr ⟨hsh, k, by omega, by omega, hvk, (fun q => by (try delta Hid at *); first | (have q1 := q.1; omega) | exact absurd (q.2 (by omega) (by omega)) (by assumption) | (rcases hrdf with ⟨e9, h9⟩ | ⟨e9, h9⟩; omega; exact h9 (q.2 (by omega) (by omega)))), by omega⟩⟩⟩⟩
                              exact lp272 (5 - 0 : Int).toNat.succ 0 _ _ _ (by omega) (by omega) ((by obtain ⟨q1, q2, q3⟩ := hsm1 (by omega); exact ⟨by omega, by omega, q1, q2, fun j a b => q3 j a (by omega)⟩)) (fun f a b => by omega) hw hS (lv_sub hl [1, 2, 3, 4, 5, 6, 7, 0] rfl)
                            · refine lv_bipush (v := jI 100) hx hb dX9_differs_260 (by decide) ?_
                              refine lv_iload hx hb dX9_differs_262 (lv_at hl 4 rfl) ?_
                              refine x_imul hx hb dX9_differs_264 ?_
                              refine lv_bipush (v := jI 99) hx hb dX9_differs_265 (by decide) ?_
                              refine x_iadd hx hb dX9_differs_267 ?_
                              refine ret_i (mc := 0) (ms := 0) hx hb hr hlocks hw hS (by omega) (by omega) dX9_differs_268 ?_
                              have q269 : Frm [4001] X X1 := by rw [hX1]; exact Frm.set Frm.rf (show 4001 ∈ [4001] by decide)
                              have hrd270 := rdr_eq (L := [4001]) q269 (by decide)
                              have hsx271 := hsvX21
                              rw [hrd270.1, hrd270.2.1, hrd270.2.2, Frm.arr q269 48 (by decide +kernel) (by decide), Frm.arr q269 55 (by decide +kernel) (by decide)] at hsx271
                              exact ⟨X21, rfl, hRX21, hFX21, hMIX21, by omega, S4.tr (S4.frm q269 (by decide)) h4X21, S5.tr (S5.frm q269 (by decide)) h5X21, Or.inr ⟨(by (try delta Hid at *); omega), (by rcases hsx271 with ⟨-, q, -⟩ | ⟨-, -, q⟩; exact absurd q (by decide); exact q), Or.inr ⟨r, by omega, by omega, hall, Or.inl ⟨hsm0 (by omega), by omega⟩⟩⟩⟩
                          · refine lv_iload hx hb dX9_differs_176 (lv_at hl 8 rfl) ?_
                            refine lv_aload_n hx hb dX9_differs_178 rfl (lv_at hl 0 rfl) ?_
                            refine x_geto hx hb hf9 hw (by omega) (by omega) sl_40_31 lk87 dX9_differs_179 ?_
                            refine lv_iload hx hb dX9_differs_182 (lv_at hl 5 rfl) ?_
                            refine x_iald hx hb hK.1 hw (by omega) (by omega) ar_72 (len_E ar_72 (by decide)) (by omega) (by omega) (by omega) dX9_differs_184 ?_
                            have f272 : 0 ≤ X21 72 0 ((30 * sv) + r) ∧ X21 72 0 ((30 * sv) + r) ≤ 5 := hRX21 72 0 ((30 * sv) + r)
                            refine x_icmp_ge (tgt := 255) hx hb (by omega) (by omega) dX9_differs_185 (by decide) (fun c273 => ?_) (fun c273 => ?_)
                            · refine lv_iload hx hb dX9_differs_255 (lv_at hl 7 rfl) ?_
                              refine x_if_ne (tgt := 269) hx hb (by omega) dX9_differs_257 (by decide) (fun c274 => ?_) (fun c274 => ?_)
                              · refine lv_iconst (v := jI 0) hx hb dX9_differs_269 rfl ?_
                                refine lv_istore (lv' := [(8, .int (jI 0)), (0, .ref (ad 40 0)), (1, .int (jI sv)), (2, .int (jI x)), (3, .int (jI nz)), (4, .int (jI r)), (5, .int (jI ((30 * sv) + r))), (6, .int (jI (120 + r))), (7, .int (jI sm))]) hx hb dX9_differs_270 hl (by decide) rfl (fun ls hl => ?_)
                                have lp272 : ∀ (nn : Nat) (k : Int) (H : Heap) (locs : List Loc) (ls : Array Slot), (5 - k) < (nn : Int) → (0 ≤ k ∧ k ≤ 5) → (shM X21 sv r) → (∀ f, 0 ≤ f → f < k → vqM X21 sv r f) → wd D tc base (ad, cnt, X21, Y, ln) H → va_S (frA base) s.heap H locs → lv_has ls 12 [(0, .ref (ad 40 0)), (1, .int (jI sv)), (2, .int (jI x)), (3, .int (jI nz)), (4, .int (jI r)), (5, .int (jI ((30 * sv) + r))), (6, .int (jI (120 + r))), (8, .int (jI k))] → W p l e ({ frames := 2, cells := 0, slots := 0, locals := 53 } : Room) s m ([.ref (ad 40 0), .int (jI sv), .int (jI x)] : List Value).toArray below meth c H locs 0 0 (MQ below (QI D tc base (fun z u => ∃ X1 : Nat → Int → Int → Int, u = (ad, cnt, X1, Y, ln) ∧ Rng X1 ∧ Frm [4001, 7100, 7200, 7300, 7400, 7500, 8000, 7000, 8100, 7700, 7800, 7900, 7600, 4042, 4043, 4044] X X1 ∧ MInv X1 ∧ (-2147483648 ≤ z ∧ z ≤ 2147483647) ∧ S4 X X1 ∧ S5 X X1 ∧ ((¬ ((0 ≤ sv ∧ sv < 4) ∧ X 70 0 sv ≠ 0 ∧ (0 ≤ x ∧ x < X 40 0 13)) ∧ z = -2) ∨ (((0 ≤ sv ∧ sv < 4) ∧ X 70 0 sv ≠ 0 ∧ (0 ≤ x ∧ x < X 40 0 13)) ∧ (rmT X1 (recR (fcM X) (lnM X) (mRid X) (mRid X) x 30) ∧ rmR X1 (recR (fcM X) (lnM X) (mRid X) (mRid X) x 30) ∧ rmV X1 (recR (fcM X) (lnM X) (mRid X) (mRid X) x 30) (recR (fcM X) (lnM X) (mRid X) (mRid X) x 30 0 0) 0) ∧ dfP (mxM X1 sv) (shM X1 sv) (fun r => X1 72 0 (30 * sv + r)) (vqM X1 sv) (fun r f => X1 73 0 (5 * (30 * sv + r) + f)) z)))) ([.ref (ad 40 0), .int (jI sv), .int (jI x)] : List Value).toArray s 0 0 (frA base)) (F0 m 272 ls []) := by
                                  intro nn
                                  induction nn with
                                  | zero => intro k H locs ls hm hk hsh hvk hw hS hl; exfalso; omega
                                  | succ nn ih272 =>
                                    intro k H locs ls hm hk hsh hvk hw hS hl
                                    refine lv_iload hx hb dX9_differs_272 (lv_at hl 7 rfl) ?_
                                    refine lv_aload_n hx hb dX9_differs_274 rfl (lv_at hl 0 rfl) ?_
                                    refine x_geto hx hb hf9 hw (by omega) (by omega) sl_40_31 lk87 dX9_differs_275 ?_
                                    refine lv_iload hx hb dX9_differs_278 (lv_at hl 5 rfl) ?_
                                    refine x_iald hx hb hK.1 hw (by omega) (by omega) ar_72 (len_E ar_72 (by decide)) (by omega) (by omega) (by omega) dX9_differs_280 ?_
                                    have f275 : 0 ≤ X21 72 0 ((30 * sv) + r) ∧ X21 72 0 ((30 * sv) + r) ≤ 5 := hRX21 72 0 ((30 * sv) + r)
                                    refine x_icmp_ge (tgt := 411) hx hb (by omega) (by omega) dX9_differs_281 (by decide) (fun c276 => ?_) (fun c276 => ?_)
                                    · refine lv_iinc (v := jI (r + 1)) (lv' := [(4, .int (jI (r + 1))), (0, .ref (ad 40 0)), (1, .int (jI sv)), (2, .int (jI x)), (3, .int (jI nz)), (5, .int (jI ((30 * sv) + r))), (6, .int (jI (120 + r))), (8, .int (jI k))]) hx hb dX9_differs_411 hl (k := 4) rfl (jI_add _ _) (by decide) rfl (fun ls hl => ?_)
                                      refine lv_goto (tgt := 74) hx hb dX9_differs_414 (by decide) ?_
                                      exact ih74 nz (r + 1) _ _ _ (by omega) (by omega) (by omega) (hnzv) (fun r' a b => if hr9 : r' = r then (by rw [hr9]; exact ⟨hsh, fun f f0 f1 => hvk f f0 (by omega)⟩) else hall r' a (by omega)) hw hS (lv_sub hl [1, 2, 3, 4, 0] rfl)
                                    · refine lv_aload_n hx hb dX9_differs_284 rfl (lv_at hl 0 rfl) ?_
                                      refine x_geto hx hb hf9 hw (by omega) (by omega) sl_40_34 lk96 dX9_differs_285 ?_
                                      refine lv_iconst (v := jI 5) hx hb dX9_differs_288 rfl ?_
                                      refine lv_iload hx hb dX9_differs_289 (lv_at hl 5 rfl) ?_
                                      refine x_imul hx hb dX9_differs_291 ?_
                                      refine lv_iload hx hb dX9_differs_292 (lv_at hl 7 rfl) ?_
                                      refine x_iadd hx hb dX9_differs_294 ?_
                                      obtain ⟨hv1, hv2, hv3⟩ := (hMIX21.2.2.1 sv r (by omega) (by omega) (by omega) (by omega)).2 k (by omega) (by omega)
                                      refine x_lald hx hb hK.1 hw (by omega) (by omega) ar_75 (len_E ar_75 (by decide)) (by omega) (by omega) (by omega) dX9_differs_295 ?_
                                      have f277 : (-9223372036854775808) ≤ X21 75 0 ((5 * ((30 * sv) + r)) + k) ∧ X21 75 0 ((5 * ((30 * sv) + r)) + k) ≤ 9223372036854775807 := hRX21 75 0 ((5 * ((30 * sv) + r)) + k)
                                      refine lv_lstore (lv' := [(9, .long (jL (X21 75 0 ((5 * ((30 * sv) + r)) + k)))), (0, .ref (ad 40 0)), (1, .int (jI sv)), (2, .int (jI x)), (3, .int (jI nz)), (4, .int (jI r)), (5, .int (jI ((30 * sv) + r))), (6, .int (jI (120 + r))), (8, .int (jI k))]) hx hb dX9_differs_296 hl (by decide) rfl (fun ls hl => ?_)
                                      refine lv_lload hx hb dX9_differs_298 (lv_at hl 0 rfl) ?_
                                      refine lv_aload_n hx hb dX9_differs_300 rfl (lv_at hl 1 rfl) ?_
                                      refine x_geto hx hb hf9 hw (by omega) (by omega) sl_40_34 lk96 dX9_differs_301 ?_
                                      refine lv_iconst (v := jI 5) hx hb dX9_differs_304 rfl ?_
                                      refine lv_iload hx hb dX9_differs_305 (lv_at hl 7 rfl) ?_
                                      refine x_imul hx hb dX9_differs_307 ?_
                                      refine lv_iload hx hb dX9_differs_308 (lv_at hl 8 rfl) ?_
                                      refine x_iadd hx hb dX9_differs_310 ?_
                                      refine x_lald hx hb hK.1 hw (by omega) (by omega) ar_75 (len_E ar_75 (by decide)) (by omega) (by omega) (by omega) dX9_differs_311 ?_
                                      have f278 : (-9223372036854775808) ≤ X21 75 0 ((5 * (120 + r)) + k) ∧ X21 75 0 ((5 * (120 + r)) + k) ≤ 9223372036854775807 := hRX21 75 0 ((5 * (120 + r)) + k)
                                      refine x_lcmp hx hb (by omega) (by omega) dX9_differs_312 ?_
                                      obtain ⟨z279, ez279⟩ : ∃ y : Int, y = cmpZ (X21 75 0 ((5 * ((30 * sv) + r)) + k)) (X21 75 0 ((5 * (120 + r)) + k)) := ⟨_, rfl⟩
                                      rw [← ez279]
                                      have gz279 : (z279 < 0 ↔ ((X21 75 0 ((5 * ((30 * sv) + r)) + k)) : Int) < (X21 75 0 ((5 * (120 + r)) + k))) ∧ (z279 = 0 ↔ ((X21 75 0 ((5 * ((30 * sv) + r)) + k)) : Int) = (X21 75 0 ((5 * (120 + r)) + k))) ∧ -1 ≤ z279 ∧ z279 ≤ 1 := by rw [ez279]; exact ⟨cmpZ_lt, cmpZ_eq, (cmpZ_r _ _).1, (cmpZ_r _ _).2⟩
                                      clear ez279
                                      refine x_if_eq (tgt := 320) hx hb (by omega) dX9_differs_313 (by decide) (fun c280 => ?_) (fun c280 => ?_)
                                      · refine lv_iconst (v := jI 0) hx hb dX9_differs_320 rfl ?_
                                        refine lv_istore (lv' := [(11, .int (jI 0)), (9, .long (jL (X21 75 0 ((5 * ((30 * sv) + r)) + k)))), (0, .ref (ad 40 0)), (1, .int (jI sv)), (2, .int (jI x)), (3, .int (jI nz)), (4, .int (jI r)), (5, .int (jI ((30 * sv) + r))), (6, .int (jI (120 + r))), (8, .int (jI k))]) hx hb dX9_differs_321 hl (by decide) rfl (fun ls hl => ?_)
                                        refine lv_iload hx hb dX9_differs_323 (lv_at hl 0 rfl) ?_
                                        refine x_if_neF (tgt := 374) hx hb (by omega) (by decide) dX9_differs_325 (by decide) ?_
                                        refine lv_aload_n hx hb dX9_differs_328 rfl (lv_at hl 2 rfl) ?_
                                        refine x_geto hx hb hf9 hw (by omega) (by omega) sl_40_33 lk93 dX9_differs_329 ?_
                                        refine lv_iconst (v := jI 5) hx hb dX9_differs_332 rfl ?_
                                        refine lv_iload hx hb dX9_differs_333 (lv_at hl 7 rfl) ?_
                                        refine x_imul hx hb dX9_differs_335 ?_
                                        refine lv_iload hx hb dX9_differs_336 (lv_at hl 9 rfl) ?_
                                        refine x_iadd hx hb dX9_differs_338 ?_
                                        refine x_iald hx hb hK.1 hw (by omega) (by omega) ar_74 (len_E ar_74 (by decide)) (by omega) (by omega) (by omega) dX9_differs_339 ?_
                                        have f281 : 0 ≤ X21 74 0 ((5 * ((30 * sv) + r)) + k) ∧ X21 74 0 ((5 * ((30 * sv) + r)) + k) ≤ 5 := hRX21 74 0 ((5 * ((30 * sv) + r)) + k)
                                        refine lv_iconst (v := jI 2) hx hb dX9_differs_340 rfl ?_
                                        refine x_icmp_le (tgt := 378) hx hb (by omega) (by omega) dX9_differs_341 (by decide) (fun c282 => ?_) (fun c282 => ?_)
                                        · refine lv_iconst (v := jI 0) hx hb dX9_differs_378 rfl ?_
                                          refine lv_istore (lv' := [(11, .int (jI 0)), (9, .long (jL (X21 75 0 ((5 * ((30 * sv) + r)) + k)))), (0, .ref (ad 40 0)), (1, .int (jI sv)), (2, .int (jI x)), (3, .int (jI nz)), (4, .int (jI r)), (5, .int (jI ((30 * sv) + r))), (6, .int (jI (120 + r))), (8, .int (jI k))]) hx hb dX9_differs_379 hl (by decide) rfl (fun ls hl => ?_)
                                          refine lv_iload hx hb dX9_differs_381 (lv_at hl 0 rfl) ?_
                                          refine x_if_eqT (tgt := 405) hx hb (by omega) (by decide) dX9_differs_383 (by decide) ?_
                                          refine lv_iinc (v := jI (k + 1)) (lv' := [(8, .int (jI (k + 1))), (11, .int (jI 0)), (9, .long (jL (X21 75 0 ((5 * ((30 * sv) + r)) + k)))), (0, .ref (ad 40 0)), (1, .int (jI sv)), (2, .int (jI x)), (3, .int (jI nz)), (4, .int (jI r)), (5, .int (jI ((30 * sv) + r))), (6, .int (jI (120 + r)))]) hx hb dX9_differs_405 hl (k := 9) rfl (jI_add _ _) (by decide) rfl (fun ls hl => ?_)
                                          refine lv_goto (tgt := 272) hx hb dX9_differs_408 (by decide) ?_
                                          exact ih272 (k + 1) _ _ _ (by omega) (by omega) (hsh) (fun f a b => if hf9 : f = k then (by rw [hf9]; exact (by (try delta Hid at *); first | exact ⟨by omega, fun a9 b9 => (by exfalso; omega)⟩ | exact ⟨by omega, fun a9 b9 => (by rcases hrdf with ⟨e9, h9⟩ | ⟨e9, h9⟩; exact h9; exfalso; omega)⟩)) else hvk f a (by omega)) hw hS (lv_sub hl [3, 4, 5, 6, 7, 8, 9, 0] rfl)
                                        · refine lv_lload hx hb dX9_differs_344 (lv_at hl 1 rfl) ?_
                                          refine lv_lconst (v := jL 0) hx hb dX9_differs_346 (by decide) ?_
                                          refine x_lcmp hx hb (by omega) (by omega) dX9_differs_347 ?_
                                          obtain ⟨z283, ez283⟩ : ∃ y : Int, y = cmpZ (X21 75 0 ((5 * ((30 * sv) + r)) + k)) 0 := ⟨_, rfl⟩
                                          rw [← ez283]
                                          have gz283 : (z283 < 0 ↔ ((X21 75 0 ((5 * ((30 * sv) + r)) + k)) : Int) < 0) ∧ (z283 = 0 ↔ ((X21 75 0 ((5 * ((30 * sv) + r)) + k)) : Int) = 0) ∧ -1 ≤ z283 ∧ z283 ≤ 1 := by rw [ez283]; exact ⟨cmpZ_lt, cmpZ_eq, (cmpZ_r _ _).1, (cmpZ_r _ _).2⟩
                                          clear ez283
                                          refine x_if_lt (tgt := 378) hx hb (by omega) dX9_differs_348 (by decide) (fun c284 => ?_) (fun c284 => ?_)
                                          · refine lv_iconst (v := jI 0) hx hb dX9_differs_378 rfl ?_
                                            refine lv_istore (lv' := [(11, .int (jI 0)), (9, .long (jL (X21 75 0 ((5 * ((30 * sv) + r)) + k)))), (0, .ref (ad 40 0)), (1, .int (jI sv)), (2, .int (jI x)), (3, .int (jI nz)), (4, .int (jI r)), (5, .int (jI ((30 * sv) + r))), (6, .int (jI (120 + r))), (8, .int (jI k))]) hx hb dX9_differs_379 hl (by decide) rfl (fun ls hl => ?_)
                                            refine lv_iload hx hb dX9_differs_381 (lv_at hl 0 rfl) ?_
                                            refine x_if_eqT (tgt := 405) hx hb (by omega) (by decide) dX9_differs_383 (by decide) ?_
                                            refine lv_iinc (v := jI (k + 1)) (lv' := [(8, .int (jI (k + 1))), (11, .int (jI 0)), (9, .long (jL (X21 75 0 ((5 * ((30 * sv) + r)) + k)))), (0, .ref (ad 40 0)), (1, .int (jI sv)), (2, .int (jI x)), (3, .int (jI nz)), (4, .int (jI r)), (5, .int (jI ((30 * sv) + r))), (6, .int (jI (120 + r)))]) hx hb dX9_differs_405 hl (k := 9) rfl (jI_add _ _) (by decide) rfl (fun ls hl => ?_)
                                            refine lv_goto (tgt := 272) hx hb dX9_differs_408 (by decide) ?_
                                            exact ih272 (k + 1) _ _ _ (by omega) (by omega) (hsh) (fun f a b => if hf9 : f = k then (by rw [hf9]; exact (by (try delta Hid at *); first | exact ⟨by omega, fun a9 b9 => (by exfalso; omega)⟩ | exact ⟨by omega, fun a9 b9 => (by rcases hrdf with ⟨e9, h9⟩ | ⟨e9, h9⟩; exact h9; exfalso; omega)⟩)) else hvk f a (by omega)) hw hS (lv_sub hl [3, 4, 5, 6, 7, 8, 9, 0] rfl)
                                          · refine lv_aload_n hx hb dX9_differs_351 rfl (lv_at hl 2 rfl) ?_
                                            refine lv_sipush (v := jI 150) hx hb dX9_differs_352 (by decide) ?_
                                            refine lv_iload_n hx hb dX9_differs_355 rfl (lv_at hl 3 rfl) ?_
                                            refine x_imul hx hb dX9_differs_356 ?_
                                            refine lv_lload hx hb dX9_differs_357 (lv_at hl 1 rfl) ?_
                                            refine x_l2i hx hb dX9_differs_359 ?_
                                            refine x_iadd hx hb dX9_differs_360 ?_
                                            refine lv_sipush (v := jI 600) hx hb dX9_differs_361 (by decide) ?_
                                            refine lv_lload hx hb dX9_differs_364 (lv_at hl 1 rfl) ?_
                                            refine x_l2i hx hb dX9_differs_366 ?_
                                            refine x_iadd hx hb dX9_differs_367 ?_
                                            refine gos_i (run_V (As := [.int (jI ((150 * sv) + (X21 75 0 ((5 * ((30 * sv) + r)) + k)))), .int (jI (600 + (X21 75 0 ((5 * ((30 * sv) + r)) + k))))]) (rest := []) hx hb hml hown hts (c_X9_rowsDiffer l D tc base ad cnt X21 Y ln hRX21 hFx hMIX21 ((150 * sv) + (X21 75 0 ((5 * ((30 * sv) + r)) + k))) (600 + (X21 75 0 ((5 * ((30 * sv) + r)) + k))) (by omega) (by omega)) (cwV 2 hts gX9_differs_X9_rowsDiffer rfl rfl rfl (by decide +kernel) ⟨Nat.le_of_ble_eq_true rfl, Nat.le_of_ble_eq_true rfl⟩) hK hw (by omega) (by omega) sl_40_0 rfl rfl hl.1 rfl (Nat.le_of_ble_eq_true rfl) dX9_differs_368 ⟨Nat.le_of_ble_eq_true rfl, Nat.le_of_ble_eq_true rfl⟩) hS (fun z285 u286 H locs p287 hw hS => ?_)
                                            obtain ⟨eu286, p287, hrdf⟩ := p287
                                            subst eu286
                                            refine x_if_eq (tgt := 378) hx hb (by omega) dX9_differs_371 (by decide) (fun c288 => ?_) (fun c288 => ?_)
                                            · refine lv_iconst (v := jI 0) hx hb dX9_differs_378 rfl ?_
                                              refine lv_istore (lv' := [(11, .int (jI 0)), (9, .long (jL (X21 75 0 ((5 * ((30 * sv) + r)) + k)))), (0, .ref (ad 40 0)), (1, .int (jI sv)), (2, .int (jI x)), (3, .int (jI nz)), (4, .int (jI r)), (5, .int (jI ((30 * sv) + r))), (6, .int (jI (120 + r))), (8, .int (jI k))]) hx hb dX9_differs_379 hl (by decide) rfl (fun ls hl => ?_)
                                              refine lv_iload hx hb dX9_differs_381 (lv_at hl 0 rfl) ?_
                                              refine x_if_eqT (tgt := 405) hx hb (by omega) (by decide) dX9_differs_383 (by decide) ?_
                                              refine lv_iinc (v := jI (k + 1)) (lv' := [(8, .int (jI (k + 1))), (11, .int (jI 0)), (9, .long (jL (X21 75 0 ((5 * ((30 * sv) + r)) + k)))), (0, .ref (ad 40 0)), (1, .int (jI sv)), (2, .int (jI x)), (3, .int (jI nz)), (4, .int (jI r)), (5, .int (jI ((30 * sv) + r))), (6, .int (jI (120 + r)))]) hx hb dX9_differs_405 hl (k := 9) rfl (jI_add _ _) (by decide) rfl (fun ls hl => ?_)
                                              refine lv_goto (tgt := 272) hx hb dX9_differs_408 (by decide) ?_
                                              exact ih272 (k + 1) _ _ _ (by omega) (by omega) (hsh) (fun f a b => if hf9 : f = k then (by rw [hf9]; exact (by (try delta Hid at *); first | exact ⟨by omega, fun a9 b9 => (by exfalso; omega)⟩ | exact ⟨by omega, fun a9 b9 => (by rcases hrdf with ⟨e9, h9⟩ | ⟨e9, h9⟩; exact h9; exfalso; omega)⟩)) else hvk f a (by omega)) hw hS (lv_sub hl [3, 4, 5, 6, 7, 8, 9, 0] rfl)
                                            · refine lv_iconst (v := jI 1) hx hb dX9_differs_374 rfl ?_
                                              refine lv_goto (tgt := 379) hx hb dX9_differs_375 (by decide) ?_
                                              refine lv_istore (lv' := [(11, .int (jI 1)), (9, .long (jL (X21 75 0 ((5 * ((30 * sv) + r)) + k)))), (0, .ref (ad 40 0)), (1, .int (jI sv)), (2, .int (jI x)), (3, .int (jI nz)), (4, .int (jI r)), (5, .int (jI ((30 * sv) + r))), (6, .int (jI (120 + r))), (8, .int (jI k))]) hx hb dX9_differs_379 hl (by decide) rfl (fun ls hl => ?_)
                                              refine lv_iload hx hb dX9_differs_381 (lv_at hl 0 rfl) ?_
                                              refine x_if_eqF (tgt := 405) hx hb (by omega) (by decide) dX9_differs_383 (by decide) ?_
                                              refine lv_bipush (v := jI 100) hx hb dX9_differs_386 (by decide) ?_
                                              refine lv_iload hx hb dX9_differs_388 (lv_at hl 6 rfl) ?_
                                              refine x_imul hx hb dX9_differs_390 ?_
                                              refine lv_aload_n hx hb dX9_differs_391 rfl (lv_at hl 2 rfl) ?_
                                              refine x_geto hx hb hf9 hw (by omega) (by omega) sl_40_32 lk90 dX9_differs_392 ?_
                                              refine lv_iconst (v := jI 5) hx hb dX9_differs_395 rfl ?_
                                              refine lv_iload hx hb dX9_differs_396 (lv_at hl 7 rfl) ?_
                                              refine x_imul hx hb dX9_differs_398 ?_
                                              refine lv_iload hx hb dX9_differs_399 (lv_at hl 9 rfl) ?_
                                              refine x_iadd hx hb dX9_differs_401 ?_
                                              refine x_iald hx hb hK.1 hw (by omega) (by omega) ar_73 (len_E ar_73 (by decide)) (by omega) (by omega) (by omega) dX9_differs_402 ?_
                                              have f289 : 0 ≤ X21 73 0 ((5 * ((30 * sv) + r)) + k) ∧ X21 73 0 ((5 * ((30 * sv) + r)) + k) ≤ 19 := hRX21 73 0 ((5 * ((30 * sv) + r)) + k)
                                              refine x_iadd hx hb dX9_differs_403 ?_
                                              refine ret_i (mc := 0) (ms := 0) hx hb hr hlocks hw hS (by omega) (by omega) dX9_differs_404 ?_
                                              have q290 : Frm [4001] X X1 := by rw [hX1]; exact Frm.set Frm.rf (show 4001 ∈ [4001] by decide)
                                              have hrd291 := rdr_eq (L := [4001]) q290 (by decide)
                                              have hsx292 := hsvX21
                                              rw [hrd291.1, hrd291.2.1, hrd291.2.2, Frm.arr q290 48 (by decide +kernel) (by decide), Frm.arr q290 55 (by decide +kernel) (by decide)] at hsx292
                                              exact ⟨X21, rfl, hRX21, hFX21, hMIX21, by omega, S4.tr (S4.frm q290 (by decide)) h4X21, S5.tr (S5.frm q290 (by decide)) h5X21, Or.inr ⟨(by (try delta Hid at *); omega), (by rcases hsx292 with ⟨-, q, -⟩ | ⟨-, -, q⟩; exact absurd q (by decide); exact q), Or.inr ⟨r, by omega, by omega, hall, Or.inr ⟨hsh, k, by omega, by omega, hvk, (fun q => by (try delta Hid at *); first | (have q1 := q.1; omega) | exact absurd (q.2 (by omega) (by omega)) (by assumption) | (rcases hrdf with ⟨e9, h9⟩ | ⟨e9, h9⟩; omega; exact h9 (q.2 (by omega) (by omega)))), by omega⟩⟩⟩⟩
                                      · refine lv_iconst (v := jI 1) hx hb dX9_differs_316 rfl ?_
                                        refine lv_goto (tgt := 321) hx hb dX9_differs_317 (by decide) ?_
                                        refine lv_istore (lv' := [(11, .int (jI 1)), (9, .long (jL (X21 75 0 ((5 * ((30 * sv) + r)) + k)))), (0, .ref (ad 40 0)), (1, .int (jI sv)), (2, .int (jI x)), (3, .int (jI nz)), (4, .int (jI r)), (5, .int (jI ((30 * sv) + r))), (6, .int (jI (120 + r))), (8, .int (jI k))]) hx hb dX9_differs_321 hl (by decide) rfl (fun ls hl => ?_)
                                        refine lv_iload hx hb dX9_differs_323 (lv_at hl 0 rfl) ?_
                                        refine x_if_neT (tgt := 374) hx hb (by omega) (by decide) dX9_differs_325 (by decide) ?_
                                        refine lv_iconst (v := jI 1) hx hb dX9_differs_374 rfl ?_
                                        refine lv_goto (tgt := 379) hx hb dX9_differs_375 (by decide) ?_
                                        refine lv_istore (lv' := [(11, .int (jI 1)), (9, .long (jL (X21 75 0 ((5 * ((30 * sv) + r)) + k)))), (0, .ref (ad 40 0)), (1, .int (jI sv)), (2, .int (jI x)), (3, .int (jI nz)), (4, .int (jI r)), (5, .int (jI ((30 * sv) + r))), (6, .int (jI (120 + r))), (8, .int (jI k))]) hx hb dX9_differs_379 hl (by decide) rfl (fun ls hl => ?_)
                                        refine lv_iload hx hb dX9_differs_381 (lv_at hl 0 rfl) ?_
                                        refine x_if_eqF (tgt := 405) hx hb (by omega) (by decide) dX9_differs_383 (by decide) ?_
                                        refine lv_bipush (v := jI 100) hx hb dX9_differs_386 (by decide) ?_
                                        refine lv_iload hx hb dX9_differs_388 (lv_at hl 6 rfl) ?_
                                        refine x_imul hx hb dX9_differs_390 ?_
                                        refine lv_aload_n hx hb dX9_differs_391 rfl (lv_at hl 2 rfl) ?_
                                        refine x_geto hx hb hf9 hw (by omega) (by omega) sl_40_32 lk90 dX9_differs_392 ?_
                                        refine lv_iconst (v := jI 5) hx hb dX9_differs_395 rfl ?_
                                        refine lv_iload hx hb dX9_differs_396 (lv_at hl 7 rfl) ?_
                                        refine x_imul hx hb dX9_differs_398 ?_
                                        refine lv_iload hx hb dX9_differs_399 (lv_at hl 9 rfl) ?_
                                        refine x_iadd hx hb dX9_differs_401 ?_
                                        refine x_iald hx hb hK.1 hw (by omega) (by omega) ar_73 (len_E ar_73 (by decide)) (by omega) (by omega) (by omega) dX9_differs_402 ?_
                                        have f293 : 0 ≤ X21 73 0 ((5 * ((30 * sv) + r)) + k) ∧ X21 73 0 ((5 * ((30 * sv) + r)) + k) ≤ 19 := hRX21 73 0 ((5 * ((30 * sv) + r)) + k)
                                        refine x_iadd hx hb dX9_differs_403 ?_
                                        refine ret_i (mc := 0) (ms := 0) hx hb hr hlocks hw hS (by omega) (by omega) dX9_differs_404 ?_
                                        have q294 : Frm [4001] X X1 := by rw [hX1]; exact Frm.set Frm.rf (show 4001 ∈ [4001] by decide)
                                        have hrd295 := rdr_eq (L := [4001]) q294 (by decide)
                                        have hsx296 := hsvX21
                                        rw [hrd295.1, hrd295.2.1, hrd295.2.2, Frm.arr q294 48 (by decide +kernel) (by decide), Frm.arr q294 55 (by decide +kernel) (by decide)] at hsx296
                                        exact ⟨X21, rfl, hRX21, hFX21, hMIX21, by omega, S4.tr (S4.frm q294 (by decide)) h4X21, S5.tr (S5.frm q294 (by decide)) h5X21, Or.inr ⟨(by (try delta Hid at *); omega), (by rcases hsx296 with ⟨-, q, -⟩ | ⟨-, -, q⟩; exact absurd q (by decide); exact q), Or.inr ⟨r, by omega, by omega, hall, Or.inr ⟨hsh, k, by omega, by omega, hvk, (fun q => by (try delta Hid at *); first | (have q1 := q.1; omega) | exact absurd (q.2 (by omega) (by omega)) (by assumption) | (rcases hrdf with ⟨e9, h9⟩ | ⟨e9, h9⟩; omega; exact h9 (q.2 (by omega) (by omega)))), by omega⟩⟩⟩⟩
                                exact lp272 (5 - 0 : Int).toNat.succ 0 _ _ _ (by omega) (by omega) ((by obtain ⟨q1, q2, q3⟩ := hsm1 (by omega); exact ⟨by omega, by omega, q1, q2, fun j a b => q3 j a (by omega)⟩)) (fun f a b => by omega) hw hS (lv_sub hl [1, 2, 3, 4, 5, 6, 7, 0] rfl)
                              · refine lv_bipush (v := jI 100) hx hb dX9_differs_260 (by decide) ?_
                                refine lv_iload hx hb dX9_differs_262 (lv_at hl 4 rfl) ?_
                                refine x_imul hx hb dX9_differs_264 ?_
                                refine lv_bipush (v := jI 99) hx hb dX9_differs_265 (by decide) ?_
                                refine x_iadd hx hb dX9_differs_267 ?_
                                refine ret_i (mc := 0) (ms := 0) hx hb hr hlocks hw hS (by omega) (by omega) dX9_differs_268 ?_
                                have q297 : Frm [4001] X X1 := by rw [hX1]; exact Frm.set Frm.rf (show 4001 ∈ [4001] by decide)
                                have hrd298 := rdr_eq (L := [4001]) q297 (by decide)
                                have hsx299 := hsvX21
                                rw [hrd298.1, hrd298.2.1, hrd298.2.2, Frm.arr q297 48 (by decide +kernel) (by decide), Frm.arr q297 55 (by decide +kernel) (by decide)] at hsx299
                                exact ⟨X21, rfl, hRX21, hFX21, hMIX21, by omega, S4.tr (S4.frm q297 (by decide)) h4X21, S5.tr (S5.frm q297 (by decide)) h5X21, Or.inr ⟨(by (try delta Hid at *); omega), (by rcases hsx299 with ⟨-, q, -⟩ | ⟨-, -, q⟩; exact absurd q (by decide); exact q), Or.inr ⟨r, by omega, by omega, hall, Or.inl ⟨hsm0 (by omega), by omega⟩⟩⟩⟩
                            · refine lv_aload_n hx hb dX9_differs_188 rfl (lv_at hl 0 rfl) ?_
                              refine x_geto hx hb hf9 hw (by omega) (by omega) sl_40_32 lk90 dX9_differs_189 ?_
                              refine lv_iconst (v := jI 5) hx hb dX9_differs_192 rfl ?_
                              refine lv_iload hx hb dX9_differs_193 (lv_at hl 5 rfl) ?_
                              refine x_imul hx hb dX9_differs_195 ?_
                              refine lv_iload hx hb dX9_differs_196 (lv_at hl 8 rfl) ?_
                              refine x_iadd hx hb dX9_differs_198 ?_
                              refine x_iald hx hb hK.1 hw (by omega) (by omega) ar_73 (len_E ar_73 (by decide)) (by omega) (by omega) (by omega) dX9_differs_199 ?_
                              have f300 : 0 ≤ X21 73 0 ((5 * ((30 * sv) + r)) + k) ∧ X21 73 0 ((5 * ((30 * sv) + r)) + k) ≤ 19 := hRX21 73 0 ((5 * ((30 * sv) + r)) + k)
                              refine lv_aload_n hx hb dX9_differs_200 rfl (lv_at hl 0 rfl) ?_
                              refine x_geto hx hb hf9 hw (by omega) (by omega) sl_40_32 lk90 dX9_differs_201 ?_
                              refine lv_iconst (v := jI 5) hx hb dX9_differs_204 rfl ?_
                              refine lv_iload hx hb dX9_differs_205 (lv_at hl 6 rfl) ?_
                              refine x_imul hx hb dX9_differs_207 ?_
                              refine lv_iload hx hb dX9_differs_208 (lv_at hl 8 rfl) ?_
                              refine x_iadd hx hb dX9_differs_210 ?_
                              refine x_iald hx hb hK.1 hw (by omega) (by omega) ar_73 (len_E ar_73 (by decide)) (by omega) (by omega) (by omega) dX9_differs_211 ?_
                              have f301 : 0 ≤ X21 73 0 ((5 * (120 + r)) + k) ∧ X21 73 0 ((5 * (120 + r)) + k) ≤ 19 := hRX21 73 0 ((5 * (120 + r)) + k)
                              refine x_icmp_ne (tgt := 246) hx hb (by omega) (by omega) dX9_differs_212 (by decide) (fun c302 => ?_) (fun c302 => ?_)
                              · refine lv_iconst (v := jI 0) hx hb dX9_differs_246 rfl ?_
                                refine lv_istore (lv' := [(7, .int (jI 0)), (0, .ref (ad 40 0)), (1, .int (jI sv)), (2, .int (jI x)), (3, .int (jI nz)), (4, .int (jI r)), (5, .int (jI ((30 * sv) + r))), (6, .int (jI (120 + r))), (8, .int (jI k))]) hx hb dX9_differs_247 hl (by decide) rfl (fun ls hl => ?_)
                                refine lv_iinc (v := jI (k + 1)) (lv' := [(8, .int (jI (k + 1))), (7, .int (jI 0)), (0, .ref (ad 40 0)), (1, .int (jI sv)), (2, .int (jI x)), (3, .int (jI nz)), (4, .int (jI r)), (5, .int (jI ((30 * sv) + r))), (6, .int (jI (120 + r)))]) hx hb dX9_differs_249 hl (k := 8) rfl (jI_add _ _) (by decide) rfl (fun ls hl => ?_)
                                refine lv_goto (tgt := 171) hx hb dX9_differs_252 (by decide) ?_
                                exact ih171 0 (k + 1) _ _ _ (by omega) (by omega) (by omega) (fun q => (by obtain ⟨q1, q2, q3⟩ := hsm1 (by omega); exact ⟨q1, q2, fun j a b => if hj : j = k then (by rw [hj]; exact ⟨by omega, by omega⟩) else q3 j a (by omega)⟩)) (fun q e => (by have h9 := e.2.2.2.2 k (by omega) (by omega); omega)) hw hS (lv_sub hl [2, 3, 4, 5, 6, 7, 8, 1, 0] rfl)
                              · refine lv_aload_n hx hb dX9_differs_215 rfl (lv_at hl 0 rfl) ?_
                                refine x_geto hx hb hf9 hw (by omega) (by omega) sl_40_33 lk93 dX9_differs_216 ?_
                                refine lv_iconst (v := jI 5) hx hb dX9_differs_219 rfl ?_
                                refine lv_iload hx hb dX9_differs_220 (lv_at hl 5 rfl) ?_
                                refine x_imul hx hb dX9_differs_222 ?_
                                refine lv_iload hx hb dX9_differs_223 (lv_at hl 8 rfl) ?_
                                refine x_iadd hx hb dX9_differs_225 ?_
                                refine x_iald hx hb hK.1 hw (by omega) (by omega) ar_74 (len_E ar_74 (by decide)) (by omega) (by omega) (by omega) dX9_differs_226 ?_
                                have f303 : 0 ≤ X21 74 0 ((5 * ((30 * sv) + r)) + k) ∧ X21 74 0 ((5 * ((30 * sv) + r)) + k) ≤ 5 := hRX21 74 0 ((5 * ((30 * sv) + r)) + k)
                                refine lv_aload_n hx hb dX9_differs_227 rfl (lv_at hl 0 rfl) ?_
                                refine x_geto hx hb hf9 hw (by omega) (by omega) sl_40_33 lk93 dX9_differs_228 ?_
                                refine lv_iconst (v := jI 5) hx hb dX9_differs_231 rfl ?_
                                refine lv_iload hx hb dX9_differs_232 (lv_at hl 6 rfl) ?_
                                refine x_imul hx hb dX9_differs_234 ?_
                                refine lv_iload hx hb dX9_differs_235 (lv_at hl 8 rfl) ?_
                                refine x_iadd hx hb dX9_differs_237 ?_
                                refine x_iald hx hb hK.1 hw (by omega) (by omega) ar_74 (len_E ar_74 (by decide)) (by omega) (by omega) (by omega) dX9_differs_238 ?_
                                have f304 : 0 ≤ X21 74 0 ((5 * (120 + r)) + k) ∧ X21 74 0 ((5 * (120 + r)) + k) ≤ 5 := hRX21 74 0 ((5 * (120 + r)) + k)
                                refine x_icmp_ne (tgt := 246) hx hb (by omega) (by omega) dX9_differs_239 (by decide) (fun c305 => ?_) (fun c305 => ?_)
                                · refine lv_iconst (v := jI 0) hx hb dX9_differs_246 rfl ?_
                                  refine lv_istore (lv' := [(7, .int (jI 0)), (0, .ref (ad 40 0)), (1, .int (jI sv)), (2, .int (jI x)), (3, .int (jI nz)), (4, .int (jI r)), (5, .int (jI ((30 * sv) + r))), (6, .int (jI (120 + r))), (8, .int (jI k))]) hx hb dX9_differs_247 hl (by decide) rfl (fun ls hl => ?_)
                                  refine lv_iinc (v := jI (k + 1)) (lv' := [(8, .int (jI (k + 1))), (7, .int (jI 0)), (0, .ref (ad 40 0)), (1, .int (jI sv)), (2, .int (jI x)), (3, .int (jI nz)), (4, .int (jI r)), (5, .int (jI ((30 * sv) + r))), (6, .int (jI (120 + r)))]) hx hb dX9_differs_249 hl (k := 8) rfl (jI_add _ _) (by decide) rfl (fun ls hl => ?_)
                                  refine lv_goto (tgt := 171) hx hb dX9_differs_252 (by decide) ?_
                                  exact ih171 0 (k + 1) _ _ _ (by omega) (by omega) (by omega) (fun q => (by obtain ⟨q1, q2, q3⟩ := hsm1 (by omega); exact ⟨q1, q2, fun j a b => if hj : j = k then (by rw [hj]; exact ⟨by omega, by omega⟩) else q3 j a (by omega)⟩)) (fun q e => (by have h9 := e.2.2.2.2 k (by omega) (by omega); omega)) hw hS (lv_sub hl [2, 3, 4, 5, 6, 7, 8, 1, 0] rfl)
                                · refine lv_iconst (v := jI 1) hx hb dX9_differs_242 rfl ?_
                                  refine lv_goto (tgt := 247) hx hb dX9_differs_243 (by decide) ?_
                                  refine lv_istore (lv' := [(7, .int (jI 1)), (0, .ref (ad 40 0)), (1, .int (jI sv)), (2, .int (jI x)), (3, .int (jI nz)), (4, .int (jI r)), (5, .int (jI ((30 * sv) + r))), (6, .int (jI (120 + r))), (8, .int (jI k))]) hx hb dX9_differs_247 hl (by decide) rfl (fun ls hl => ?_)
                                  refine lv_iinc (v := jI (k + 1)) (lv' := [(8, .int (jI (k + 1))), (7, .int (jI 1)), (0, .ref (ad 40 0)), (1, .int (jI sv)), (2, .int (jI x)), (3, .int (jI nz)), (4, .int (jI r)), (5, .int (jI ((30 * sv) + r))), (6, .int (jI (120 + r)))]) hx hb dX9_differs_249 hl (k := 8) rfl (jI_add _ _) (by decide) rfl (fun ls hl => ?_)
                                  refine lv_goto (tgt := 171) hx hb dX9_differs_252 (by decide) ?_
                                  exact ih171 1 (k + 1) _ _ _ (by omega) (by omega) (by omega) (fun q => (by obtain ⟨q1, q2, q3⟩ := hsm1 (by omega); exact ⟨q1, q2, fun j a b => if hj : j = k then (by rw [hj]; exact ⟨by omega, by omega⟩) else q3 j a (by omega)⟩)) (fun q e => (by have h9 := e.2.2.2.2 k (by omega) (by omega); omega)) hw hS (lv_sub hl [2, 3, 4, 5, 6, 7, 8, 1, 0] rfl)
                      exact lp171 (5 - 0 : Int).toNat.succ 0 0 _ _ _ (by omega) (by omega) (by omega) (fun q => ⟨by omega, by omega, fun j a b => by omega⟩) (fun q e => by obtain ⟨q1, q2, q3, q4, -⟩ := e; omega) hw hS (lv_sub hl [4, 5, 6, 7, 8, 3, 2, 1, 0] rfl)
                    · refine lv_aload_n hx hb dX9_differs_144 rfl (lv_at hl 2 rfl) ?_
                      refine x_geto hx hb hf9 hw (by omega) (by omega) sl_40_31 lk87 dX9_differs_145 ?_
                      refine lv_iload hx hb dX9_differs_148 (lv_at hl 1 rfl) ?_
                      refine x_iald hx hb hK.1 hw (by omega) (by omega) ar_72 (len_E ar_72 (by decide)) (by omega) (by omega) (by omega) dX9_differs_150 ?_
                      have f306 : 0 ≤ X21 72 0 ((30 * sv) + r) ∧ X21 72 0 ((30 * sv) + r) ≤ 5 := hRX21 72 0 ((30 * sv) + r)
                      refine lv_aload_n hx hb dX9_differs_151 rfl (lv_at hl 2 rfl) ?_
                      refine x_geto hx hb hf9 hw (by omega) (by omega) sl_40_31 lk87 dX9_differs_152 ?_
                      refine lv_iload hx hb dX9_differs_155 (lv_at hl 0 rfl) ?_
                      refine x_iald hx hb hK.1 hw (by omega) (by omega) ar_72 (len_E ar_72 (by decide)) (by omega) (by omega) (by omega) dX9_differs_157 ?_
                      have f307 : 0 ≤ X21 72 0 (120 + r) ∧ X21 72 0 (120 + r) ≤ 5 := hRX21 72 0 (120 + r)
                      refine x_icmp_ne (tgt := 165) hx hb (by omega) (by omega) dX9_differs_158 (by decide) (fun c308 => ?_) (fun c308 => ?_)
                      · refine lv_iconst (v := jI 0) hx hb dX9_differs_165 rfl ?_
                        refine lv_istore (lv' := [(7, .int (jI 0)), (6, .int (jI (120 + r))), (5, .int (jI ((30 * sv) + r))), (0, .ref (ad 40 0)), (1, .int (jI sv)), (2, .int (jI x)), (3, .int (jI nz)), (4, .int (jI r))]) hx hb dX9_differs_166 hl (by decide) rfl (fun ls hl => ?_)
                        refine lv_iconst (v := jI 0) hx hb dX9_differs_168 rfl ?_
                        refine lv_istore (lv' := [(8, .int (jI 0)), (7, .int (jI 0)), (6, .int (jI (120 + r))), (5, .int (jI ((30 * sv) + r))), (0, .ref (ad 40 0)), (1, .int (jI sv)), (2, .int (jI x)), (3, .int (jI nz)), (4, .int (jI r))]) hx hb dX9_differs_169 hl (by decide) rfl (fun ls hl => ?_)
                        have lp171 : ∀ (nn : Nat) (sm : Int) (k : Int) (H : Heap) (locs : List Loc) (ls : Array Slot), (5 - k) < (nn : Int) → (0 ≤ sm ∧ sm ≤ 1) → (0 ≤ k ∧ k ≤ 5) → (sm = 1 → X21 71 0 (30 * sv + r) = X21 71 0 (120 + r) ∧ X21 72 0 (30 * sv + r) = X21 72 0 (120 + r) ∧ ∀ j, 0 ≤ j → j < k → X21 73 0 (5 * (30 * sv + r) + j) = X21 73 0 (5 * (120 + r) + j) ∧ X21 74 0 (5 * (30 * sv + r) + j) = X21 74 0 (5 * (120 + r) + j)) → (sm = 0 → ¬ shM X21 sv r) → wd D tc base (ad, cnt, X21, Y, ln) H → va_S (frA base) s.heap H locs → lv_has ls 12 [(0, .ref (ad 40 0)), (1, .int (jI sv)), (2, .int (jI x)), (3, .int (jI nz)), (4, .int (jI r)), (5, .int (jI ((30 * sv) + r))), (6, .int (jI (120 + r))), (7, .int (jI sm)), (8, .int (jI k))] → W p l e ({ frames := 2, cells := 0, slots := 0, locals := 53 } : Room) s m ([.ref (ad 40 0), .int (jI sv), .int (jI x)] : List Value).toArray below meth c H locs 0 0 (MQ below (QI D tc base (fun z u => ∃ X1 : Nat → Int → Int → Int, u = (ad, cnt, X1, Y, ln) ∧ Rng X1 ∧ Frm [4001, 7100, 7200, 7300, 7400, 7500, 8000, 7000, 8100, 7700, 7800, 7900, 7600, 4042, 4043, 4044] X X1 ∧ MInv X1 ∧ (-2147483648 ≤ z ∧ z ≤ 2147483647) ∧ S4 X X1 ∧ S5 X X1 ∧ ((¬ ((0 ≤ sv ∧ sv < 4) ∧ X 70 0 sv ≠ 0 ∧ (0 ≤ x ∧ x < X 40 0 13)) ∧ z = -2) ∨ (((0 ≤ sv ∧ sv < 4) ∧ X 70 0 sv ≠ 0 ∧ (0 ≤ x ∧ x < X 40 0 13)) ∧ (rmT X1 (recR (fcM X) (lnM X) (mRid X) (mRid X) x 30) ∧ rmR X1 (recR (fcM X) (lnM X) (mRid X) (mRid X) x 30) ∧ rmV X1 (recR (fcM X) (lnM X) (mRid X) (mRid X) x 30) (recR (fcM X) (lnM X) (mRid X) (mRid X) x 30 0 0) 0) ∧ dfP (mxM X1 sv) (shM X1 sv) (fun r => X1 72 0 (30 * sv + r)) (vqM X1 sv) (fun r f => X1 73 0 (5 * (30 * sv + r) + f)) z)))) ([.ref (ad 40 0), .int (jI sv), .int (jI x)] : List Value).toArray s 0 0 (frA base)) (F0 m 171 ls []) := by
                          intro nn
                          induction nn with
                          | zero => intro sm k H locs ls hm hsm hk hsm1 hsm0 hw hS hl; exfalso; omega
                          | succ nn ih171 =>
                            intro sm k H locs ls hm hsm hk hsm1 hsm0 hw hS hl
                            skip
                            refine lv_iload hx hb dX9_differs_171 (lv_at hl 7 rfl) ?_
                            refine x_if_eq (tgt := 255) hx hb (by omega) dX9_differs_173 (by decide) (fun c309 => ?_) (fun c309 => ?_)
                            · refine lv_iload hx hb dX9_differs_255 (lv_at hl 7 rfl) ?_
                              refine x_if_ne (tgt := 269) hx hb (by omega) dX9_differs_257 (by decide) (fun c310 => ?_) (fun c310 => ?_)
                              · refine lv_iconst (v := jI 0) hx hb dX9_differs_269 rfl ?_
                                refine lv_istore (lv' := [(8, .int (jI 0)), (0, .ref (ad 40 0)), (1, .int (jI sv)), (2, .int (jI x)), (3, .int (jI nz)), (4, .int (jI r)), (5, .int (jI ((30 * sv) + r))), (6, .int (jI (120 + r))), (7, .int (jI sm))]) hx hb dX9_differs_270 hl (by decide) rfl (fun ls hl => ?_)
                                have lp272 : ∀ (nn : Nat) (k : Int) (H : Heap) (locs : List Loc) (ls : Array Slot), (5 - k) < (nn : Int) → (0 ≤ k ∧ k ≤ 5) → (shM X21 sv r) → (∀ f, 0 ≤ f → f < k → vqM X21 sv r f) → wd D tc base (ad, cnt, X21, Y, ln) H → va_S (frA base) s.heap H locs → lv_has ls 12 [(0, .ref (ad 40 0)), (1, .int (jI sv)), (2, .int (jI x)), (3, .int (jI nz)), (4, .int (jI r)), (5, .int (jI ((30 * sv) + r))), (6, .int (jI (120 + r))), (8, .int (jI k))] → W p l e ({ frames := 2, cells := 0, slots := 0, locals := 53 } : Room) s m ([.ref (ad 40 0), .int (jI sv), .int (jI x)] : List Value).toArray below meth c H locs 0 0 (MQ below (QI D tc base (fun z u => ∃ X1 : Nat → Int → Int → Int, u = (ad, cnt, X1, Y, ln) ∧ Rng X1 ∧ Frm [4001, 7100, 7200, 7300, 7400, 7500, 8000, 7000, 8100, 7700, 7800, 7900, 7600, 4042, 4043, 4044] X X1 ∧ MInv X1 ∧ (-2147483648 ≤ z ∧ z ≤ 2147483647) ∧ S4 X X1 ∧ S5 X X1 ∧ ((¬ ((0 ≤ sv ∧ sv < 4) ∧ X 70 0 sv ≠ 0 ∧ (0 ≤ x ∧ x < X 40 0 13)) ∧ z = -2) ∨ (((0 ≤ sv ∧ sv < 4) ∧ X 70 0 sv ≠ 0 ∧ (0 ≤ x ∧ x < X 40 0 13)) ∧ (rmT X1 (recR (fcM X) (lnM X) (mRid X) (mRid X) x 30) ∧ rmR X1 (recR (fcM X) (lnM X) (mRid X) (mRid X) x 30) ∧ rmV X1 (recR (fcM X) (lnM X) (mRid X) (mRid X) x 30) (recR (fcM X) (lnM X) (mRid X) (mRid X) x 30 0 0) 0) ∧ dfP (mxM X1 sv) (shM X1 sv) (fun r => X1 72 0 (30 * sv + r)) (vqM X1 sv) (fun r f => X1 73 0 (5 * (30 * sv + r) + f)) z)))) ([.ref (ad 40 0), .int (jI sv), .int (jI x)] : List Value).toArray s 0 0 (frA base)) (F0 m 272 ls []) := by
                                  intro nn
                                  induction nn with
                                  | zero => intro k H locs ls hm hk hsh hvk hw hS hl; exfalso; omega
                                  | succ nn ih272 =>
                                    intro k H locs ls hm hk hsh hvk hw hS hl
                                    refine lv_iload hx hb dX9_differs_272 (lv_at hl 7 rfl) ?_
                                    refine lv_aload_n hx hb dX9_differs_274 rfl (lv_at hl 0 rfl) ?_
                                    refine x_geto hx hb hf9 hw (by omega) (by omega) sl_40_31 lk87 dX9_differs_275 ?_
                                    refine lv_iload hx hb dX9_differs_278 (lv_at hl 5 rfl) ?_
                                    refine x_iald hx hb hK.1 hw (by omega) (by omega) ar_72 (len_E ar_72 (by decide)) (by omega) (by omega) (by omega) dX9_differs_280 ?_
                                    have f311 : 0 ≤ X21 72 0 ((30 * sv) + r) ∧ X21 72 0 ((30 * sv) + r) ≤ 5 := hRX21 72 0 ((30 * sv) + r)
                                    refine x_icmp_ge (tgt := 411) hx hb (by omega) (by omega) dX9_differs_281 (by decide) (fun c312 => ?_) (fun c312 => ?_)
                                    · refine lv_iinc (v := jI (r + 1)) (lv' := [(4, .int (jI (r + 1))), (0, .ref (ad 40 0)), (1, .int (jI sv)), (2, .int (jI x)), (3, .int (jI nz)), (5, .int (jI ((30 * sv) + r))), (6, .int (jI (120 + r))), (8, .int (jI k))]) hx hb dX9_differs_411 hl (k := 4) rfl (jI_add _ _) (by decide) rfl (fun ls hl => ?_)
                                      refine lv_goto (tgt := 74) hx hb dX9_differs_414 (by decide) ?_
                                      exact ih74 nz (r + 1) _ _ _ (by omega) (by omega) (by omega) (hnzv) (fun r' a b => if hr9 : r' = r then (by rw [hr9]; exact ⟨hsh, fun f f0 f1 => hvk f f0 (by omega)⟩) else hall r' a (by omega)) hw hS (lv_sub hl [1, 2, 3, 4, 0] rfl)
                                    · refine lv_aload_n hx hb dX9_differs_284 rfl (lv_at hl 0 rfl) ?_
                                      refine x_geto hx hb hf9 hw (by omega) (by omega) sl_40_34 lk96 dX9_differs_285 ?_
                                      refine lv_iconst (v := jI 5) hx hb dX9_differs_288 rfl ?_
                                      refine lv_iload hx hb dX9_differs_289 (lv_at hl 5 rfl) ?_
                                      refine x_imul hx hb dX9_differs_291 ?_
                                      refine lv_iload hx hb dX9_differs_292 (lv_at hl 7 rfl) ?_
                                      refine x_iadd hx hb dX9_differs_294 ?_
                                      obtain ⟨hv1, hv2, hv3⟩ := (hMIX21.2.2.1 sv r (by omega) (by omega) (by omega) (by omega)).2 k (by omega) (by omega)
                                      refine x_lald hx hb hK.1 hw (by omega) (by omega) ar_75 (len_E ar_75 (by decide)) (by omega) (by omega) (by omega) dX9_differs_295 ?_
                                      have f313 : (-9223372036854775808) ≤ X21 75 0 ((5 * ((30 * sv) + r)) + k) ∧ X21 75 0 ((5 * ((30 * sv) + r)) + k) ≤ 9223372036854775807 := hRX21 75 0 ((5 * ((30 * sv) + r)) + k)
                                      refine lv_lstore (lv' := [(9, .long (jL (X21 75 0 ((5 * ((30 * sv) + r)) + k)))), (0, .ref (ad 40 0)), (1, .int (jI sv)), (2, .int (jI x)), (3, .int (jI nz)), (4, .int (jI r)), (5, .int (jI ((30 * sv) + r))), (6, .int (jI (120 + r))), (8, .int (jI k))]) hx hb dX9_differs_296 hl (by decide) rfl (fun ls hl => ?_)
                                      refine lv_lload hx hb dX9_differs_298 (lv_at hl 0 rfl) ?_
                                      refine lv_aload_n hx hb dX9_differs_300 rfl (lv_at hl 1 rfl) ?_
                                      refine x_geto hx hb hf9 hw (by omega) (by omega) sl_40_34 lk96 dX9_differs_301 ?_
                                      refine lv_iconst (v := jI 5) hx hb dX9_differs_304 rfl ?_
                                      refine lv_iload hx hb dX9_differs_305 (lv_at hl 7 rfl) ?_
                                      refine x_imul hx hb dX9_differs_307 ?_
                                      refine lv_iload hx hb dX9_differs_308 (lv_at hl 8 rfl) ?_
                                      refine x_iadd hx hb dX9_differs_310 ?_
                                      refine x_lald hx hb hK.1 hw (by omega) (by omega) ar_75 (len_E ar_75 (by decide)) (by omega) (by omega) (by omega) dX9_differs_311 ?_
                                      have f314 : (-9223372036854775808) ≤ X21 75 0 ((5 * (120 + r)) + k) ∧ X21 75 0 ((5 * (120 + r)) + k) ≤ 9223372036854775807 := hRX21 75 0 ((5 * (120 + r)) + k)
                                      refine x_lcmp hx hb (by omega) (by omega) dX9_differs_312 ?_
                                      obtain ⟨z315, ez315⟩ : ∃ y : Int, y = cmpZ (X21 75 0 ((5 * ((30 * sv) + r)) + k)) (X21 75 0 ((5 * (120 + r)) + k)) := ⟨_, rfl⟩
                                      rw [← ez315]
                                      have gz315 : (z315 < 0 ↔ ((X21 75 0 ((5 * ((30 * sv) + r)) + k)) : Int) < (X21 75 0 ((5 * (120 + r)) + k))) ∧ (z315 = 0 ↔ ((X21 75 0 ((5 * ((30 * sv) + r)) + k)) : Int) = (X21 75 0 ((5 * (120 + r)) + k))) ∧ -1 ≤ z315 ∧ z315 ≤ 1 := by rw [ez315]; exact ⟨cmpZ_lt, cmpZ_eq, (cmpZ_r _ _).1, (cmpZ_r _ _).2⟩
                                      clear ez315
                                      refine x_if_eq (tgt := 320) hx hb (by omega) dX9_differs_313 (by decide) (fun c316 => ?_) (fun c316 => ?_)
                                      · refine lv_iconst (v := jI 0) hx hb dX9_differs_320 rfl ?_
                                        refine lv_istore (lv' := [(11, .int (jI 0)), (9, .long (jL (X21 75 0 ((5 * ((30 * sv) + r)) + k)))), (0, .ref (ad 40 0)), (1, .int (jI sv)), (2, .int (jI x)), (3, .int (jI nz)), (4, .int (jI r)), (5, .int (jI ((30 * sv) + r))), (6, .int (jI (120 + r))), (8, .int (jI k))]) hx hb dX9_differs_321 hl (by decide) rfl (fun ls hl => ?_)
                                        refine lv_iload hx hb dX9_differs_323 (lv_at hl 0 rfl) ?_
                                        refine x_if_neF (tgt := 374) hx hb (by omega) (by decide) dX9_differs_325 (by decide) ?_
                                        refine lv_aload_n hx hb dX9_differs_328 rfl (lv_at hl 2 rfl) ?_
                                        refine x_geto hx hb hf9 hw (by omega) (by omega) sl_40_33 lk93 dX9_differs_329 ?_
                                        refine lv_iconst (v := jI 5) hx hb dX9_differs_332 rfl ?_
                                        refine lv_iload hx hb dX9_differs_333 (lv_at hl 7 rfl) ?_
                                        refine x_imul hx hb dX9_differs_335 ?_
                                        refine lv_iload hx hb dX9_differs_336 (lv_at hl 9 rfl) ?_
                                        refine x_iadd hx hb dX9_differs_338 ?_
                                        refine x_iald hx hb hK.1 hw (by omega) (by omega) ar_74 (len_E ar_74 (by decide)) (by omega) (by omega) (by omega) dX9_differs_339 ?_
                                        have f317 : 0 ≤ X21 74 0 ((5 * ((30 * sv) + r)) + k) ∧ X21 74 0 ((5 * ((30 * sv) + r)) + k) ≤ 5 := hRX21 74 0 ((5 * ((30 * sv) + r)) + k)
                                        refine lv_iconst (v := jI 2) hx hb dX9_differs_340 rfl ?_
                                        refine x_icmp_le (tgt := 378) hx hb (by omega) (by omega) dX9_differs_341 (by decide) (fun c318 => ?_) (fun c318 => ?_)
                                        · refine lv_iconst (v := jI 0) hx hb dX9_differs_378 rfl ?_
                                          refine lv_istore (lv' := [(11, .int (jI 0)), (9, .long (jL (X21 75 0 ((5 * ((30 * sv) + r)) + k)))), (0, .ref (ad 40 0)), (1, .int (jI sv)), (2, .int (jI x)), (3, .int (jI nz)), (4, .int (jI r)), (5, .int (jI ((30 * sv) + r))), (6, .int (jI (120 + r))), (8, .int (jI k))]) hx hb dX9_differs_379 hl (by decide) rfl (fun ls hl => ?_)
                                          refine lv_iload hx hb dX9_differs_381 (lv_at hl 0 rfl) ?_
                                          refine x_if_eqT (tgt := 405) hx hb (by omega) (by decide) dX9_differs_383 (by decide) ?_
                                          refine lv_iinc (v := jI (k + 1)) (lv' := [(8, .int (jI (k + 1))), (11, .int (jI 0)), (9, .long (jL (X21 75 0 ((5 * ((30 * sv) + r)) + k)))), (0, .ref (ad 40 0)), (1, .int (jI sv)), (2, .int (jI x)), (3, .int (jI nz)), (4, .int (jI r)), (5, .int (jI ((30 * sv) + r))), (6, .int (jI (120 + r)))]) hx hb dX9_differs_405 hl (k := 9) rfl (jI_add _ _) (by decide) rfl (fun ls hl => ?_)
                                          refine lv_goto (tgt := 272) hx hb dX9_differs_408 (by decide) ?_
                                          exact ih272 (k + 1) _ _ _ (by omega) (by omega) (hsh) (fun f a b => if hf9 : f = k then (by rw [hf9]; exact (by (try delta Hid at *); first | exact ⟨by omega, fun a9 b9 => (by exfalso; omega)⟩ | exact ⟨by omega, fun a9 b9 => (by rcases hrdf with ⟨e9, h9⟩ | ⟨e9, h9⟩; exact h9; exfalso; omega)⟩)) else hvk f a (by omega)) hw hS (lv_sub hl [3, 4, 5, 6, 7, 8, 9, 0] rfl)
                                        · refine lv_lload hx hb dX9_differs_344 (lv_at hl 1 rfl) ?_
                                          refine lv_lconst (v := jL 0) hx hb dX9_differs_346 (by decide) ?_
                                          refine x_lcmp hx hb (by omega) (by omega) dX9_differs_347 ?_
                                          obtain ⟨z319, ez319⟩ : ∃ y : Int, y = cmpZ (X21 75 0 ((5 * ((30 * sv) + r)) + k)) 0 := ⟨_, rfl⟩
                                          rw [← ez319]
                                          have gz319 : (z319 < 0 ↔ ((X21 75 0 ((5 * ((30 * sv) + r)) + k)) : Int) < 0) ∧ (z319 = 0 ↔ ((X21 75 0 ((5 * ((30 * sv) + r)) + k)) : Int) = 0) ∧ -1 ≤ z319 ∧ z319 ≤ 1 := by rw [ez319]; exact ⟨cmpZ_lt, cmpZ_eq, (cmpZ_r _ _).1, (cmpZ_r _ _).2⟩
                                          clear ez319
                                          refine x_if_lt (tgt := 378) hx hb (by omega) dX9_differs_348 (by decide) (fun c320 => ?_) (fun c320 => ?_)
                                          · refine lv_iconst (v := jI 0) hx hb dX9_differs_378 rfl ?_
                                            refine lv_istore (lv' := [(11, .int (jI 0)), (9, .long (jL (X21 75 0 ((5 * ((30 * sv) + r)) + k)))), (0, .ref (ad 40 0)), (1, .int (jI sv)), (2, .int (jI x)), (3, .int (jI nz)), (4, .int (jI r)), (5, .int (jI ((30 * sv) + r))), (6, .int (jI (120 + r))), (8, .int (jI k))]) hx hb dX9_differs_379 hl (by decide) rfl (fun ls hl => ?_)
                                            refine lv_iload hx hb dX9_differs_381 (lv_at hl 0 rfl) ?_
                                            refine x_if_eqT (tgt := 405) hx hb (by omega) (by decide) dX9_differs_383 (by decide) ?_
                                            refine lv_iinc (v := jI (k + 1)) (lv' := [(8, .int (jI (k + 1))), (11, .int (jI 0)), (9, .long (jL (X21 75 0 ((5 * ((30 * sv) + r)) + k)))), (0, .ref (ad 40 0)), (1, .int (jI sv)), (2, .int (jI x)), (3, .int (jI nz)), (4, .int (jI r)), (5, .int (jI ((30 * sv) + r))), (6, .int (jI (120 + r)))]) hx hb dX9_differs_405 hl (k := 9) rfl (jI_add _ _) (by decide) rfl (fun ls hl => ?_)
                                            refine lv_goto (tgt := 272) hx hb dX9_differs_408 (by decide) ?_
                                            exact ih272 (k + 1) _ _ _ (by omega) (by omega) (hsh) (fun f a b => if hf9 : f = k then (by rw [hf9]; exact (by (try delta Hid at *); first | exact ⟨by omega, fun a9 b9 => (by exfalso; omega)⟩ | exact ⟨by omega, fun a9 b9 => (by rcases hrdf with ⟨e9, h9⟩ | ⟨e9, h9⟩; exact h9; exfalso; omega)⟩)) else hvk f a (by omega)) hw hS (lv_sub hl [3, 4, 5, 6, 7, 8, 9, 0] rfl)
                                          · refine lv_aload_n hx hb dX9_differs_351 rfl (lv_at hl 2 rfl) ?_
                                            refine lv_sipush (v := jI 150) hx hb dX9_differs_352 (by decide) ?_
                                            refine lv_iload_n hx hb dX9_differs_355 rfl (lv_at hl 3 rfl) ?_
                                            refine x_imul hx hb dX9_differs_356 ?_
                                            refine lv_lload hx hb dX9_differs_357 (lv_at hl 1 rfl) ?_
                                            refine x_l2i hx hb dX9_differs_359 ?_
                                            refine x_iadd hx hb dX9_differs_360 ?_
                                            refine lv_sipush (v := jI 600) hx hb dX9_differs_361 (by decide) ?_
                                            refine lv_lload hx hb dX9_differs_364 (lv_at hl 1 rfl) ?_
                                            refine x_l2i hx hb dX9_differs_366 ?_
                                            refine x_iadd hx hb dX9_differs_367 ?_
                                            refine gos_i (run_V (As := [.int (jI ((150 * sv) + (X21 75 0 ((5 * ((30 * sv) + r)) + k)))), .int (jI (600 + (X21 75 0 ((5 * ((30 * sv) + r)) + k))))]) (rest := []) hx hb hml hown hts (c_X9_rowsDiffer l D tc base ad cnt X21 Y ln hRX21 hFx hMIX21 ((150 * sv) + (X21 75 0 ((5 * ((30 * sv) + r)) + k))) (600 + (X21 75 0 ((5 * ((30 * sv) + r)) + k))) (by omega) (by omega)) (cwV 2 hts gX9_differs_X9_rowsDiffer rfl rfl rfl (by decide +kernel) ⟨Nat.le_of_ble_eq_true rfl, Nat.le_of_ble_eq_true rfl⟩) hK hw (by omega) (by omega) sl_40_0 rfl rfl hl.1 rfl (Nat.le_of_ble_eq_true rfl) dX9_differs_368 ⟨Nat.le_of_ble_eq_true rfl, Nat.le_of_ble_eq_true rfl⟩) hS (fun z321 u322 H locs p323 hw hS => ?_)
                                            obtain ⟨eu322, p323, hrdf⟩ := p323
                                            subst eu322
                                            refine x_if_eq (tgt := 378) hx hb (by omega) dX9_differs_371 (by decide) (fun c324 => ?_) (fun c324 => ?_)
                                            · refine lv_iconst (v := jI 0) hx hb dX9_differs_378 rfl ?_
                                              refine lv_istore (lv' := [(11, .int (jI 0)), (9, .long (jL (X21 75 0 ((5 * ((30 * sv) + r)) + k)))), (0, .ref (ad 40 0)), (1, .int (jI sv)), (2, .int (jI x)), (3, .int (jI nz)), (4, .int (jI r)), (5, .int (jI ((30 * sv) + r))), (6, .int (jI (120 + r))), (8, .int (jI k))]) hx hb dX9_differs_379 hl (by decide) rfl (fun ls hl => ?_)
                                              refine lv_iload hx hb dX9_differs_381 (lv_at hl 0 rfl) ?_
                                              refine x_if_eqT (tgt := 405) hx hb (by omega) (by decide) dX9_differs_383 (by decide) ?_
                                              refine lv_iinc (v := jI (k + 1)) (lv' := [(8, .int (jI (k + 1))), (11, .int (jI 0)), (9, .long (jL (X21 75 0 ((5 * ((30 * sv) + r)) + k)))), (0, .ref (ad 40 0)), (1, .int (jI sv)), (2, .int (jI x)), (3, .int (jI nz)), (4, .int (jI r)), (5, .int (jI ((30 * sv) + r))), (6, .int (jI (120 + r)))]) hx hb dX9_differs_405 hl (k := 9) rfl (jI_add _ _) (by decide) rfl (fun ls hl => ?_)
                                              refine lv_goto (tgt := 272) hx hb dX9_differs_408 (by decide) ?_
                                              exact ih272 (k + 1) _ _ _ (by omega) (by omega) (hsh) (fun f a b => if hf9 : f = k then (by rw [hf9]; exact (by (try delta Hid at *); first | exact ⟨by omega, fun a9 b9 => (by exfalso; omega)⟩ | exact ⟨by omega, fun a9 b9 => (by rcases hrdf with ⟨e9, h9⟩ | ⟨e9, h9⟩; exact h9; exfalso; omega)⟩)) else hvk f a (by omega)) hw hS (lv_sub hl [3, 4, 5, 6, 7, 8, 9, 0] rfl)
                                            · refine lv_iconst (v := jI 1) hx hb dX9_differs_374 rfl ?_
                                              refine lv_goto (tgt := 379) hx hb dX9_differs_375 (by decide) ?_
                                              refine lv_istore (lv' := [(11, .int (jI 1)), (9, .long (jL (X21 75 0 ((5 * ((30 * sv) + r)) + k)))), (0, .ref (ad 40 0)), (1, .int (jI sv)), (2, .int (jI x)), (3, .int (jI nz)), (4, .int (jI r)), (5, .int (jI ((30 * sv) + r))), (6, .int (jI (120 + r))), (8, .int (jI k))]) hx hb dX9_differs_379 hl (by decide) rfl (fun ls hl => ?_)
                                              refine lv_iload hx hb dX9_differs_381 (lv_at hl 0 rfl) ?_
                                              refine x_if_eqF (tgt := 405) hx hb (by omega) (by decide) dX9_differs_383 (by decide) ?_
                                              refine lv_bipush (v := jI 100) hx hb dX9_differs_386 (by decide) ?_
                                              refine lv_iload hx hb dX9_differs_388 (lv_at hl 6 rfl) ?_
                                              refine x_imul hx hb dX9_differs_390 ?_
                                              refine lv_aload_n hx hb dX9_differs_391 rfl (lv_at hl 2 rfl) ?_
                                              refine x_geto hx hb hf9 hw (by omega) (by omega) sl_40_32 lk90 dX9_differs_392 ?_
                                              refine lv_iconst (v := jI 5) hx hb dX9_differs_395 rfl ?_
                                              refine lv_iload hx hb dX9_differs_396 (lv_at hl 7 rfl) ?_
                                              refine x_imul hx hb dX9_differs_398 ?_
                                              refine lv_iload hx hb dX9_differs_399 (lv_at hl 9 rfl) ?_
                                              refine x_iadd hx hb dX9_differs_401 ?_
                                              refine x_iald hx hb hK.1 hw (by omega) (by omega) ar_73 (len_E ar_73 (by decide)) (by omega) (by omega) (by omega) dX9_differs_402 ?_
                                              have f325 : 0 ≤ X21 73 0 ((5 * ((30 * sv) + r)) + k) ∧ X21 73 0 ((5 * ((30 * sv) + r)) + k) ≤ 19 := hRX21 73 0 ((5 * ((30 * sv) + r)) + k)
                                              refine x_iadd hx hb dX9_differs_403 ?_
                                              refine ret_i (mc := 0) (ms := 0) hx hb hr hlocks hw hS (by omega) (by omega) dX9_differs_404 ?_
                                              have q326 : Frm [4001] X X1 := by rw [hX1]; exact Frm.set Frm.rf (show 4001 ∈ [4001] by decide)
                                              have hrd327 := rdr_eq (L := [4001]) q326 (by decide)
                                              have hsx328 := hsvX21
                                              rw [hrd327.1, hrd327.2.1, hrd327.2.2, Frm.arr q326 48 (by decide +kernel) (by decide), Frm.arr q326 55 (by decide +kernel) (by decide)] at hsx328
                                              exact ⟨X21, rfl, hRX21, hFX21, hMIX21, by omega, S4.tr (S4.frm q326 (by decide)) h4X21, S5.tr (S5.frm q326 (by decide)) h5X21, Or.inr ⟨(by (try delta Hid at *); omega), (by rcases hsx328 with ⟨-, q, -⟩ | ⟨-, -, q⟩; exact absurd q (by decide); exact q), Or.inr ⟨r, by omega, by omega, hall, Or.inr ⟨hsh, k, by omega, by omega, hvk, (fun q => by (try delta Hid at *); first | (have q1 := q.1; omega) | exact absurd (q.2 (by omega) (by omega)) (by assumption) | (rcases hrdf with ⟨e9, h9⟩ | ⟨e9, h9⟩; omega; exact h9 (q.2 (by omega) (by omega)))), by omega⟩⟩⟩⟩
                                      · refine lv_iconst (v := jI 1) hx hb dX9_differs_316 rfl ?_
                                        refine lv_goto (tgt := 321) hx hb dX9_differs_317 (by decide) ?_
                                        refine lv_istore (lv' := [(11, .int (jI 1)), (9, .long (jL (X21 75 0 ((5 * ((30 * sv) + r)) + k)))), (0, .ref (ad 40 0)), (1, .int (jI sv)), (2, .int (jI x)), (3, .int (jI nz)), (4, .int (jI r)), (5, .int (jI ((30 * sv) + r))), (6, .int (jI (120 + r))), (8, .int (jI k))]) hx hb dX9_differs_321 hl (by decide) rfl (fun ls hl => ?_)
                                        refine lv_iload hx hb dX9_differs_323 (lv_at hl 0 rfl) ?_
                                        refine x_if_neT (tgt := 374) hx hb (by omega) (by decide) dX9_differs_325 (by decide) ?_
                                        refine lv_iconst (v := jI 1) hx hb dX9_differs_374 rfl ?_
                                        refine lv_goto (tgt := 379) hx hb dX9_differs_375 (by decide) ?_
                                        refine lv_istore (lv' := [(11, .int (jI 1)), (9, .long (jL (X21 75 0 ((5 * ((30 * sv) + r)) + k)))), (0, .ref (ad 40 0)), (1, .int (jI sv)), (2, .int (jI x)), (3, .int (jI nz)), (4, .int (jI r)), (5, .int (jI ((30 * sv) + r))), (6, .int (jI (120 + r))), (8, .int (jI k))]) hx hb dX9_differs_379 hl (by decide) rfl (fun ls hl => ?_)
                                        refine lv_iload hx hb dX9_differs_381 (lv_at hl 0 rfl) ?_
                                        refine x_if_eqF (tgt := 405) hx hb (by omega) (by decide) dX9_differs_383 (by decide) ?_
                                        refine lv_bipush (v := jI 100) hx hb dX9_differs_386 (by decide) ?_
                                        refine lv_iload hx hb dX9_differs_388 (lv_at hl 6 rfl) ?_
                                        refine x_imul hx hb dX9_differs_390 ?_
                                        refine lv_aload_n hx hb dX9_differs_391 rfl (lv_at hl 2 rfl) ?_
                                        refine x_geto hx hb hf9 hw (by omega) (by omega) sl_40_32 lk90 dX9_differs_392 ?_
                                        refine lv_iconst (v := jI 5) hx hb dX9_differs_395 rfl ?_
                                        refine lv_iload hx hb dX9_differs_396 (lv_at hl 7 rfl) ?_
                                        refine x_imul hx hb dX9_differs_398 ?_
                                        refine lv_iload hx hb dX9_differs_399 (lv_at hl 9 rfl) ?_
                                        refine x_iadd hx hb dX9_differs_401 ?_
                                        refine x_iald hx hb hK.1 hw (by omega) (by omega) ar_73 (len_E ar_73 (by decide)) (by omega) (by omega) (by omega) dX9_differs_402 ?_
                                        have f329 : 0 ≤ X21 73 0 ((5 * ((30 * sv) + r)) + k) ∧ X21 73 0 ((5 * ((30 * sv) + r)) + k) ≤ 19 := hRX21 73 0 ((5 * ((30 * sv) + r)) + k)
                                        refine x_iadd hx hb dX9_differs_403 ?_
                                        refine ret_i (mc := 0) (ms := 0) hx hb hr hlocks hw hS (by omega) (by omega) dX9_differs_404 ?_
                                        have q330 : Frm [4001] X X1 := by rw [hX1]; exact Frm.set Frm.rf (show 4001 ∈ [4001] by decide)
                                        have hrd331 := rdr_eq (L := [4001]) q330 (by decide)
                                        have hsx332 := hsvX21
                                        rw [hrd331.1, hrd331.2.1, hrd331.2.2, Frm.arr q330 48 (by decide +kernel) (by decide), Frm.arr q330 55 (by decide +kernel) (by decide)] at hsx332
                                        exact ⟨X21, rfl, hRX21, hFX21, hMIX21, by omega, S4.tr (S4.frm q330 (by decide)) h4X21, S5.tr (S5.frm q330 (by decide)) h5X21, Or.inr ⟨(by (try delta Hid at *); omega), (by rcases hsx332 with ⟨-, q, -⟩ | ⟨-, -, q⟩; exact absurd q (by decide); exact q), Or.inr ⟨r, by omega, by omega, hall, Or.inr ⟨hsh, k, by omega, by omega, hvk, (fun q => by (try delta Hid at *); first | (have q1 := q.1; omega) | exact absurd (q.2 (by omega) (by omega)) (by assumption) | (rcases hrdf with ⟨e9, h9⟩ | ⟨e9, h9⟩; omega; exact h9 (q.2 (by omega) (by omega)))), by omega⟩⟩⟩⟩
                                exact lp272 (5 - 0 : Int).toNat.succ 0 _ _ _ (by omega) (by omega) ((by obtain ⟨q1, q2, q3⟩ := hsm1 (by omega); exact ⟨by omega, by omega, q1, q2, fun j a b => q3 j a (by omega)⟩)) (fun f a b => by omega) hw hS (lv_sub hl [1, 2, 3, 4, 5, 6, 7, 0] rfl)
                              · refine lv_bipush (v := jI 100) hx hb dX9_differs_260 (by decide) ?_
                                refine lv_iload hx hb dX9_differs_262 (lv_at hl 4 rfl) ?_
                                refine x_imul hx hb dX9_differs_264 ?_
                                refine lv_bipush (v := jI 99) hx hb dX9_differs_265 (by decide) ?_
                                refine x_iadd hx hb dX9_differs_267 ?_
                                refine ret_i (mc := 0) (ms := 0) hx hb hr hlocks hw hS (by omega) (by omega) dX9_differs_268 ?_
                                have q333 : Frm [4001] X X1 := by rw [hX1]; exact Frm.set Frm.rf (show 4001 ∈ [4001] by decide)
                                have hrd334 := rdr_eq (L := [4001]) q333 (by decide)
                                have hsx335 := hsvX21
                                rw [hrd334.1, hrd334.2.1, hrd334.2.2, Frm.arr q333 48 (by decide +kernel) (by decide), Frm.arr q333 55 (by decide +kernel) (by decide)] at hsx335
                                exact ⟨X21, rfl, hRX21, hFX21, hMIX21, by omega, S4.tr (S4.frm q333 (by decide)) h4X21, S5.tr (S5.frm q333 (by decide)) h5X21, Or.inr ⟨(by (try delta Hid at *); omega), (by rcases hsx335 with ⟨-, q, -⟩ | ⟨-, -, q⟩; exact absurd q (by decide); exact q), Or.inr ⟨r, by omega, by omega, hall, Or.inl ⟨hsm0 (by omega), by omega⟩⟩⟩⟩
                            · refine lv_iload hx hb dX9_differs_176 (lv_at hl 8 rfl) ?_
                              refine lv_aload_n hx hb dX9_differs_178 rfl (lv_at hl 0 rfl) ?_
                              refine x_geto hx hb hf9 hw (by omega) (by omega) sl_40_31 lk87 dX9_differs_179 ?_
                              refine lv_iload hx hb dX9_differs_182 (lv_at hl 5 rfl) ?_
                              refine x_iald hx hb hK.1 hw (by omega) (by omega) ar_72 (len_E ar_72 (by decide)) (by omega) (by omega) (by omega) dX9_differs_184 ?_
                              have f336 : 0 ≤ X21 72 0 ((30 * sv) + r) ∧ X21 72 0 ((30 * sv) + r) ≤ 5 := hRX21 72 0 ((30 * sv) + r)
                              refine x_icmp_ge (tgt := 255) hx hb (by omega) (by omega) dX9_differs_185 (by decide) (fun c337 => ?_) (fun c337 => ?_)
                              · refine lv_iload hx hb dX9_differs_255 (lv_at hl 7 rfl) ?_
                                refine x_if_ne (tgt := 269) hx hb (by omega) dX9_differs_257 (by decide) (fun c338 => ?_) (fun c338 => ?_)
                                · refine lv_iconst (v := jI 0) hx hb dX9_differs_269 rfl ?_
                                  refine lv_istore (lv' := [(8, .int (jI 0)), (0, .ref (ad 40 0)), (1, .int (jI sv)), (2, .int (jI x)), (3, .int (jI nz)), (4, .int (jI r)), (5, .int (jI ((30 * sv) + r))), (6, .int (jI (120 + r))), (7, .int (jI sm))]) hx hb dX9_differs_270 hl (by decide) rfl (fun ls hl => ?_)
                                  have lp272 : ∀ (nn : Nat) (k : Int) (H : Heap) (locs : List Loc) (ls : Array Slot), (5 - k) < (nn : Int) → (0 ≤ k ∧ k ≤ 5) → (shM X21 sv r) → (∀ f, 0 ≤ f → f < k → vqM X21 sv r f) → wd D tc base (ad, cnt, X21, Y, ln) H → va_S (frA base) s.heap H locs → lv_has ls 12 [(0, .ref (ad 40 0)), (1, .int (jI sv)), (2, .int (jI x)), (3, .int (jI nz)), (4, .int (jI r)), (5, .int (jI ((30 * sv) + r))), (6, .int (jI (120 + r))), (8, .int (jI k))] → W p l e ({ frames := 2, cells := 0, slots := 0, locals := 53 } : Room) s m ([.ref (ad 40 0), .int (jI sv), .int (jI x)] : List Value).toArray below meth c H locs 0 0 (MQ below (QI D tc base (fun z u => ∃ X1 : Nat → Int → Int → Int, u = (ad, cnt, X1, Y, ln) ∧ Rng X1 ∧ Frm [4001, 7100, 7200, 7300, 7400, 7500, 8000, 7000, 8100, 7700, 7800, 7900, 7600, 4042, 4043, 4044] X X1 ∧ MInv X1 ∧ (-2147483648 ≤ z ∧ z ≤ 2147483647) ∧ S4 X X1 ∧ S5 X X1 ∧ ((¬ ((0 ≤ sv ∧ sv < 4) ∧ X 70 0 sv ≠ 0 ∧ (0 ≤ x ∧ x < X 40 0 13)) ∧ z = -2) ∨ (((0 ≤ sv ∧ sv < 4) ∧ X 70 0 sv ≠ 0 ∧ (0 ≤ x ∧ x < X 40 0 13)) ∧ (rmT X1 (recR (fcM X) (lnM X) (mRid X) (mRid X) x 30) ∧ rmR X1 (recR (fcM X) (lnM X) (mRid X) (mRid X) x 30) ∧ rmV X1 (recR (fcM X) (lnM X) (mRid X) (mRid X) x 30) (recR (fcM X) (lnM X) (mRid X) (mRid X) x 30 0 0) 0) ∧ dfP (mxM X1 sv) (shM X1 sv) (fun r => X1 72 0 (30 * sv + r)) (vqM X1 sv) (fun r f => X1 73 0 (5 * (30 * sv + r) + f)) z)))) ([.ref (ad 40 0), .int (jI sv), .int (jI x)] : List Value).toArray s 0 0 (frA base)) (F0 m 272 ls []) := by
                                    intro nn
                                    induction nn with
                                    | zero => intro k H locs ls hm hk hsh hvk hw hS hl; exfalso; omega
                                    | succ nn ih272 =>
                                      intro k H locs ls hm hk hsh hvk hw hS hl
                                      refine lv_iload hx hb dX9_differs_272 (lv_at hl 7 rfl) ?_
                                      refine lv_aload_n hx hb dX9_differs_274 rfl (lv_at hl 0 rfl) ?_
                                      refine x_geto hx hb hf9 hw (by omega) (by omega) sl_40_31 lk87 dX9_differs_275 ?_
                                      refine lv_iload hx hb dX9_differs_278 (lv_at hl 5 rfl) ?_
                                      refine x_iald hx hb hK.1 hw (by omega) (by omega) ar_72 (len_E ar_72 (by decide)) (by omega) (by omega) (by omega) dX9_differs_280 ?_
                                      have f339 : 0 ≤ X21 72 0 ((30 * sv) + r) ∧ X21 72 0 ((30 * sv) + r) ≤ 5 := hRX21 72 0 ((30 * sv) + r)
                                      refine x_icmp_ge (tgt := 411) hx hb (by omega) (by omega) dX9_differs_281 (by decide) (fun c340 => ?_) (fun c340 => ?_)
                                      · refine lv_iinc (v := jI (r + 1)) (lv' := [(4, .int (jI (r + 1))), (0, .ref (ad 40 0)), (1, .int (jI sv)), (2, .int (jI x)), (3, .int (jI nz)), (5, .int (jI ((30 * sv) + r))), (6, .int (jI (120 + r))), (8, .int (jI k))]) hx hb dX9_differs_411 hl (k := 4) rfl (jI_add _ _) (by decide) rfl (fun ls hl => ?_)
                                        refine lv_goto (tgt := 74) hx hb dX9_differs_414 (by decide) ?_
                                        exact ih74 nz (r + 1) _ _ _ (by omega) (by omega) (by omega) (hnzv) (fun r' a b => if hr9 : r' = r then (by rw [hr9]; exact ⟨hsh, fun f f0 f1 => hvk f f0 (by omega)⟩) else hall r' a (by omega)) hw hS (lv_sub hl [1, 2, 3, 4, 0] rfl)
                                      · refine lv_aload_n hx hb dX9_differs_284 rfl (lv_at hl 0 rfl) ?_
                                        refine x_geto hx hb hf9 hw (by omega) (by omega) sl_40_34 lk96 dX9_differs_285 ?_
                                        refine lv_iconst (v := jI 5) hx hb dX9_differs_288 rfl ?_
                                        refine lv_iload hx hb dX9_differs_289 (lv_at hl 5 rfl) ?_
                                        refine x_imul hx hb dX9_differs_291 ?_
                                        refine lv_iload hx hb dX9_differs_292 (lv_at hl 7 rfl) ?_
                                        refine x_iadd hx hb dX9_differs_294 ?_
                                        obtain ⟨hv1, hv2, hv3⟩ := (hMIX21.2.2.1 sv r (by omega) (by omega) (by omega) (by omega)).2 k (by omega) (by omega)
                                        refine x_lald hx hb hK.1 hw (by omega) (by omega) ar_75 (len_E ar_75 (by decide)) (by omega) (by omega) (by omega) dX9_differs_295 ?_
                                        have f341 : (-9223372036854775808) ≤ X21 75 0 ((5 * ((30 * sv) + r)) + k) ∧ X21 75 0 ((5 * ((30 * sv) + r)) + k) ≤ 9223372036854775807 := hRX21 75 0 ((5 * ((30 * sv) + r)) + k)
                                        refine lv_lstore (lv' := [(9, .long (jL (X21 75 0 ((5 * ((30 * sv) + r)) + k)))), (0, .ref (ad 40 0)), (1, .int (jI sv)), (2, .int (jI x)), (3, .int (jI nz)), (4, .int (jI r)), (5, .int (jI ((30 * sv) + r))), (6, .int (jI (120 + r))), (8, .int (jI k))]) hx hb dX9_differs_296 hl (by decide) rfl (fun ls hl => ?_)
                                        refine lv_lload hx hb dX9_differs_298 (lv_at hl 0 rfl) ?_
                                        refine lv_aload_n hx hb dX9_differs_300 rfl (lv_at hl 1 rfl) ?_
                                        refine x_geto hx hb hf9 hw (by omega) (by omega) sl_40_34 lk96 dX9_differs_301 ?_
                                        refine lv_iconst (v := jI 5) hx hb dX9_differs_304 rfl ?_
                                        refine lv_iload hx hb dX9_differs_305 (lv_at hl 7 rfl) ?_
                                        refine x_imul hx hb dX9_differs_307 ?_
                                        refine lv_iload hx hb dX9_differs_308 (lv_at hl 8 rfl) ?_
                                        refine x_iadd hx hb dX9_differs_310 ?_
                                        refine x_lald hx hb hK.1 hw (by omega) (by omega) ar_75 (len_E ar_75 (by decide)) (by omega) (by omega) (by omega) dX9_differs_311 ?_
                                        have f342 : (-9223372036854775808) ≤ X21 75 0 ((5 * (120 + r)) + k) ∧ X21 75 0 ((5 * (120 + r)) + k) ≤ 9223372036854775807 := hRX21 75 0 ((5 * (120 + r)) + k)
                                        refine x_lcmp hx hb (by omega) (by omega) dX9_differs_312 ?_
                                        obtain ⟨z343, ez343⟩ : ∃ y : Int, y = cmpZ (X21 75 0 ((5 * ((30 * sv) + r)) + k)) (X21 75 0 ((5 * (120 + r)) + k)) := ⟨_, rfl⟩
                                        rw [← ez343]
                                        have gz343 : (z343 < 0 ↔ ((X21 75 0 ((5 * ((30 * sv) + r)) + k)) : Int) < (X21 75 0 ((5 * (120 + r)) + k))) ∧ (z343 = 0 ↔ ((X21 75 0 ((5 * ((30 * sv) + r)) + k)) : Int) = (X21 75 0 ((5 * (120 + r)) + k))) ∧ -1 ≤ z343 ∧ z343 ≤ 1 := by rw [ez343]; exact ⟨cmpZ_lt, cmpZ_eq, (cmpZ_r _ _).1, (cmpZ_r _ _).2⟩
                                        clear ez343
                                        refine x_if_eq (tgt := 320) hx hb (by omega) dX9_differs_313 (by decide) (fun c344 => ?_) (fun c344 => ?_)
                                        · refine lv_iconst (v := jI 0) hx hb dX9_differs_320 rfl ?_
                                          refine lv_istore (lv' := [(11, .int (jI 0)), (9, .long (jL (X21 75 0 ((5 * ((30 * sv) + r)) + k)))), (0, .ref (ad 40 0)), (1, .int (jI sv)), (2, .int (jI x)), (3, .int (jI nz)), (4, .int (jI r)), (5, .int (jI ((30 * sv) + r))), (6, .int (jI (120 + r))), (8, .int (jI k))]) hx hb dX9_differs_321 hl (by decide) rfl (fun ls hl => ?_)
                                          refine lv_iload hx hb dX9_differs_323 (lv_at hl 0 rfl) ?_
                                          refine x_if_neF (tgt := 374) hx hb (by omega) (by decide) dX9_differs_325 (by decide) ?_
                                          refine lv_aload_n hx hb dX9_differs_328 rfl (lv_at hl 2 rfl) ?_
                                          refine x_geto hx hb hf9 hw (by omega) (by omega) sl_40_33 lk93 dX9_differs_329 ?_
                                          refine lv_iconst (v := jI 5) hx hb dX9_differs_332 rfl ?_
                                          refine lv_iload hx hb dX9_differs_333 (lv_at hl 7 rfl) ?_
                                          refine x_imul hx hb dX9_differs_335 ?_
                                          refine lv_iload hx hb dX9_differs_336 (lv_at hl 9 rfl) ?_
                                          refine x_iadd hx hb dX9_differs_338 ?_
                                          refine x_iald hx hb hK.1 hw (by omega) (by omega) ar_74 (len_E ar_74 (by decide)) (by omega) (by omega) (by omega) dX9_differs_339 ?_
                                          have f345 : 0 ≤ X21 74 0 ((5 * ((30 * sv) + r)) + k) ∧ X21 74 0 ((5 * ((30 * sv) + r)) + k) ≤ 5 := hRX21 74 0 ((5 * ((30 * sv) + r)) + k)
                                          refine lv_iconst (v := jI 2) hx hb dX9_differs_340 rfl ?_
                                          refine x_icmp_le (tgt := 378) hx hb (by omega) (by omega) dX9_differs_341 (by decide) (fun c346 => ?_) (fun c346 => ?_)
                                          · refine lv_iconst (v := jI 0) hx hb dX9_differs_378 rfl ?_
                                            refine lv_istore (lv' := [(11, .int (jI 0)), (9, .long (jL (X21 75 0 ((5 * ((30 * sv) + r)) + k)))), (0, .ref (ad 40 0)), (1, .int (jI sv)), (2, .int (jI x)), (3, .int (jI nz)), (4, .int (jI r)), (5, .int (jI ((30 * sv) + r))), (6, .int (jI (120 + r))), (8, .int (jI k))]) hx hb dX9_differs_379 hl (by decide) rfl (fun ls hl => ?_)
                                            refine lv_iload hx hb dX9_differs_381 (lv_at hl 0 rfl) ?_
                                            refine x_if_eqT (tgt := 405) hx hb (by omega) (by decide) dX9_differs_383 (by decide) ?_
                                            refine lv_iinc (v := jI (k + 1)) (lv' := [(8, .int (jI (k + 1))), (11, .int (jI 0)), (9, .long (jL (X21 75 0 ((5 * ((30 * sv) + r)) + k)))), (0, .ref (ad 40 0)), (1, .int (jI sv)), (2, .int (jI x)), (3, .int (jI nz)), (4, .int (jI r)), (5, .int (jI ((30 * sv) + r))), (6, .int (jI (120 + r)))]) hx hb dX9_differs_405 hl (k := 9) rfl (jI_add _ _) (by decide) rfl (fun ls hl => ?_)
                                            refine lv_goto (tgt := 272) hx hb dX9_differs_408 (by decide) ?_
                                            exact ih272 (k + 1) _ _ _ (by omega) (by omega) (hsh) (fun f a b => if hf9 : f = k then (by rw [hf9]; exact (by (try delta Hid at *); first | exact ⟨by omega, fun a9 b9 => (by exfalso; omega)⟩ | exact ⟨by omega, fun a9 b9 => (by rcases hrdf with ⟨e9, h9⟩ | ⟨e9, h9⟩; exact h9; exfalso; omega)⟩)) else hvk f a (by omega)) hw hS (lv_sub hl [3, 4, 5, 6, 7, 8, 9, 0] rfl)
                                          · refine lv_lload hx hb dX9_differs_344 (lv_at hl 1 rfl) ?_
                                            refine lv_lconst (v := jL 0) hx hb dX9_differs_346 (by decide) ?_
                                            refine x_lcmp hx hb (by omega) (by omega) dX9_differs_347 ?_
                                            obtain ⟨z347, ez347⟩ : ∃ y : Int, y = cmpZ (X21 75 0 ((5 * ((30 * sv) + r)) + k)) 0 := ⟨_, rfl⟩
                                            rw [← ez347]
                                            have gz347 : (z347 < 0 ↔ ((X21 75 0 ((5 * ((30 * sv) + r)) + k)) : Int) < 0) ∧ (z347 = 0 ↔ ((X21 75 0 ((5 * ((30 * sv) + r)) + k)) : Int) = 0) ∧ -1 ≤ z347 ∧ z347 ≤ 1 := by rw [ez347]; exact ⟨cmpZ_lt, cmpZ_eq, (cmpZ_r _ _).1, (cmpZ_r _ _).2⟩
                                            clear ez347
                                            refine x_if_lt (tgt := 378) hx hb (by omega) dX9_differs_348 (by decide) (fun c348 => ?_) (fun c348 => ?_)
                                            · refine lv_iconst (v := jI 0) hx hb dX9_differs_378 rfl ?_
                                              refine lv_istore (lv' := [(11, .int (jI 0)), (9, .long (jL (X21 75 0 ((5 * ((30 * sv) + r)) + k)))), (0, .ref (ad 40 0)), (1, .int (jI sv)), (2, .int (jI x)), (3, .int (jI nz)), (4, .int (jI r)), (5, .int (jI ((30 * sv) + r))), (6, .int (jI (120 + r))), (8, .int (jI k))]) hx hb dX9_differs_379 hl (by decide) rfl (fun ls hl => ?_)
                                              refine lv_iload hx hb dX9_differs_381 (lv_at hl 0 rfl) ?_
                                              refine x_if_eqT (tgt := 405) hx hb (by omega) (by decide) dX9_differs_383 (by decide) ?_
                                              refine lv_iinc (v := jI (k + 1)) (lv' := [(8, .int (jI (k + 1))), (11, .int (jI 0)), (9, .long (jL (X21 75 0 ((5 * ((30 * sv) + r)) + k)))), (0, .ref (ad 40 0)), (1, .int (jI sv)), (2, .int (jI x)), (3, .int (jI nz)), (4, .int (jI r)), (5, .int (jI ((30 * sv) + r))), (6, .int (jI (120 + r)))]) hx hb dX9_differs_405 hl (k := 9) rfl (jI_add _ _) (by decide) rfl (fun ls hl => ?_)
                                              refine lv_goto (tgt := 272) hx hb dX9_differs_408 (by decide) ?_
                                              exact ih272 (k + 1) _ _ _ (by omega) (by omega) (hsh) (fun f a b => if hf9 : f = k then (by rw [hf9]; exact (by (try delta Hid at *); first | exact ⟨by omega, fun a9 b9 => (by exfalso; omega)⟩ | exact ⟨by omega, fun a9 b9 => (by rcases hrdf with ⟨e9, h9⟩ | ⟨e9, h9⟩; exact h9; exfalso; omega)⟩)) else hvk f a (by omega)) hw hS (lv_sub hl [3, 4, 5, 6, 7, 8, 9, 0] rfl)
                                            · refine lv_aload_n hx hb dX9_differs_351 rfl (lv_at hl 2 rfl) ?_
                                              refine lv_sipush (v := jI 150) hx hb dX9_differs_352 (by decide) ?_
                                              refine lv_iload_n hx hb dX9_differs_355 rfl (lv_at hl 3 rfl) ?_
                                              refine x_imul hx hb dX9_differs_356 ?_
                                              refine lv_lload hx hb dX9_differs_357 (lv_at hl 1 rfl) ?_
                                              refine x_l2i hx hb dX9_differs_359 ?_
                                              refine x_iadd hx hb dX9_differs_360 ?_
                                              refine lv_sipush (v := jI 600) hx hb dX9_differs_361 (by decide) ?_
                                              refine lv_lload hx hb dX9_differs_364 (lv_at hl 1 rfl) ?_
                                              refine x_l2i hx hb dX9_differs_366 ?_
                                              refine x_iadd hx hb dX9_differs_367 ?_
                                              refine gos_i (run_V (As := [.int (jI ((150 * sv) + (X21 75 0 ((5 * ((30 * sv) + r)) + k)))), .int (jI (600 + (X21 75 0 ((5 * ((30 * sv) + r)) + k))))]) (rest := []) hx hb hml hown hts (c_X9_rowsDiffer l D tc base ad cnt X21 Y ln hRX21 hFx hMIX21 ((150 * sv) + (X21 75 0 ((5 * ((30 * sv) + r)) + k))) (600 + (X21 75 0 ((5 * ((30 * sv) + r)) + k))) (by omega) (by omega)) (cwV 2 hts gX9_differs_X9_rowsDiffer rfl rfl rfl (by decide +kernel) ⟨Nat.le_of_ble_eq_true rfl, Nat.le_of_ble_eq_true rfl⟩) hK hw (by omega) (by omega) sl_40_0 rfl rfl hl.1 rfl (Nat.le_of_ble_eq_true rfl) dX9_differs_368 ⟨Nat.le_of_ble_eq_true rfl, Nat.le_of_ble_eq_true rfl⟩) hS (fun z349 u350 H locs p351 hw hS => ?_)
                                              obtain ⟨eu350, p351, hrdf⟩ := p351
                                              subst eu350
                                              refine x_if_eq (tgt := 378) hx hb (by omega) dX9_differs_371 (by decide) (fun c352 => ?_) (fun c352 => ?_)
                                              · refine lv_iconst (v := jI 0) hx hb dX9_differs_378 rfl ?_
                                                refine lv_istore (lv' := [(11, .int (jI 0)), (9, .long (jL (X21 75 0 ((5 * ((30 * sv) + r)) + k)))), (0, .ref (ad 40 0)), (1, .int (jI sv)), (2, .int (jI x)), (3, .int (jI nz)), (4, .int (jI r)), (5, .int (jI ((30 * sv) + r))), (6, .int (jI (120 + r))), (8, .int (jI k))]) hx hb dX9_differs_379 hl (by decide) rfl (fun ls hl => ?_)
                                                refine lv_iload hx hb dX9_differs_381 (lv_at hl 0 rfl) ?_
                                                refine x_if_eqT (tgt := 405) hx hb (by omega) (by decide) dX9_differs_383 (by decide) ?_
                                                refine lv_iinc (v := jI (k + 1)) (lv' := [(8, .int (jI (k + 1))), (11, .int (jI 0)), (9, .long (jL (X21 75 0 ((5 * ((30 * sv) + r)) + k)))), (0, .ref (ad 40 0)), (1, .int (jI sv)), (2, .int (jI x)), (3, .int (jI nz)), (4, .int (jI r)), (5, .int (jI ((30 * sv) + r))), (6, .int (jI (120 + r)))]) hx hb dX9_differs_405 hl (k := 9) rfl (jI_add _ _) (by decide) rfl (fun ls hl => ?_)
                                                refine lv_goto (tgt := 272) hx hb dX9_differs_408 (by decide) ?_
                                                exact ih272 (k + 1) _ _ _ (by omega) (by omega) (hsh) (fun f a b => if hf9 : f = k then (by rw [hf9]; exact (by (try delta Hid at *); first | exact ⟨by omega, fun a9 b9 => (by exfalso; omega)⟩ | exact ⟨by omega, fun a9 b9 => (by rcases hrdf with ⟨e9, h9⟩ | ⟨e9, h9⟩; exact h9; exfalso; omega)⟩)) else hvk f a (by omega)) hw hS (lv_sub hl [3, 4, 5, 6, 7, 8, 9, 0] rfl)
                                              · refine lv_iconst (v := jI 1) hx hb dX9_differs_374 rfl ?_
                                                refine lv_goto (tgt := 379) hx hb dX9_differs_375 (by decide) ?_
                                                refine lv_istore (lv' := [(11, .int (jI 1)), (9, .long (jL (X21 75 0 ((5 * ((30 * sv) + r)) + k)))), (0, .ref (ad 40 0)), (1, .int (jI sv)), (2, .int (jI x)), (3, .int (jI nz)), (4, .int (jI r)), (5, .int (jI ((30 * sv) + r))), (6, .int (jI (120 + r))), (8, .int (jI k))]) hx hb dX9_differs_379 hl (by decide) rfl (fun ls hl => ?_)
                                                refine lv_iload hx hb dX9_differs_381 (lv_at hl 0 rfl) ?_
                                                refine x_if_eqF (tgt := 405) hx hb (by omega) (by decide) dX9_differs_383 (by decide) ?_
                                                refine lv_bipush (v := jI 100) hx hb dX9_differs_386 (by decide) ?_
                                                refine lv_iload hx hb dX9_differs_388 (lv_at hl 6 rfl) ?_
                                                refine x_imul hx hb dX9_differs_390 ?_
                                                refine lv_aload_n hx hb dX9_differs_391 rfl (lv_at hl 2 rfl) ?_
                                                refine x_geto hx hb hf9 hw (by omega) (by omega) sl_40_32 lk90 dX9_differs_392 ?_
                                                refine lv_iconst (v := jI 5) hx hb dX9_differs_395 rfl ?_
                                                refine lv_iload hx hb dX9_differs_396 (lv_at hl 7 rfl) ?_
                                                refine x_imul hx hb dX9_differs_398 ?_
                                                refine lv_iload hx hb dX9_differs_399 (lv_at hl 9 rfl) ?_
                                                refine x_iadd hx hb dX9_differs_401 ?_
                                                refine x_iald hx hb hK.1 hw (by omega) (by omega) ar_73 (len_E ar_73 (by decide)) (by omega) (by omega) (by omega) dX9_differs_402 ?_
                                                have f353 : 0 ≤ X21 73 0 ((5 * ((30 * sv) + r)) + k) ∧ X21 73 0 ((5 * ((30 * sv) + r)) + k) ≤ 19 := hRX21 73 0 ((5 * ((30 * sv) + r)) + k)
                                                refine x_iadd hx hb dX9_differs_403 ?_
                                                refine ret_i (mc := 0) (ms := 0) hx hb hr hlocks hw hS (by omega) (by omega) dX9_differs_404 ?_
                                                have q354 : Frm [4001] X X1 := by rw [hX1]; exact Frm.set Frm.rf (show 4001 ∈ [4001] by decide)
                                                have hrd355 := rdr_eq (L := [4001]) q354 (by decide)
                                                have hsx356 := hsvX21
                                                rw [hrd355.1, hrd355.2.1, hrd355.2.2, Frm.arr q354 48 (by decide +kernel) (by decide), Frm.arr q354 55 (by decide +kernel) (by decide)] at hsx356
                                                exact ⟨X21, rfl, hRX21, hFX21, hMIX21, by omega, S4.tr (S4.frm q354 (by decide)) h4X21, S5.tr (S5.frm q354 (by decide)) h5X21, Or.inr ⟨(by (try delta Hid at *); omega), (by rcases hsx356 with ⟨-, q, -⟩ | ⟨-, -, q⟩; exact absurd q (by decide); exact q), Or.inr ⟨r, by omega, by omega, hall, Or.inr ⟨hsh, k, by omega, by omega, hvk, (fun q => by (try delta Hid at *); first | (have q1 := q.1; omega) | exact absurd (q.2 (by omega) (by omega)) (by assumption) | (rcases hrdf with ⟨e9, h9⟩ | ⟨e9, h9⟩; omega; exact h9 (q.2 (by omega) (by omega)))), by omega⟩⟩⟩⟩
                                        · refine lv_iconst (v := jI 1) hx hb dX9_differs_316 rfl ?_
                                          refine lv_goto (tgt := 321) hx hb dX9_differs_317 (by decide) ?_
                                          refine lv_istore (lv' := [(11, .int (jI 1)), (9, .long (jL (X21 75 0 ((5 * ((30 * sv) + r)) + k)))), (0, .ref (ad 40 0)), (1, .int (jI sv)), (2, .int (jI x)), (3, .int (jI nz)), (4, .int (jI r)), (5, .int (jI ((30 * sv) + r))), (6, .int (jI (120 + r))), (8, .int (jI k))]) hx hb dX9_differs_321 hl (by decide) rfl (fun ls hl => ?_)
                                          refine lv_iload hx hb dX9_differs_323 (lv_at hl 0 rfl) ?_
                                          refine x_if_neT (tgt := 374) hx hb (by omega) (by decide) dX9_differs_325 (by decide) ?_
                                          refine lv_iconst (v := jI 1) hx hb dX9_differs_374 rfl ?_
                                          refine lv_goto (tgt := 379) hx hb dX9_differs_375 (by decide) ?_
                                          refine lv_istore (lv' := [(11, .int (jI 1)), (9, .long (jL (X21 75 0 ((5 * ((30 * sv) + r)) + k)))), (0, .ref (ad 40 0)), (1, .int (jI sv)), (2, .int (jI x)), (3, .int (jI nz)), (4, .int (jI r)), (5, .int (jI ((30 * sv) + r))), (6, .int (jI (120 + r))), (8, .int (jI k))]) hx hb dX9_differs_379 hl (by decide) rfl (fun ls hl => ?_)
                                          refine lv_iload hx hb dX9_differs_381 (lv_at hl 0 rfl) ?_
                                          refine x_if_eqF (tgt := 405) hx hb (by omega) (by decide) dX9_differs_383 (by decide) ?_
                                          refine lv_bipush (v := jI 100) hx hb dX9_differs_386 (by decide) ?_
                                          refine lv_iload hx hb dX9_differs_388 (lv_at hl 6 rfl) ?_
                                          refine x_imul hx hb dX9_differs_390 ?_
                                          refine lv_aload_n hx hb dX9_differs_391 rfl (lv_at hl 2 rfl) ?_
                                          refine x_geto hx hb hf9 hw (by omega) (by omega) sl_40_32 lk90 dX9_differs_392 ?_
                                          refine lv_iconst (v := jI 5) hx hb dX9_differs_395 rfl ?_
                                          refine lv_iload hx hb dX9_differs_396 (lv_at hl 7 rfl) ?_
                                          refine x_imul hx hb dX9_differs_398 ?_
                                          refine lv_iload hx hb dX9_differs_399 (lv_at hl 9 rfl) ?_
                                          refine x_iadd hx hb dX9_differs_401 ?_
                                          refine x_iald hx hb hK.1 hw (by omega) (by omega) ar_73 (len_E ar_73 (by decide)) (by omega) (by omega) (by omega) dX9_differs_402 ?_
                                          have f357 : 0 ≤ X21 73 0 ((5 * ((30 * sv) + r)) + k) ∧ X21 73 0 ((5 * ((30 * sv) + r)) + k) ≤ 19 := hRX21 73 0 ((5 * ((30 * sv) + r)) + k)
                                          refine x_iadd hx hb dX9_differs_403 ?_
                                          refine ret_i (mc := 0) (ms := 0) hx hb hr hlocks hw hS (by omega) (by omega) dX9_differs_404 ?_
                                          have q358 : Frm [4001] X X1 := by rw [hX1]; exact Frm.set Frm.rf (show 4001 ∈ [4001] by decide)
                                          have hrd359 := rdr_eq (L := [4001]) q358 (by decide)
                                          have hsx360 := hsvX21
                                          rw [hrd359.1, hrd359.2.1, hrd359.2.2, Frm.arr q358 48 (by decide +kernel) (by decide), Frm.arr q358 55 (by decide +kernel) (by decide)] at hsx360
                                          exact ⟨X21, rfl, hRX21, hFX21, hMIX21, by omega, S4.tr (S4.frm q358 (by decide)) h4X21, S5.tr (S5.frm q358 (by decide)) h5X21, Or.inr ⟨(by (try delta Hid at *); omega), (by rcases hsx360 with ⟨-, q, -⟩ | ⟨-, -, q⟩; exact absurd q (by decide); exact q), Or.inr ⟨r, by omega, by omega, hall, Or.inr ⟨hsh, k, by omega, by omega, hvk, (fun q => by (try delta Hid at *); first | (have q1 := q.1; omega) | exact absurd (q.2 (by omega) (by omega)) (by assumption) | (rcases hrdf with ⟨e9, h9⟩ | ⟨e9, h9⟩; omega; exact h9 (q.2 (by omega) (by omega)))), by omega⟩⟩⟩⟩
                                  exact lp272 (5 - 0 : Int).toNat.succ 0 _ _ _ (by omega) (by omega) ((by obtain ⟨q1, q2, q3⟩ := hsm1 (by omega); exact ⟨by omega, by omega, q1, q2, fun j a b => q3 j a (by omega)⟩)) (fun f a b => by omega) hw hS (lv_sub hl [1, 2, 3, 4, 5, 6, 7, 0] rfl)
                                · refine lv_bipush (v := jI 100) hx hb dX9_differs_260 (by decide) ?_
                                  refine lv_iload hx hb dX9_differs_262 (lv_at hl 4 rfl) ?_
                                  refine x_imul hx hb dX9_differs_264 ?_
                                  refine lv_bipush (v := jI 99) hx hb dX9_differs_265 (by decide) ?_
                                  refine x_iadd hx hb dX9_differs_267 ?_
                                  refine ret_i (mc := 0) (ms := 0) hx hb hr hlocks hw hS (by omega) (by omega) dX9_differs_268 ?_
                                  have q361 : Frm [4001] X X1 := by rw [hX1]; exact Frm.set Frm.rf (show 4001 ∈ [4001] by decide)
                                  have hrd362 := rdr_eq (L := [4001]) q361 (by decide)
                                  have hsx363 := hsvX21
                                  rw [hrd362.1, hrd362.2.1, hrd362.2.2, Frm.arr q361 48 (by decide +kernel) (by decide), Frm.arr q361 55 (by decide +kernel) (by decide)] at hsx363
                                  exact ⟨X21, rfl, hRX21, hFX21, hMIX21, by omega, S4.tr (S4.frm q361 (by decide)) h4X21, S5.tr (S5.frm q361 (by decide)) h5X21, Or.inr ⟨(by (try delta Hid at *); omega), (by rcases hsx363 with ⟨-, q, -⟩ | ⟨-, -, q⟩; exact absurd q (by decide); exact q), Or.inr ⟨r, by omega, by omega, hall, Or.inl ⟨hsm0 (by omega), by omega⟩⟩⟩⟩
                              · refine lv_aload_n hx hb dX9_differs_188 rfl (lv_at hl 0 rfl) ?_
                                refine x_geto hx hb hf9 hw (by omega) (by omega) sl_40_32 lk90 dX9_differs_189 ?_
                                refine lv_iconst (v := jI 5) hx hb dX9_differs_192 rfl ?_
                                refine lv_iload hx hb dX9_differs_193 (lv_at hl 5 rfl) ?_
                                refine x_imul hx hb dX9_differs_195 ?_
                                refine lv_iload hx hb dX9_differs_196 (lv_at hl 8 rfl) ?_
                                refine x_iadd hx hb dX9_differs_198 ?_
                                refine x_iald hx hb hK.1 hw (by omega) (by omega) ar_73 (len_E ar_73 (by decide)) (by omega) (by omega) (by omega) dX9_differs_199 ?_
                                have f364 : 0 ≤ X21 73 0 ((5 * ((30 * sv) + r)) + k) ∧ X21 73 0 ((5 * ((30 * sv) + r)) + k) ≤ 19 := hRX21 73 0 ((5 * ((30 * sv) + r)) + k)
                                refine lv_aload_n hx hb dX9_differs_200 rfl (lv_at hl 0 rfl) ?_
                                refine x_geto hx hb hf9 hw (by omega) (by omega) sl_40_32 lk90 dX9_differs_201 ?_
                                refine lv_iconst (v := jI 5) hx hb dX9_differs_204 rfl ?_
                                refine lv_iload hx hb dX9_differs_205 (lv_at hl 6 rfl) ?_
                                refine x_imul hx hb dX9_differs_207 ?_
                                refine lv_iload hx hb dX9_differs_208 (lv_at hl 8 rfl) ?_
                                refine x_iadd hx hb dX9_differs_210 ?_
                                refine x_iald hx hb hK.1 hw (by omega) (by omega) ar_73 (len_E ar_73 (by decide)) (by omega) (by omega) (by omega) dX9_differs_211 ?_
                                have f365 : 0 ≤ X21 73 0 ((5 * (120 + r)) + k) ∧ X21 73 0 ((5 * (120 + r)) + k) ≤ 19 := hRX21 73 0 ((5 * (120 + r)) + k)
                                refine x_icmp_ne (tgt := 246) hx hb (by omega) (by omega) dX9_differs_212 (by decide) (fun c366 => ?_) (fun c366 => ?_)
                                · refine lv_iconst (v := jI 0) hx hb dX9_differs_246 rfl ?_
                                  refine lv_istore (lv' := [(7, .int (jI 0)), (0, .ref (ad 40 0)), (1, .int (jI sv)), (2, .int (jI x)), (3, .int (jI nz)), (4, .int (jI r)), (5, .int (jI ((30 * sv) + r))), (6, .int (jI (120 + r))), (8, .int (jI k))]) hx hb dX9_differs_247 hl (by decide) rfl (fun ls hl => ?_)
                                  refine lv_iinc (v := jI (k + 1)) (lv' := [(8, .int (jI (k + 1))), (7, .int (jI 0)), (0, .ref (ad 40 0)), (1, .int (jI sv)), (2, .int (jI x)), (3, .int (jI nz)), (4, .int (jI r)), (5, .int (jI ((30 * sv) + r))), (6, .int (jI (120 + r)))]) hx hb dX9_differs_249 hl (k := 8) rfl (jI_add _ _) (by decide) rfl (fun ls hl => ?_)
                                  refine lv_goto (tgt := 171) hx hb dX9_differs_252 (by decide) ?_
                                  exact ih171 0 (k + 1) _ _ _ (by omega) (by omega) (by omega) (fun q => (by obtain ⟨q1, q2, q3⟩ := hsm1 (by omega); exact ⟨q1, q2, fun j a b => if hj : j = k then (by rw [hj]; exact ⟨by omega, by omega⟩) else q3 j a (by omega)⟩)) (fun q e => (by have h9 := e.2.2.2.2 k (by omega) (by omega); omega)) hw hS (lv_sub hl [2, 3, 4, 5, 6, 7, 8, 1, 0] rfl)
                                · refine lv_aload_n hx hb dX9_differs_215 rfl (lv_at hl 0 rfl) ?_
                                  refine x_geto hx hb hf9 hw (by omega) (by omega) sl_40_33 lk93 dX9_differs_216 ?_
                                  refine lv_iconst (v := jI 5) hx hb dX9_differs_219 rfl ?_
                                  refine lv_iload hx hb dX9_differs_220 (lv_at hl 5 rfl) ?_
                                  refine x_imul hx hb dX9_differs_222 ?_
                                  refine lv_iload hx hb dX9_differs_223 (lv_at hl 8 rfl) ?_
                                  refine x_iadd hx hb dX9_differs_225 ?_
                                  refine x_iald hx hb hK.1 hw (by omega) (by omega) ar_74 (len_E ar_74 (by decide)) (by omega) (by omega) (by omega) dX9_differs_226 ?_
                                  have f367 : 0 ≤ X21 74 0 ((5 * ((30 * sv) + r)) + k) ∧ X21 74 0 ((5 * ((30 * sv) + r)) + k) ≤ 5 := hRX21 74 0 ((5 * ((30 * sv) + r)) + k)
                                  refine lv_aload_n hx hb dX9_differs_227 rfl (lv_at hl 0 rfl) ?_
                                  refine x_geto hx hb hf9 hw (by omega) (by omega) sl_40_33 lk93 dX9_differs_228 ?_
                                  refine lv_iconst (v := jI 5) hx hb dX9_differs_231 rfl ?_
                                  refine lv_iload hx hb dX9_differs_232 (lv_at hl 6 rfl) ?_
                                  refine x_imul hx hb dX9_differs_234 ?_
                                  refine lv_iload hx hb dX9_differs_235 (lv_at hl 8 rfl) ?_
                                  refine x_iadd hx hb dX9_differs_237 ?_
                                  refine x_iald hx hb hK.1 hw (by omega) (by omega) ar_74 (len_E ar_74 (by decide)) (by omega) (by omega) (by omega) dX9_differs_238 ?_
                                  have f368 : 0 ≤ X21 74 0 ((5 * (120 + r)) + k) ∧ X21 74 0 ((5 * (120 + r)) + k) ≤ 5 := hRX21 74 0 ((5 * (120 + r)) + k)
                                  refine x_icmp_ne (tgt := 246) hx hb (by omega) (by omega) dX9_differs_239 (by decide) (fun c369 => ?_) (fun c369 => ?_)
                                  · refine lv_iconst (v := jI 0) hx hb dX9_differs_246 rfl ?_
                                    refine lv_istore (lv' := [(7, .int (jI 0)), (0, .ref (ad 40 0)), (1, .int (jI sv)), (2, .int (jI x)), (3, .int (jI nz)), (4, .int (jI r)), (5, .int (jI ((30 * sv) + r))), (6, .int (jI (120 + r))), (8, .int (jI k))]) hx hb dX9_differs_247 hl (by decide) rfl (fun ls hl => ?_)
                                    refine lv_iinc (v := jI (k + 1)) (lv' := [(8, .int (jI (k + 1))), (7, .int (jI 0)), (0, .ref (ad 40 0)), (1, .int (jI sv)), (2, .int (jI x)), (3, .int (jI nz)), (4, .int (jI r)), (5, .int (jI ((30 * sv) + r))), (6, .int (jI (120 + r)))]) hx hb dX9_differs_249 hl (k := 8) rfl (jI_add _ _) (by decide) rfl (fun ls hl => ?_)
                                    refine lv_goto (tgt := 171) hx hb dX9_differs_252 (by decide) ?_
                                    exact ih171 0 (k + 1) _ _ _ (by omega) (by omega) (by omega) (fun q => (by obtain ⟨q1, q2, q3⟩ := hsm1 (by omega); exact ⟨q1, q2, fun j a b => if hj : j = k then (by rw [hj]; exact ⟨by omega, by omega⟩) else q3 j a (by omega)⟩)) (fun q e => (by have h9 := e.2.2.2.2 k (by omega) (by omega); omega)) hw hS (lv_sub hl [2, 3, 4, 5, 6, 7, 8, 1, 0] rfl)
                                  · refine lv_iconst (v := jI 1) hx hb dX9_differs_242 rfl ?_
                                    refine lv_goto (tgt := 247) hx hb dX9_differs_243 (by decide) ?_
                                    refine lv_istore (lv' := [(7, .int (jI 1)), (0, .ref (ad 40 0)), (1, .int (jI sv)), (2, .int (jI x)), (3, .int (jI nz)), (4, .int (jI r)), (5, .int (jI ((30 * sv) + r))), (6, .int (jI (120 + r))), (8, .int (jI k))]) hx hb dX9_differs_247 hl (by decide) rfl (fun ls hl => ?_)
                                    refine lv_iinc (v := jI (k + 1)) (lv' := [(8, .int (jI (k + 1))), (7, .int (jI 1)), (0, .ref (ad 40 0)), (1, .int (jI sv)), (2, .int (jI x)), (3, .int (jI nz)), (4, .int (jI r)), (5, .int (jI ((30 * sv) + r))), (6, .int (jI (120 + r)))]) hx hb dX9_differs_249 hl (k := 8) rfl (jI_add _ _) (by decide) rfl (fun ls hl => ?_)
                                    refine lv_goto (tgt := 171) hx hb dX9_differs_252 (by decide) ?_
                                    exact ih171 1 (k + 1) _ _ _ (by omega) (by omega) (by omega) (fun q => (by obtain ⟨q1, q2, q3⟩ := hsm1 (by omega); exact ⟨q1, q2, fun j a b => if hj : j = k then (by rw [hj]; exact ⟨by omega, by omega⟩) else q3 j a (by omega)⟩)) (fun q e => (by have h9 := e.2.2.2.2 k (by omega) (by omega); omega)) hw hS (lv_sub hl [2, 3, 4, 5, 6, 7, 8, 1, 0] rfl)
                        exact lp171 (5 - 0 : Int).toNat.succ 0 0 _ _ _ (by omega) (by omega) (by omega) (fun q => ⟨by omega, by omega, fun j a b => by omega⟩) (fun q e => by obtain ⟨q1, q2, q3, q4, -⟩ := e; omega) hw hS (lv_sub hl [4, 5, 6, 7, 8, 3, 2, 1, 0] rfl)
                      · refine lv_iconst (v := jI 1) hx hb dX9_differs_161 rfl ?_
                        refine lv_goto (tgt := 166) hx hb dX9_differs_162 (by decide) ?_
                        refine lv_istore (lv' := [(7, .int (jI 1)), (6, .int (jI (120 + r))), (5, .int (jI ((30 * sv) + r))), (0, .ref (ad 40 0)), (1, .int (jI sv)), (2, .int (jI x)), (3, .int (jI nz)), (4, .int (jI r))]) hx hb dX9_differs_166 hl (by decide) rfl (fun ls hl => ?_)
                        refine lv_iconst (v := jI 0) hx hb dX9_differs_168 rfl ?_
                        refine lv_istore (lv' := [(8, .int (jI 0)), (7, .int (jI 1)), (6, .int (jI (120 + r))), (5, .int (jI ((30 * sv) + r))), (0, .ref (ad 40 0)), (1, .int (jI sv)), (2, .int (jI x)), (3, .int (jI nz)), (4, .int (jI r))]) hx hb dX9_differs_169 hl (by decide) rfl (fun ls hl => ?_)
                        have lp171 : ∀ (nn : Nat) (sm : Int) (k : Int) (H : Heap) (locs : List Loc) (ls : Array Slot), (5 - k) < (nn : Int) → (0 ≤ sm ∧ sm ≤ 1) → (0 ≤ k ∧ k ≤ 5) → (sm = 1 → X21 71 0 (30 * sv + r) = X21 71 0 (120 + r) ∧ X21 72 0 (30 * sv + r) = X21 72 0 (120 + r) ∧ ∀ j, 0 ≤ j → j < k → X21 73 0 (5 * (30 * sv + r) + j) = X21 73 0 (5 * (120 + r) + j) ∧ X21 74 0 (5 * (30 * sv + r) + j) = X21 74 0 (5 * (120 + r) + j)) → (sm = 0 → ¬ shM X21 sv r) → wd D tc base (ad, cnt, X21, Y, ln) H → va_S (frA base) s.heap H locs → lv_has ls 12 [(0, .ref (ad 40 0)), (1, .int (jI sv)), (2, .int (jI x)), (3, .int (jI nz)), (4, .int (jI r)), (5, .int (jI ((30 * sv) + r))), (6, .int (jI (120 + r))), (7, .int (jI sm)), (8, .int (jI k))] → W p l e ({ frames := 2, cells := 0, slots := 0, locals := 53 } : Room) s m ([.ref (ad 40 0), .int (jI sv), .int (jI x)] : List Value).toArray below meth c H locs 0 0 (MQ below (QI D tc base (fun z u => ∃ X1 : Nat → Int → Int → Int, u = (ad, cnt, X1, Y, ln) ∧ Rng X1 ∧ Frm [4001, 7100, 7200, 7300, 7400, 7500, 8000, 7000, 8100, 7700, 7800, 7900, 7600, 4042, 4043, 4044] X X1 ∧ MInv X1 ∧ (-2147483648 ≤ z ∧ z ≤ 2147483647) ∧ S4 X X1 ∧ S5 X X1 ∧ ((¬ ((0 ≤ sv ∧ sv < 4) ∧ X 70 0 sv ≠ 0 ∧ (0 ≤ x ∧ x < X 40 0 13)) ∧ z = -2) ∨ (((0 ≤ sv ∧ sv < 4) ∧ X 70 0 sv ≠ 0 ∧ (0 ≤ x ∧ x < X 40 0 13)) ∧ (rmT X1 (recR (fcM X) (lnM X) (mRid X) (mRid X) x 30) ∧ rmR X1 (recR (fcM X) (lnM X) (mRid X) (mRid X) x 30) ∧ rmV X1 (recR (fcM X) (lnM X) (mRid X) (mRid X) x 30) (recR (fcM X) (lnM X) (mRid X) (mRid X) x 30 0 0) 0) ∧ dfP (mxM X1 sv) (shM X1 sv) (fun r => X1 72 0 (30 * sv + r)) (vqM X1 sv) (fun r f => X1 73 0 (5 * (30 * sv + r) + f)) z)))) ([.ref (ad 40 0), .int (jI sv), .int (jI x)] : List Value).toArray s 0 0 (frA base)) (F0 m 171 ls []) := by
                          intro nn
                          induction nn with
                          | zero => intro sm k H locs ls hm hsm hk hsm1 hsm0 hw hS hl; exfalso; omega
                          | succ nn ih171 =>
                            intro sm k H locs ls hm hsm hk hsm1 hsm0 hw hS hl
                            skip
                            refine lv_iload hx hb dX9_differs_171 (lv_at hl 7 rfl) ?_
                            refine x_if_eq (tgt := 255) hx hb (by omega) dX9_differs_173 (by decide) (fun c370 => ?_) (fun c370 => ?_)
                            · refine lv_iload hx hb dX9_differs_255 (lv_at hl 7 rfl) ?_
                              refine x_if_ne (tgt := 269) hx hb (by omega) dX9_differs_257 (by decide) (fun c371 => ?_) (fun c371 => ?_)
                              · refine lv_iconst (v := jI 0) hx hb dX9_differs_269 rfl ?_
                                refine lv_istore (lv' := [(8, .int (jI 0)), (0, .ref (ad 40 0)), (1, .int (jI sv)), (2, .int (jI x)), (3, .int (jI nz)), (4, .int (jI r)), (5, .int (jI ((30 * sv) + r))), (6, .int (jI (120 + r))), (7, .int (jI sm))]) hx hb dX9_differs_270 hl (by decide) rfl (fun ls hl => ?_)
                                have lp272 : ∀ (nn : Nat) (k : Int) (H : Heap) (locs : List Loc) (ls : Array Slot), (5 - k) < (nn : Int) → (0 ≤ k ∧ k ≤ 5) → (shM X21 sv r) → (∀ f, 0 ≤ f → f < k → vqM X21 sv r f) → wd D tc base (ad, cnt, X21, Y, ln) H → va_S (frA base) s.heap H locs → lv_has ls 12 [(0, .ref (ad 40 0)), (1, .int (jI sv)), (2, .int (jI x)), (3, .int (jI nz)), (4, .int (jI r)), (5, .int (jI ((30 * sv) + r))), (6, .int (jI (120 + r))), (8, .int (jI k))] → W p l e ({ frames := 2, cells := 0, slots := 0, locals := 53 } : Room) s m ([.ref (ad 40 0), .int (jI sv), .int (jI x)] : List Value).toArray below meth c H locs 0 0 (MQ below (QI D tc base (fun z u => ∃ X1 : Nat → Int → Int → Int, u = (ad, cnt, X1, Y, ln) ∧ Rng X1 ∧ Frm [4001, 7100, 7200, 7300, 7400, 7500, 8000, 7000, 8100, 7700, 7800, 7900, 7600, 4042, 4043, 4044] X X1 ∧ MInv X1 ∧ (-2147483648 ≤ z ∧ z ≤ 2147483647) ∧ S4 X X1 ∧ S5 X X1 ∧ ((¬ ((0 ≤ sv ∧ sv < 4) ∧ X 70 0 sv ≠ 0 ∧ (0 ≤ x ∧ x < X 40 0 13)) ∧ z = -2) ∨ (((0 ≤ sv ∧ sv < 4) ∧ X 70 0 sv ≠ 0 ∧ (0 ≤ x ∧ x < X 40 0 13)) ∧ (rmT X1 (recR (fcM X) (lnM X) (mRid X) (mRid X) x 30) ∧ rmR X1 (recR (fcM X) (lnM X) (mRid X) (mRid X) x 30) ∧ rmV X1 (recR (fcM X) (lnM X) (mRid X) (mRid X) x 30) (recR (fcM X) (lnM X) (mRid X) (mRid X) x 30 0 0) 0) ∧ dfP (mxM X1 sv) (shM X1 sv) (fun r => X1 72 0 (30 * sv + r)) (vqM X1 sv) (fun r f => X1 73 0 (5 * (30 * sv + r) + f)) z)))) ([.ref (ad 40 0), .int (jI sv), .int (jI x)] : List Value).toArray s 0 0 (frA base)) (F0 m 272 ls []) := by
                                  intro nn
                                  induction nn with
                                  | zero => intro k H locs ls hm hk hsh hvk hw hS hl; exfalso; omega
                                  | succ nn ih272 =>
                                    intro k H locs ls hm hk hsh hvk hw hS hl
                                    refine lv_iload hx hb dX9_differs_272 (lv_at hl 7 rfl) ?_
                                    refine lv_aload_n hx hb dX9_differs_274 rfl (lv_at hl 0 rfl) ?_
                                    refine x_geto hx hb hf9 hw (by omega) (by omega) sl_40_31 lk87 dX9_differs_275 ?_
                                    refine lv_iload hx hb dX9_differs_278 (lv_at hl 5 rfl) ?_
                                    refine x_iald hx hb hK.1 hw (by omega) (by omega) ar_72 (len_E ar_72 (by decide)) (by omega) (by omega) (by omega) dX9_differs_280 ?_
                                    have f372 : 0 ≤ X21 72 0 ((30 * sv) + r) ∧ X21 72 0 ((30 * sv) + r) ≤ 5 := hRX21 72 0 ((30 * sv) + r)
                                    refine x_icmp_ge (tgt := 411) hx hb (by omega) (by omega) dX9_differs_281 (by decide) (fun c373 => ?_) (fun c373 => ?_)
                                    · refine lv_iinc (v := jI (r + 1)) (lv' := [(4, .int (jI (r + 1))), (0, .ref (ad 40 0)), (1, .int (jI sv)), (2, .int (jI x)), (3, .int (jI nz)), (5, .int (jI ((30 * sv) + r))), (6, .int (jI (120 + r))), (8, .int (jI k))]) hx hb dX9_differs_411 hl (k := 4) rfl (jI_add _ _) (by decide) rfl (fun ls hl => ?_)
                                      refine lv_goto (tgt := 74) hx hb dX9_differs_414 (by decide) ?_
                                      exact ih74 nz (r + 1) _ _ _ (by omega) (by omega) (by omega) (hnzv) (fun r' a b => if hr9 : r' = r then (by rw [hr9]; exact ⟨hsh, fun f f0 f1 => hvk f f0 (by omega)⟩) else hall r' a (by omega)) hw hS (lv_sub hl [1, 2, 3, 4, 0] rfl)
                                    · refine lv_aload_n hx hb dX9_differs_284 rfl (lv_at hl 0 rfl) ?_
                                      refine x_geto hx hb hf9 hw (by omega) (by omega) sl_40_34 lk96 dX9_differs_285 ?_
                                      refine lv_iconst (v := jI 5) hx hb dX9_differs_288 rfl ?_
                                      refine lv_iload hx hb dX9_differs_289 (lv_at hl 5 rfl) ?_
                                      refine x_imul hx hb dX9_differs_291 ?_
                                      refine lv_iload hx hb dX9_differs_292 (lv_at hl 7 rfl) ?_
                                      refine x_iadd hx hb dX9_differs_294 ?_
                                      obtain ⟨hv1, hv2, hv3⟩ := (hMIX21.2.2.1 sv r (by omega) (by omega) (by omega) (by omega)).2 k (by omega) (by omega)
                                      refine x_lald hx hb hK.1 hw (by omega) (by omega) ar_75 (len_E ar_75 (by decide)) (by omega) (by omega) (by omega) dX9_differs_295 ?_
                                      have f374 : (-9223372036854775808) ≤ X21 75 0 ((5 * ((30 * sv) + r)) + k) ∧ X21 75 0 ((5 * ((30 * sv) + r)) + k) ≤ 9223372036854775807 := hRX21 75 0 ((5 * ((30 * sv) + r)) + k)
                                      refine lv_lstore (lv' := [(9, .long (jL (X21 75 0 ((5 * ((30 * sv) + r)) + k)))), (0, .ref (ad 40 0)), (1, .int (jI sv)), (2, .int (jI x)), (3, .int (jI nz)), (4, .int (jI r)), (5, .int (jI ((30 * sv) + r))), (6, .int (jI (120 + r))), (8, .int (jI k))]) hx hb dX9_differs_296 hl (by decide) rfl (fun ls hl => ?_)
                                      refine lv_lload hx hb dX9_differs_298 (lv_at hl 0 rfl) ?_
                                      refine lv_aload_n hx hb dX9_differs_300 rfl (lv_at hl 1 rfl) ?_
                                      refine x_geto hx hb hf9 hw (by omega) (by omega) sl_40_34 lk96 dX9_differs_301 ?_
                                      refine lv_iconst (v := jI 5) hx hb dX9_differs_304 rfl ?_
                                      refine lv_iload hx hb dX9_differs_305 (lv_at hl 7 rfl) ?_
                                      refine x_imul hx hb dX9_differs_307 ?_
                                      refine lv_iload hx hb dX9_differs_308 (lv_at hl 8 rfl) ?_
                                      refine x_iadd hx hb dX9_differs_310 ?_
                                      refine x_lald hx hb hK.1 hw (by omega) (by omega) ar_75 (len_E ar_75 (by decide)) (by omega) (by omega) (by omega) dX9_differs_311 ?_
                                      have f375 : (-9223372036854775808) ≤ X21 75 0 ((5 * (120 + r)) + k) ∧ X21 75 0 ((5 * (120 + r)) + k) ≤ 9223372036854775807 := hRX21 75 0 ((5 * (120 + r)) + k)
                                      refine x_lcmp hx hb (by omega) (by omega) dX9_differs_312 ?_
                                      obtain ⟨z376, ez376⟩ : ∃ y : Int, y = cmpZ (X21 75 0 ((5 * ((30 * sv) + r)) + k)) (X21 75 0 ((5 * (120 + r)) + k)) := ⟨_, rfl⟩
                                      rw [← ez376]
                                      have gz376 : (z376 < 0 ↔ ((X21 75 0 ((5 * ((30 * sv) + r)) + k)) : Int) < (X21 75 0 ((5 * (120 + r)) + k))) ∧ (z376 = 0 ↔ ((X21 75 0 ((5 * ((30 * sv) + r)) + k)) : Int) = (X21 75 0 ((5 * (120 + r)) + k))) ∧ -1 ≤ z376 ∧ z376 ≤ 1 := by rw [ez376]; exact ⟨cmpZ_lt, cmpZ_eq, (cmpZ_r _ _).1, (cmpZ_r _ _).2⟩
                                      clear ez376
                                      refine x_if_eq (tgt := 320) hx hb (by omega) dX9_differs_313 (by decide) (fun c377 => ?_) (fun c377 => ?_)
                                      · refine lv_iconst (v := jI 0) hx hb dX9_differs_320 rfl ?_
                                        refine lv_istore (lv' := [(11, .int (jI 0)), (9, .long (jL (X21 75 0 ((5 * ((30 * sv) + r)) + k)))), (0, .ref (ad 40 0)), (1, .int (jI sv)), (2, .int (jI x)), (3, .int (jI nz)), (4, .int (jI r)), (5, .int (jI ((30 * sv) + r))), (6, .int (jI (120 + r))), (8, .int (jI k))]) hx hb dX9_differs_321 hl (by decide) rfl (fun ls hl => ?_)
                                        refine lv_iload hx hb dX9_differs_323 (lv_at hl 0 rfl) ?_
                                        refine x_if_neF (tgt := 374) hx hb (by omega) (by decide) dX9_differs_325 (by decide) ?_
                                        refine lv_aload_n hx hb dX9_differs_328 rfl (lv_at hl 2 rfl) ?_
                                        refine x_geto hx hb hf9 hw (by omega) (by omega) sl_40_33 lk93 dX9_differs_329 ?_
                                        refine lv_iconst (v := jI 5) hx hb dX9_differs_332 rfl ?_
                                        refine lv_iload hx hb dX9_differs_333 (lv_at hl 7 rfl) ?_
                                        refine x_imul hx hb dX9_differs_335 ?_
                                        refine lv_iload hx hb dX9_differs_336 (lv_at hl 9 rfl) ?_
                                        refine x_iadd hx hb dX9_differs_338 ?_
                                        refine x_iald hx hb hK.1 hw (by omega) (by omega) ar_74 (len_E ar_74 (by decide)) (by omega) (by omega) (by omega) dX9_differs_339 ?_
                                        have f378 : 0 ≤ X21 74 0 ((5 * ((30 * sv) + r)) + k) ∧ X21 74 0 ((5 * ((30 * sv) + r)) + k) ≤ 5 := hRX21 74 0 ((5 * ((30 * sv) + r)) + k)
                                        refine lv_iconst (v := jI 2) hx hb dX9_differs_340 rfl ?_
                                        refine x_icmp_le (tgt := 378) hx hb (by omega) (by omega) dX9_differs_341 (by decide) (fun c379 => ?_) (fun c379 => ?_)
                                        · refine lv_iconst (v := jI 0) hx hb dX9_differs_378 rfl ?_
                                          refine lv_istore (lv' := [(11, .int (jI 0)), (9, .long (jL (X21 75 0 ((5 * ((30 * sv) + r)) + k)))), (0, .ref (ad 40 0)), (1, .int (jI sv)), (2, .int (jI x)), (3, .int (jI nz)), (4, .int (jI r)), (5, .int (jI ((30 * sv) + r))), (6, .int (jI (120 + r))), (8, .int (jI k))]) hx hb dX9_differs_379 hl (by decide) rfl (fun ls hl => ?_)
                                          refine lv_iload hx hb dX9_differs_381 (lv_at hl 0 rfl) ?_
                                          refine x_if_eqT (tgt := 405) hx hb (by omega) (by decide) dX9_differs_383 (by decide) ?_
                                          refine lv_iinc (v := jI (k + 1)) (lv' := [(8, .int (jI (k + 1))), (11, .int (jI 0)), (9, .long (jL (X21 75 0 ((5 * ((30 * sv) + r)) + k)))), (0, .ref (ad 40 0)), (1, .int (jI sv)), (2, .int (jI x)), (3, .int (jI nz)), (4, .int (jI r)), (5, .int (jI ((30 * sv) + r))), (6, .int (jI (120 + r)))]) hx hb dX9_differs_405 hl (k := 9) rfl (jI_add _ _) (by decide) rfl (fun ls hl => ?_)
                                          refine lv_goto (tgt := 272) hx hb dX9_differs_408 (by decide) ?_
                                          exact ih272 (k + 1) _ _ _ (by omega) (by omega) (hsh) (fun f a b => if hf9 : f = k then (by rw [hf9]; exact (by (try delta Hid at *); first | exact ⟨by omega, fun a9 b9 => (by exfalso; omega)⟩ | exact ⟨by omega, fun a9 b9 => (by rcases hrdf with ⟨e9, h9⟩ | ⟨e9, h9⟩; exact h9; exfalso; omega)⟩)) else hvk f a (by omega)) hw hS (lv_sub hl [3, 4, 5, 6, 7, 8, 9, 0] rfl)
                                        · refine lv_lload hx hb dX9_differs_344 (lv_at hl 1 rfl) ?_
                                          refine lv_lconst (v := jL 0) hx hb dX9_differs_346 (by decide) ?_
                                          refine x_lcmp hx hb (by omega) (by omega) dX9_differs_347 ?_
                                          obtain ⟨z380, ez380⟩ : ∃ y : Int, y = cmpZ (X21 75 0 ((5 * ((30 * sv) + r)) + k)) 0 := ⟨_, rfl⟩
                                          rw [← ez380]
                                          have gz380 : (z380 < 0 ↔ ((X21 75 0 ((5 * ((30 * sv) + r)) + k)) : Int) < 0) ∧ (z380 = 0 ↔ ((X21 75 0 ((5 * ((30 * sv) + r)) + k)) : Int) = 0) ∧ -1 ≤ z380 ∧ z380 ≤ 1 := by rw [ez380]; exact ⟨cmpZ_lt, cmpZ_eq, (cmpZ_r _ _).1, (cmpZ_r _ _).2⟩
                                          clear ez380
                                          refine x_if_lt (tgt := 378) hx hb (by omega) dX9_differs_348 (by decide) (fun c381 => ?_) (fun c381 => ?_)
                                          · refine lv_iconst (v := jI 0) hx hb dX9_differs_378 rfl ?_
                                            refine lv_istore (lv' := [(11, .int (jI 0)), (9, .long (jL (X21 75 0 ((5 * ((30 * sv) + r)) + k)))), (0, .ref (ad 40 0)), (1, .int (jI sv)), (2, .int (jI x)), (3, .int (jI nz)), (4, .int (jI r)), (5, .int (jI ((30 * sv) + r))), (6, .int (jI (120 + r))), (8, .int (jI k))]) hx hb dX9_differs_379 hl (by decide) rfl (fun ls hl => ?_)
                                            refine lv_iload hx hb dX9_differs_381 (lv_at hl 0 rfl) ?_
                                            refine x_if_eqT (tgt := 405) hx hb (by omega) (by decide) dX9_differs_383 (by decide) ?_
                                            refine lv_iinc (v := jI (k + 1)) (lv' := [(8, .int (jI (k + 1))), (11, .int (jI 0)), (9, .long (jL (X21 75 0 ((5 * ((30 * sv) + r)) + k)))), (0, .ref (ad 40 0)), (1, .int (jI sv)), (2, .int (jI x)), (3, .int (jI nz)), (4, .int (jI r)), (5, .int (jI ((30 * sv) + r))), (6, .int (jI (120 + r)))]) hx hb dX9_differs_405 hl (k := 9) rfl (jI_add _ _) (by decide) rfl (fun ls hl => ?_)
                                            refine lv_goto (tgt := 272) hx hb dX9_differs_408 (by decide) ?_
                                            exact ih272 (k + 1) _ _ _ (by omega) (by omega) (hsh) (fun f a b => if hf9 : f = k then (by rw [hf9]; exact (by (try delta Hid at *); first | exact ⟨by omega, fun a9 b9 => (by exfalso; omega)⟩ | exact ⟨by omega, fun a9 b9 => (by rcases hrdf with ⟨e9, h9⟩ | ⟨e9, h9⟩; exact h9; exfalso; omega)⟩)) else hvk f a (by omega)) hw hS (lv_sub hl [3, 4, 5, 6, 7, 8, 9, 0] rfl)
                                          · refine lv_aload_n hx hb dX9_differs_351 rfl (lv_at hl 2 rfl) ?_
                                            refine lv_sipush (v := jI 150) hx hb dX9_differs_352 (by decide) ?_
                                            refine lv_iload_n hx hb dX9_differs_355 rfl (lv_at hl 3 rfl) ?_
                                            refine x_imul hx hb dX9_differs_356 ?_
                                            refine lv_lload hx hb dX9_differs_357 (lv_at hl 1 rfl) ?_
                                            refine x_l2i hx hb dX9_differs_359 ?_
                                            refine x_iadd hx hb dX9_differs_360 ?_
                                            refine lv_sipush (v := jI 600) hx hb dX9_differs_361 (by decide) ?_
                                            refine lv_lload hx hb dX9_differs_364 (lv_at hl 1 rfl) ?_
                                            refine x_l2i hx hb dX9_differs_366 ?_
                                            refine x_iadd hx hb dX9_differs_367 ?_
                                            refine gos_i (run_V (As := [.int (jI ((150 * sv) + (X21 75 0 ((5 * ((30 * sv) + r)) + k)))), .int (jI (600 + (X21 75 0 ((5 * ((30 * sv) + r)) + k))))]) (rest := []) hx hb hml hown hts (c_X9_rowsDiffer l D tc base ad cnt X21 Y ln hRX21 hFx hMIX21 ((150 * sv) + (X21 75 0 ((5 * ((30 * sv) + r)) + k))) (600 + (X21 75 0 ((5 * ((30 * sv) + r)) + k))) (by omega) (by omega)) (cwV 2 hts gX9_differs_X9_rowsDiffer rfl rfl rfl (by decide +kernel) ⟨Nat.le_of_ble_eq_true rfl, Nat.le_of_ble_eq_true rfl⟩) hK hw (by omega) (by omega) sl_40_0 rfl rfl hl.1 rfl (Nat.le_of_ble_eq_true rfl) dX9_differs_368 ⟨Nat.le_of_ble_eq_true rfl, Nat.le_of_ble_eq_true rfl⟩) hS (fun z382 u383 H locs p384 hw hS => ?_)
                                            obtain ⟨eu383, p384, hrdf⟩ := p384
                                            subst eu383
                                            refine x_if_eq (tgt := 378) hx hb (by omega) dX9_differs_371 (by decide) (fun c385 => ?_) (fun c385 => ?_)
                                            · refine lv_iconst (v := jI 0) hx hb dX9_differs_378 rfl ?_
                                              refine lv_istore (lv' := [(11, .int (jI 0)), (9, .long (jL (X21 75 0 ((5 * ((30 * sv) + r)) + k)))), (0, .ref (ad 40 0)), (1, .int (jI sv)), (2, .int (jI x)), (3, .int (jI nz)), (4, .int (jI r)), (5, .int (jI ((30 * sv) + r))), (6, .int (jI (120 + r))), (8, .int (jI k))]) hx hb dX9_differs_379 hl (by decide) rfl (fun ls hl => ?_)
                                              refine lv_iload hx hb dX9_differs_381 (lv_at hl 0 rfl) ?_
                                              refine x_if_eqT (tgt := 405) hx hb (by omega) (by decide) dX9_differs_383 (by decide) ?_
                                              refine lv_iinc (v := jI (k + 1)) (lv' := [(8, .int (jI (k + 1))), (11, .int (jI 0)), (9, .long (jL (X21 75 0 ((5 * ((30 * sv) + r)) + k)))), (0, .ref (ad 40 0)), (1, .int (jI sv)), (2, .int (jI x)), (3, .int (jI nz)), (4, .int (jI r)), (5, .int (jI ((30 * sv) + r))), (6, .int (jI (120 + r)))]) hx hb dX9_differs_405 hl (k := 9) rfl (jI_add _ _) (by decide) rfl (fun ls hl => ?_)
                                              refine lv_goto (tgt := 272) hx hb dX9_differs_408 (by decide) ?_
                                              exact ih272 (k + 1) _ _ _ (by omega) (by omega) (hsh) (fun f a b => if hf9 : f = k then (by rw [hf9]; exact (by (try delta Hid at *); first | exact ⟨by omega, fun a9 b9 => (by exfalso; omega)⟩ | exact ⟨by omega, fun a9 b9 => (by rcases hrdf with ⟨e9, h9⟩ | ⟨e9, h9⟩; exact h9; exfalso; omega)⟩)) else hvk f a (by omega)) hw hS (lv_sub hl [3, 4, 5, 6, 7, 8, 9, 0] rfl)
                                            · refine lv_iconst (v := jI 1) hx hb dX9_differs_374 rfl ?_
                                              refine lv_goto (tgt := 379) hx hb dX9_differs_375 (by decide) ?_
                                              refine lv_istore (lv' := [(11, .int (jI 1)), (9, .long (jL (X21 75 0 ((5 * ((30 * sv) + r)) + k)))), (0, .ref (ad 40 0)), (1, .int (jI sv)), (2, .int (jI x)), (3, .int (jI nz)), (4, .int (jI r)), (5, .int (jI ((30 * sv) + r))), (6, .int (jI (120 + r))), (8, .int (jI k))]) hx hb dX9_differs_379 hl (by decide) rfl (fun ls hl => ?_)
                                              refine lv_iload hx hb dX9_differs_381 (lv_at hl 0 rfl) ?_
                                              refine x_if_eqF (tgt := 405) hx hb (by omega) (by decide) dX9_differs_383 (by decide) ?_
                                              refine lv_bipush (v := jI 100) hx hb dX9_differs_386 (by decide) ?_
                                              refine lv_iload hx hb dX9_differs_388 (lv_at hl 6 rfl) ?_
                                              refine x_imul hx hb dX9_differs_390 ?_
                                              refine lv_aload_n hx hb dX9_differs_391 rfl (lv_at hl 2 rfl) ?_
                                              refine x_geto hx hb hf9 hw (by omega) (by omega) sl_40_32 lk90 dX9_differs_392 ?_
                                              refine lv_iconst (v := jI 5) hx hb dX9_differs_395 rfl ?_
                                              refine lv_iload hx hb dX9_differs_396 (lv_at hl 7 rfl) ?_
                                              refine x_imul hx hb dX9_differs_398 ?_
                                              refine lv_iload hx hb dX9_differs_399 (lv_at hl 9 rfl) ?_
                                              refine x_iadd hx hb dX9_differs_401 ?_
                                              refine x_iald hx hb hK.1 hw (by omega) (by omega) ar_73 (len_E ar_73 (by decide)) (by omega) (by omega) (by omega) dX9_differs_402 ?_
                                              have f386 : 0 ≤ X21 73 0 ((5 * ((30 * sv) + r)) + k) ∧ X21 73 0 ((5 * ((30 * sv) + r)) + k) ≤ 19 := hRX21 73 0 ((5 * ((30 * sv) + r)) + k)
                                              refine x_iadd hx hb dX9_differs_403 ?_
                                              refine ret_i (mc := 0) (ms := 0) hx hb hr hlocks hw hS (by omega) (by omega) dX9_differs_404 ?_
                                              have q387 : Frm [4001] X X1 := by rw [hX1]; exact Frm.set Frm.rf (show 4001 ∈ [4001] by decide)
                                              have hrd388 := rdr_eq (L := [4001]) q387 (by decide)
                                              have hsx389 := hsvX21
                                              rw [hrd388.1, hrd388.2.1, hrd388.2.2, Frm.arr q387 48 (by decide +kernel) (by decide), Frm.arr q387 55 (by decide +kernel) (by decide)] at hsx389
                                              exact ⟨X21, rfl, hRX21, hFX21, hMIX21, by omega, S4.tr (S4.frm q387 (by decide)) h4X21, S5.tr (S5.frm q387 (by decide)) h5X21, Or.inr ⟨(by (try delta Hid at *); omega), (by rcases hsx389 with ⟨-, q, -⟩ | ⟨-, -, q⟩; exact absurd q (by decide); exact q), Or.inr ⟨r, by omega, by omega, hall, Or.inr ⟨hsh, k, by omega, by omega, hvk, (fun q => by (try delta Hid at *); first | (have q1 := q.1; omega) | exact absurd (q.2 (by omega) (by omega)) (by assumption) | (rcases hrdf with ⟨e9, h9⟩ | ⟨e9, h9⟩; omega; exact h9 (q.2 (by omega) (by omega)))), by omega⟩⟩⟩⟩
                                      · refine lv_iconst (v := jI 1) hx hb dX9_differs_316 rfl ?_
                                        refine lv_goto (tgt := 321) hx hb dX9_differs_317 (by decide) ?_
                                        refine lv_istore (lv' := [(11, .int (jI 1)), (9, .long (jL (X21 75 0 ((5 * ((30 * sv) + r)) + k)))), (0, .ref (ad 40 0)), (1, .int (jI sv)), (2, .int (jI x)), (3, .int (jI nz)), (4, .int (jI r)), (5, .int (jI ((30 * sv) + r))), (6, .int (jI (120 + r))), (8, .int (jI k))]) hx hb dX9_differs_321 hl (by decide) rfl (fun ls hl => ?_)
                                        refine lv_iload hx hb dX9_differs_323 (lv_at hl 0 rfl) ?_
                                        refine x_if_neT (tgt := 374) hx hb (by omega) (by decide) dX9_differs_325 (by decide) ?_
                                        refine lv_iconst (v := jI 1) hx hb dX9_differs_374 rfl ?_
                                        refine lv_goto (tgt := 379) hx hb dX9_differs_375 (by decide) ?_
                                        refine lv_istore (lv' := [(11, .int (jI 1)), (9, .long (jL (X21 75 0 ((5 * ((30 * sv) + r)) + k)))), (0, .ref (ad 40 0)), (1, .int (jI sv)), (2, .int (jI x)), (3, .int (jI nz)), (4, .int (jI r)), (5, .int (jI ((30 * sv) + r))), (6, .int (jI (120 + r))), (8, .int (jI k))]) hx hb dX9_differs_379 hl (by decide) rfl (fun ls hl => ?_)
                                        refine lv_iload hx hb dX9_differs_381 (lv_at hl 0 rfl) ?_
                                        refine x_if_eqF (tgt := 405) hx hb (by omega) (by decide) dX9_differs_383 (by decide) ?_
                                        refine lv_bipush (v := jI 100) hx hb dX9_differs_386 (by decide) ?_
                                        refine lv_iload hx hb dX9_differs_388 (lv_at hl 6 rfl) ?_
                                        refine x_imul hx hb dX9_differs_390 ?_
                                        refine lv_aload_n hx hb dX9_differs_391 rfl (lv_at hl 2 rfl) ?_
                                        refine x_geto hx hb hf9 hw (by omega) (by omega) sl_40_32 lk90 dX9_differs_392 ?_
                                        refine lv_iconst (v := jI 5) hx hb dX9_differs_395 rfl ?_
                                        refine lv_iload hx hb dX9_differs_396 (lv_at hl 7 rfl) ?_
                                        refine x_imul hx hb dX9_differs_398 ?_
                                        refine lv_iload hx hb dX9_differs_399 (lv_at hl 9 rfl) ?_
                                        refine x_iadd hx hb dX9_differs_401 ?_
                                        refine x_iald hx hb hK.1 hw (by omega) (by omega) ar_73 (len_E ar_73 (by decide)) (by omega) (by omega) (by omega) dX9_differs_402 ?_
                                        have f390 : 0 ≤ X21 73 0 ((5 * ((30 * sv) + r)) + k) ∧ X21 73 0 ((5 * ((30 * sv) + r)) + k) ≤ 19 := hRX21 73 0 ((5 * ((30 * sv) + r)) + k)
                                        refine x_iadd hx hb dX9_differs_403 ?_
                                        refine ret_i (mc := 0) (ms := 0) hx hb hr hlocks hw hS (by omega) (by omega) dX9_differs_404 ?_
                                        have q391 : Frm [4001] X X1 := by rw [hX1]; exact Frm.set Frm.rf (show 4001 ∈ [4001] by decide)
                                        have hrd392 := rdr_eq (L := [4001]) q391 (by decide)
                                        have hsx393 := hsvX21
                                        rw [hrd392.1, hrd392.2.1, hrd392.2.2, Frm.arr q391 48 (by decide +kernel) (by decide), Frm.arr q391 55 (by decide +kernel) (by decide)] at hsx393
                                        exact ⟨X21, rfl, hRX21, hFX21, hMIX21, by omega, S4.tr (S4.frm q391 (by decide)) h4X21, S5.tr (S5.frm q391 (by decide)) h5X21, Or.inr ⟨(by (try delta Hid at *); omega), (by rcases hsx393 with ⟨-, q, -⟩ | ⟨-, -, q⟩; exact absurd q (by decide); exact q), Or.inr ⟨r, by omega, by omega, hall, Or.inr ⟨hsh, k, by omega, by omega, hvk, (fun q => by (try delta Hid at *); first | (have q1 := q.1; omega) | exact absurd (q.2 (by omega) (by omega)) (by assumption) | (rcases hrdf with ⟨e9, h9⟩ | ⟨e9, h9⟩; omega; exact h9 (q.2 (by omega) (by omega)))), by omega⟩⟩⟩⟩
                                exact lp272 (5 - 0 : Int).toNat.succ 0 _ _ _ (by omega) (by omega) ((by obtain ⟨q1, q2, q3⟩ := hsm1 (by omega); exact ⟨by omega, by omega, q1, q2, fun j a b => q3 j a (by omega)⟩)) (fun f a b => by omega) hw hS (lv_sub hl [1, 2, 3, 4, 5, 6, 7, 0] rfl)
                              · refine lv_bipush (v := jI 100) hx hb dX9_differs_260 (by decide) ?_
                                refine lv_iload hx hb dX9_differs_262 (lv_at hl 4 rfl) ?_
                                refine x_imul hx hb dX9_differs_264 ?_
                                refine lv_bipush (v := jI 99) hx hb dX9_differs_265 (by decide) ?_
                                refine x_iadd hx hb dX9_differs_267 ?_
                                refine ret_i (mc := 0) (ms := 0) hx hb hr hlocks hw hS (by omega) (by omega) dX9_differs_268 ?_
                                have q394 : Frm [4001] X X1 := by rw [hX1]; exact Frm.set Frm.rf (show 4001 ∈ [4001] by decide)
                                have hrd395 := rdr_eq (L := [4001]) q394 (by decide)
                                have hsx396 := hsvX21
                                rw [hrd395.1, hrd395.2.1, hrd395.2.2, Frm.arr q394 48 (by decide +kernel) (by decide), Frm.arr q394 55 (by decide +kernel) (by decide)] at hsx396
                                exact ⟨X21, rfl, hRX21, hFX21, hMIX21, by omega, S4.tr (S4.frm q394 (by decide)) h4X21, S5.tr (S5.frm q394 (by decide)) h5X21, Or.inr ⟨(by (try delta Hid at *); omega), (by rcases hsx396 with ⟨-, q, -⟩ | ⟨-, -, q⟩; exact absurd q (by decide); exact q), Or.inr ⟨r, by omega, by omega, hall, Or.inl ⟨hsm0 (by omega), by omega⟩⟩⟩⟩
                            · refine lv_iload hx hb dX9_differs_176 (lv_at hl 8 rfl) ?_
                              refine lv_aload_n hx hb dX9_differs_178 rfl (lv_at hl 0 rfl) ?_
                              refine x_geto hx hb hf9 hw (by omega) (by omega) sl_40_31 lk87 dX9_differs_179 ?_
                              refine lv_iload hx hb dX9_differs_182 (lv_at hl 5 rfl) ?_
                              refine x_iald hx hb hK.1 hw (by omega) (by omega) ar_72 (len_E ar_72 (by decide)) (by omega) (by omega) (by omega) dX9_differs_184 ?_
                              have f397 : 0 ≤ X21 72 0 ((30 * sv) + r) ∧ X21 72 0 ((30 * sv) + r) ≤ 5 := hRX21 72 0 ((30 * sv) + r)
                              refine x_icmp_ge (tgt := 255) hx hb (by omega) (by omega) dX9_differs_185 (by decide) (fun c398 => ?_) (fun c398 => ?_)
                              · refine lv_iload hx hb dX9_differs_255 (lv_at hl 7 rfl) ?_
                                refine x_if_ne (tgt := 269) hx hb (by omega) dX9_differs_257 (by decide) (fun c399 => ?_) (fun c399 => ?_)
                                · refine lv_iconst (v := jI 0) hx hb dX9_differs_269 rfl ?_
                                  refine lv_istore (lv' := [(8, .int (jI 0)), (0, .ref (ad 40 0)), (1, .int (jI sv)), (2, .int (jI x)), (3, .int (jI nz)), (4, .int (jI r)), (5, .int (jI ((30 * sv) + r))), (6, .int (jI (120 + r))), (7, .int (jI sm))]) hx hb dX9_differs_270 hl (by decide) rfl (fun ls hl => ?_)
                                  have lp272 : ∀ (nn : Nat) (k : Int) (H : Heap) (locs : List Loc) (ls : Array Slot), (5 - k) < (nn : Int) → (0 ≤ k ∧ k ≤ 5) → (shM X21 sv r) → (∀ f, 0 ≤ f → f < k → vqM X21 sv r f) → wd D tc base (ad, cnt, X21, Y, ln) H → va_S (frA base) s.heap H locs → lv_has ls 12 [(0, .ref (ad 40 0)), (1, .int (jI sv)), (2, .int (jI x)), (3, .int (jI nz)), (4, .int (jI r)), (5, .int (jI ((30 * sv) + r))), (6, .int (jI (120 + r))), (8, .int (jI k))] → W p l e ({ frames := 2, cells := 0, slots := 0, locals := 53 } : Room) s m ([.ref (ad 40 0), .int (jI sv), .int (jI x)] : List Value).toArray below meth c H locs 0 0 (MQ below (QI D tc base (fun z u => ∃ X1 : Nat → Int → Int → Int, u = (ad, cnt, X1, Y, ln) ∧ Rng X1 ∧ Frm [4001, 7100, 7200, 7300, 7400, 7500, 8000, 7000, 8100, 7700, 7800, 7900, 7600, 4042, 4043, 4044] X X1 ∧ MInv X1 ∧ (-2147483648 ≤ z ∧ z ≤ 2147483647) ∧ S4 X X1 ∧ S5 X X1 ∧ ((¬ ((0 ≤ sv ∧ sv < 4) ∧ X 70 0 sv ≠ 0 ∧ (0 ≤ x ∧ x < X 40 0 13)) ∧ z = -2) ∨ (((0 ≤ sv ∧ sv < 4) ∧ X 70 0 sv ≠ 0 ∧ (0 ≤ x ∧ x < X 40 0 13)) ∧ (rmT X1 (recR (fcM X) (lnM X) (mRid X) (mRid X) x 30) ∧ rmR X1 (recR (fcM X) (lnM X) (mRid X) (mRid X) x 30) ∧ rmV X1 (recR (fcM X) (lnM X) (mRid X) (mRid X) x 30) (recR (fcM X) (lnM X) (mRid X) (mRid X) x 30 0 0) 0) ∧ dfP (mxM X1 sv) (shM X1 sv) (fun r => X1 72 0 (30 * sv + r)) (vqM X1 sv) (fun r f => X1 73 0 (5 * (30 * sv + r) + f)) z)))) ([.ref (ad 40 0), .int (jI sv), .int (jI x)] : List Value).toArray s 0 0 (frA base)) (F0 m 272 ls []) := by
                                    intro nn
                                    induction nn with
                                    | zero => intro k H locs ls hm hk hsh hvk hw hS hl; exfalso; omega
                                    | succ nn ih272 =>
                                      intro k H locs ls hm hk hsh hvk hw hS hl
                                      refine lv_iload hx hb dX9_differs_272 (lv_at hl 7 rfl) ?_
                                      refine lv_aload_n hx hb dX9_differs_274 rfl (lv_at hl 0 rfl) ?_
                                      refine x_geto hx hb hf9 hw (by omega) (by omega) sl_40_31 lk87 dX9_differs_275 ?_
                                      refine lv_iload hx hb dX9_differs_278 (lv_at hl 5 rfl) ?_
                                      refine x_iald hx hb hK.1 hw (by omega) (by omega) ar_72 (len_E ar_72 (by decide)) (by omega) (by omega) (by omega) dX9_differs_280 ?_
                                      have f400 : 0 ≤ X21 72 0 ((30 * sv) + r) ∧ X21 72 0 ((30 * sv) + r) ≤ 5 := hRX21 72 0 ((30 * sv) + r)
                                      refine x_icmp_ge (tgt := 411) hx hb (by omega) (by omega) dX9_differs_281 (by decide) (fun c401 => ?_) (fun c401 => ?_)
                                      · refine lv_iinc (v := jI (r + 1)) (lv' := [(4, .int (jI (r + 1))), (0, .ref (ad 40 0)), (1, .int (jI sv)), (2, .int (jI x)), (3, .int (jI nz)), (5, .int (jI ((30 * sv) + r))), (6, .int (jI (120 + r))), (8, .int (jI k))]) hx hb dX9_differs_411 hl (k := 4) rfl (jI_add _ _) (by decide) rfl (fun ls hl => ?_)
                                        refine lv_goto (tgt := 74) hx hb dX9_differs_414 (by decide) ?_
                                        exact ih74 nz (r + 1) _ _ _ (by omega) (by omega) (by omega) (hnzv) (fun r' a b => if hr9 : r' = r then (by rw [hr9]; exact ⟨hsh, fun f f0 f1 => hvk f f0 (by omega)⟩) else hall r' a (by omega)) hw hS (lv_sub hl [1, 2, 3, 4, 0] rfl)
                                      · refine lv_aload_n hx hb dX9_differs_284 rfl (lv_at hl 0 rfl) ?_
                                        refine x_geto hx hb hf9 hw (by omega) (by omega) sl_40_34 lk96 dX9_differs_285 ?_
                                        refine lv_iconst (v := jI 5) hx hb dX9_differs_288 rfl ?_
                                        refine lv_iload hx hb dX9_differs_289 (lv_at hl 5 rfl) ?_
                                        refine x_imul hx hb dX9_differs_291 ?_
                                        refine lv_iload hx hb dX9_differs_292 (lv_at hl 7 rfl) ?_
                                        refine x_iadd hx hb dX9_differs_294 ?_
                                        obtain ⟨hv1, hv2, hv3⟩ := (hMIX21.2.2.1 sv r (by omega) (by omega) (by omega) (by omega)).2 k (by omega) (by omega)
                                        refine x_lald hx hb hK.1 hw (by omega) (by omega) ar_75 (len_E ar_75 (by decide)) (by omega) (by omega) (by omega) dX9_differs_295 ?_
                                        have f402 : (-9223372036854775808) ≤ X21 75 0 ((5 * ((30 * sv) + r)) + k) ∧ X21 75 0 ((5 * ((30 * sv) + r)) + k) ≤ 9223372036854775807 := hRX21 75 0 ((5 * ((30 * sv) + r)) + k)
                                        refine lv_lstore (lv' := [(9, .long (jL (X21 75 0 ((5 * ((30 * sv) + r)) + k)))), (0, .ref (ad 40 0)), (1, .int (jI sv)), (2, .int (jI x)), (3, .int (jI nz)), (4, .int (jI r)), (5, .int (jI ((30 * sv) + r))), (6, .int (jI (120 + r))), (8, .int (jI k))]) hx hb dX9_differs_296 hl (by decide) rfl (fun ls hl => ?_)
                                        refine lv_lload hx hb dX9_differs_298 (lv_at hl 0 rfl) ?_
                                        refine lv_aload_n hx hb dX9_differs_300 rfl (lv_at hl 1 rfl) ?_
                                        refine x_geto hx hb hf9 hw (by omega) (by omega) sl_40_34 lk96 dX9_differs_301 ?_
                                        refine lv_iconst (v := jI 5) hx hb dX9_differs_304 rfl ?_
                                        refine lv_iload hx hb dX9_differs_305 (lv_at hl 7 rfl) ?_
                                        refine x_imul hx hb dX9_differs_307 ?_
                                        refine lv_iload hx hb dX9_differs_308 (lv_at hl 8 rfl) ?_
                                        refine x_iadd hx hb dX9_differs_310 ?_
                                        refine x_lald hx hb hK.1 hw (by omega) (by omega) ar_75 (len_E ar_75 (by decide)) (by omega) (by omega) (by omega) dX9_differs_311 ?_
                                        have f403 : (-9223372036854775808) ≤ X21 75 0 ((5 * (120 + r)) + k) ∧ X21 75 0 ((5 * (120 + r)) + k) ≤ 9223372036854775807 := hRX21 75 0 ((5 * (120 + r)) + k)
                                        refine x_lcmp hx hb (by omega) (by omega) dX9_differs_312 ?_
                                        obtain ⟨z404, ez404⟩ : ∃ y : Int, y = cmpZ (X21 75 0 ((5 * ((30 * sv) + r)) + k)) (X21 75 0 ((5 * (120 + r)) + k)) := ⟨_, rfl⟩
                                        rw [← ez404]
                                        have gz404 : (z404 < 0 ↔ ((X21 75 0 ((5 * ((30 * sv) + r)) + k)) : Int) < (X21 75 0 ((5 * (120 + r)) + k))) ∧ (z404 = 0 ↔ ((X21 75 0 ((5 * ((30 * sv) + r)) + k)) : Int) = (X21 75 0 ((5 * (120 + r)) + k))) ∧ -1 ≤ z404 ∧ z404 ≤ 1 := by rw [ez404]; exact ⟨cmpZ_lt, cmpZ_eq, (cmpZ_r _ _).1, (cmpZ_r _ _).2⟩
                                        clear ez404
                                        refine x_if_eq (tgt := 320) hx hb (by omega) dX9_differs_313 (by decide) (fun c405 => ?_) (fun c405 => ?_)
                                        · refine lv_iconst (v := jI 0) hx hb dX9_differs_320 rfl ?_
                                          refine lv_istore (lv' := [(11, .int (jI 0)), (9, .long (jL (X21 75 0 ((5 * ((30 * sv) + r)) + k)))), (0, .ref (ad 40 0)), (1, .int (jI sv)), (2, .int (jI x)), (3, .int (jI nz)), (4, .int (jI r)), (5, .int (jI ((30 * sv) + r))), (6, .int (jI (120 + r))), (8, .int (jI k))]) hx hb dX9_differs_321 hl (by decide) rfl (fun ls hl => ?_)
                                          refine lv_iload hx hb dX9_differs_323 (lv_at hl 0 rfl) ?_
                                          refine x_if_neF (tgt := 374) hx hb (by omega) (by decide) dX9_differs_325 (by decide) ?_
                                          refine lv_aload_n hx hb dX9_differs_328 rfl (lv_at hl 2 rfl) ?_
                                          refine x_geto hx hb hf9 hw (by omega) (by omega) sl_40_33 lk93 dX9_differs_329 ?_
                                          refine lv_iconst (v := jI 5) hx hb dX9_differs_332 rfl ?_
                                          refine lv_iload hx hb dX9_differs_333 (lv_at hl 7 rfl) ?_
                                          refine x_imul hx hb dX9_differs_335 ?_
                                          refine lv_iload hx hb dX9_differs_336 (lv_at hl 9 rfl) ?_
                                          refine x_iadd hx hb dX9_differs_338 ?_
                                          refine x_iald hx hb hK.1 hw (by omega) (by omega) ar_74 (len_E ar_74 (by decide)) (by omega) (by omega) (by omega) dX9_differs_339 ?_
                                          have f406 : 0 ≤ X21 74 0 ((5 * ((30 * sv) + r)) + k) ∧ X21 74 0 ((5 * ((30 * sv) + r)) + k) ≤ 5 := hRX21 74 0 ((5 * ((30 * sv) + r)) + k)
                                          refine lv_iconst (v := jI 2) hx hb dX9_differs_340 rfl ?_
                                          refine x_icmp_le (tgt := 378) hx hb (by omega) (by omega) dX9_differs_341 (by decide) (fun c407 => ?_) (fun c407 => ?_)
                                          · refine lv_iconst (v := jI 0) hx hb dX9_differs_378 rfl ?_
                                            refine lv_istore (lv' := [(11, .int (jI 0)), (9, .long (jL (X21 75 0 ((5 * ((30 * sv) + r)) + k)))), (0, .ref (ad 40 0)), (1, .int (jI sv)), (2, .int (jI x)), (3, .int (jI nz)), (4, .int (jI r)), (5, .int (jI ((30 * sv) + r))), (6, .int (jI (120 + r))), (8, .int (jI k))]) hx hb dX9_differs_379 hl (by decide) rfl (fun ls hl => ?_)
                                            refine lv_iload hx hb dX9_differs_381 (lv_at hl 0 rfl) ?_
                                            refine x_if_eqT (tgt := 405) hx hb (by omega) (by decide) dX9_differs_383 (by decide) ?_
                                            refine lv_iinc (v := jI (k + 1)) (lv' := [(8, .int (jI (k + 1))), (11, .int (jI 0)), (9, .long (jL (X21 75 0 ((5 * ((30 * sv) + r)) + k)))), (0, .ref (ad 40 0)), (1, .int (jI sv)), (2, .int (jI x)), (3, .int (jI nz)), (4, .int (jI r)), (5, .int (jI ((30 * sv) + r))), (6, .int (jI (120 + r)))]) hx hb dX9_differs_405 hl (k := 9) rfl (jI_add _ _) (by decide) rfl (fun ls hl => ?_)
                                            refine lv_goto (tgt := 272) hx hb dX9_differs_408 (by decide) ?_
                                            exact ih272 (k + 1) _ _ _ (by omega) (by omega) (hsh) (fun f a b => if hf9 : f = k then (by rw [hf9]; exact (by (try delta Hid at *); first | exact ⟨by omega, fun a9 b9 => (by exfalso; omega)⟩ | exact ⟨by omega, fun a9 b9 => (by rcases hrdf with ⟨e9, h9⟩ | ⟨e9, h9⟩; exact h9; exfalso; omega)⟩)) else hvk f a (by omega)) hw hS (lv_sub hl [3, 4, 5, 6, 7, 8, 9, 0] rfl)
                                          · refine lv_lload hx hb dX9_differs_344 (lv_at hl 1 rfl) ?_
                                            refine lv_lconst (v := jL 0) hx hb dX9_differs_346 (by decide) ?_
                                            refine x_lcmp hx hb (by omega) (by omega) dX9_differs_347 ?_
                                            obtain ⟨z408, ez408⟩ : ∃ y : Int, y = cmpZ (X21 75 0 ((5 * ((30 * sv) + r)) + k)) 0 := ⟨_, rfl⟩
                                            rw [← ez408]
                                            have gz408 : (z408 < 0 ↔ ((X21 75 0 ((5 * ((30 * sv) + r)) + k)) : Int) < 0) ∧ (z408 = 0 ↔ ((X21 75 0 ((5 * ((30 * sv) + r)) + k)) : Int) = 0) ∧ -1 ≤ z408 ∧ z408 ≤ 1 := by rw [ez408]; exact ⟨cmpZ_lt, cmpZ_eq, (cmpZ_r _ _).1, (cmpZ_r _ _).2⟩
                                            clear ez408
                                            refine x_if_lt (tgt := 378) hx hb (by omega) dX9_differs_348 (by decide) (fun c409 => ?_) (fun c409 => ?_)
                                            · refine lv_iconst (v := jI 0) hx hb dX9_differs_378 rfl ?_
                                              refine lv_istore (lv' := [(11, .int (jI 0)), (9, .long (jL (X21 75 0 ((5 * ((30 * sv) + r)) + k)))), (0, .ref (ad 40 0)), (1, .int (jI sv)), (2, .int (jI x)), (3, .int (jI nz)), (4, .int (jI r)), (5, .int (jI ((30 * sv) + r))), (6, .int (jI (120 + r))), (8, .int (jI k))]) hx hb dX9_differs_379 hl (by decide) rfl (fun ls hl => ?_)
                                              refine lv_iload hx hb dX9_differs_381 (lv_at hl 0 rfl) ?_
                                              refine x_if_eqT (tgt := 405) hx hb (by omega) (by decide) dX9_differs_383 (by decide) ?_
                                              refine lv_iinc (v := jI (k + 1)) (lv' := [(8, .int (jI (k + 1))), (11, .int (jI 0)), (9, .long (jL (X21 75 0 ((5 * ((30 * sv) + r)) + k)))), (0, .ref (ad 40 0)), (1, .int (jI sv)), (2, .int (jI x)), (3, .int (jI nz)), (4, .int (jI r)), (5, .int (jI ((30 * sv) + r))), (6, .int (jI (120 + r)))]) hx hb dX9_differs_405 hl (k := 9) rfl (jI_add _ _) (by decide) rfl (fun ls hl => ?_)
                                              refine lv_goto (tgt := 272) hx hb dX9_differs_408 (by decide) ?_
                                              exact ih272 (k + 1) _ _ _ (by omega) (by omega) (hsh) (fun f a b => if hf9 : f = k then (by rw [hf9]; exact (by (try delta Hid at *); first | exact ⟨by omega, fun a9 b9 => (by exfalso; omega)⟩ | exact ⟨by omega, fun a9 b9 => (by rcases hrdf with ⟨e9, h9⟩ | ⟨e9, h9⟩; exact h9; exfalso; omega)⟩)) else hvk f a (by omega)) hw hS (lv_sub hl [3, 4, 5, 6, 7, 8, 9, 0] rfl)
                                            · refine lv_aload_n hx hb dX9_differs_351 rfl (lv_at hl 2 rfl) ?_
                                              refine lv_sipush (v := jI 150) hx hb dX9_differs_352 (by decide) ?_
                                              refine lv_iload_n hx hb dX9_differs_355 rfl (lv_at hl 3 rfl) ?_
                                              refine x_imul hx hb dX9_differs_356 ?_
                                              refine lv_lload hx hb dX9_differs_357 (lv_at hl 1 rfl) ?_
                                              refine x_l2i hx hb dX9_differs_359 ?_
                                              refine x_iadd hx hb dX9_differs_360 ?_
                                              refine lv_sipush (v := jI 600) hx hb dX9_differs_361 (by decide) ?_
                                              refine lv_lload hx hb dX9_differs_364 (lv_at hl 1 rfl) ?_
                                              refine x_l2i hx hb dX9_differs_366 ?_
                                              refine x_iadd hx hb dX9_differs_367 ?_
                                              refine gos_i (run_V (As := [.int (jI ((150 * sv) + (X21 75 0 ((5 * ((30 * sv) + r)) + k)))), .int (jI (600 + (X21 75 0 ((5 * ((30 * sv) + r)) + k))))]) (rest := []) hx hb hml hown hts (c_X9_rowsDiffer l D tc base ad cnt X21 Y ln hRX21 hFx hMIX21 ((150 * sv) + (X21 75 0 ((5 * ((30 * sv) + r)) + k))) (600 + (X21 75 0 ((5 * ((30 * sv) + r)) + k))) (by omega) (by omega)) (cwV 2 hts gX9_differs_X9_rowsDiffer rfl rfl rfl (by decide +kernel) ⟨Nat.le_of_ble_eq_true rfl, Nat.le_of_ble_eq_true rfl⟩) hK hw (by omega) (by omega) sl_40_0 rfl rfl hl.1 rfl (Nat.le_of_ble_eq_true rfl) dX9_differs_368 ⟨Nat.le_of_ble_eq_true rfl, Nat.le_of_ble_eq_true rfl⟩) hS (fun z410 u411 H locs p412 hw hS => ?_)
                                              obtain ⟨eu411, p412, hrdf⟩ := p412
                                              subst eu411
                                              refine x_if_eq (tgt := 378) hx hb (by omega) dX9_differs_371 (by decide) (fun c413 => ?_) (fun c413 => ?_)
                                              · refine lv_iconst (v := jI 0) hx hb dX9_differs_378 rfl ?_
                                                refine lv_istore (lv' := [(11, .int (jI 0)), (9, .long (jL (X21 75 0 ((5 * ((30 * sv) + r)) + k)))), (0, .ref (ad 40 0)), (1, .int (jI sv)), (2, .int (jI x)), (3, .int (jI nz)), (4, .int (jI r)), (5, .int (jI ((30 * sv) + r))), (6, .int (jI (120 + r))), (8, .int (jI k))]) hx hb dX9_differs_379 hl (by decide) rfl (fun ls hl => ?_)
                                                refine lv_iload hx hb dX9_differs_381 (lv_at hl 0 rfl) ?_
                                                refine x_if_eqT (tgt := 405) hx hb (by omega) (by decide) dX9_differs_383 (by decide) ?_
                                                refine lv_iinc (v := jI (k + 1)) (lv' := [(8, .int (jI (k + 1))), (11, .int (jI 0)), (9, .long (jL (X21 75 0 ((5 * ((30 * sv) + r)) + k)))), (0, .ref (ad 40 0)), (1, .int (jI sv)), (2, .int (jI x)), (3, .int (jI nz)), (4, .int (jI r)), (5, .int (jI ((30 * sv) + r))), (6, .int (jI (120 + r)))]) hx hb dX9_differs_405 hl (k := 9) rfl (jI_add _ _) (by decide) rfl (fun ls hl => ?_)
                                                refine lv_goto (tgt := 272) hx hb dX9_differs_408 (by decide) ?_
                                                exact ih272 (k + 1) _ _ _ (by omega) (by omega) (hsh) (fun f a b => if hf9 : f = k then (by rw [hf9]; exact (by (try delta Hid at *); first | exact ⟨by omega, fun a9 b9 => (by exfalso; omega)⟩ | exact ⟨by omega, fun a9 b9 => (by rcases hrdf with ⟨e9, h9⟩ | ⟨e9, h9⟩; exact h9; exfalso; omega)⟩)) else hvk f a (by omega)) hw hS (lv_sub hl [3, 4, 5, 6, 7, 8, 9, 0] rfl)
                                              · refine lv_iconst (v := jI 1) hx hb dX9_differs_374 rfl ?_
                                                refine lv_goto (tgt := 379) hx hb dX9_differs_375 (by decide) ?_
                                                refine lv_istore (lv' := [(11, .int (jI 1)), (9, .long (jL (X21 75 0 ((5 * ((30 * sv) + r)) + k)))), (0, .ref (ad 40 0)), (1, .int (jI sv)), (2, .int (jI x)), (3, .int (jI nz)), (4, .int (jI r)), (5, .int (jI ((30 * sv) + r))), (6, .int (jI (120 + r))), (8, .int (jI k))]) hx hb dX9_differs_379 hl (by decide) rfl (fun ls hl => ?_)
                                                refine lv_iload hx hb dX9_differs_381 (lv_at hl 0 rfl) ?_
                                                refine x_if_eqF (tgt := 405) hx hb (by omega) (by decide) dX9_differs_383 (by decide) ?_
                                                refine lv_bipush (v := jI 100) hx hb dX9_differs_386 (by decide) ?_
                                                refine lv_iload hx hb dX9_differs_388 (lv_at hl 6 rfl) ?_
                                                refine x_imul hx hb dX9_differs_390 ?_
                                                refine lv_aload_n hx hb dX9_differs_391 rfl (lv_at hl 2 rfl) ?_
                                                refine x_geto hx hb hf9 hw (by omega) (by omega) sl_40_32 lk90 dX9_differs_392 ?_
                                                refine lv_iconst (v := jI 5) hx hb dX9_differs_395 rfl ?_
                                                refine lv_iload hx hb dX9_differs_396 (lv_at hl 7 rfl) ?_
                                                refine x_imul hx hb dX9_differs_398 ?_
                                                refine lv_iload hx hb dX9_differs_399 (lv_at hl 9 rfl) ?_
                                                refine x_iadd hx hb dX9_differs_401 ?_
                                                refine x_iald hx hb hK.1 hw (by omega) (by omega) ar_73 (len_E ar_73 (by decide)) (by omega) (by omega) (by omega) dX9_differs_402 ?_
                                                have f414 : 0 ≤ X21 73 0 ((5 * ((30 * sv) + r)) + k) ∧ X21 73 0 ((5 * ((30 * sv) + r)) + k) ≤ 19 := hRX21 73 0 ((5 * ((30 * sv) + r)) + k)
                                                refine x_iadd hx hb dX9_differs_403 ?_
                                                refine ret_i (mc := 0) (ms := 0) hx hb hr hlocks hw hS (by omega) (by omega) dX9_differs_404 ?_
                                                have q415 : Frm [4001] X X1 := by rw [hX1]; exact Frm.set Frm.rf (show 4001 ∈ [4001] by decide)
                                                have hrd416 := rdr_eq (L := [4001]) q415 (by decide)
                                                have hsx417 := hsvX21
                                                rw [hrd416.1, hrd416.2.1, hrd416.2.2, Frm.arr q415 48 (by decide +kernel) (by decide), Frm.arr q415 55 (by decide +kernel) (by decide)] at hsx417
                                                exact ⟨X21, rfl, hRX21, hFX21, hMIX21, by omega, S4.tr (S4.frm q415 (by decide)) h4X21, S5.tr (S5.frm q415 (by decide)) h5X21, Or.inr ⟨(by (try delta Hid at *); omega), (by rcases hsx417 with ⟨-, q, -⟩ | ⟨-, -, q⟩; exact absurd q (by decide); exact q), Or.inr ⟨r, by omega, by omega, hall, Or.inr ⟨hsh, k, by omega, by omega, hvk, (fun q => by (try delta Hid at *); first | (have q1 := q.1; omega) | exact absurd (q.2 (by omega) (by omega)) (by assumption) | (rcases hrdf with ⟨e9, h9⟩ | ⟨e9, h9⟩; omega; exact h9 (q.2 (by omega) (by omega)))), by omega⟩⟩⟩⟩
                                        · refine lv_iconst (v := jI 1) hx hb dX9_differs_316 rfl ?_
                                          refine lv_goto (tgt := 321) hx hb dX9_differs_317 (by decide) ?_
                                          refine lv_istore (lv' := [(11, .int (jI 1)), (9, .long (jL (X21 75 0 ((5 * ((30 * sv) + r)) + k)))), (0, .ref (ad 40 0)), (1, .int (jI sv)), (2, .int (jI x)), (3, .int (jI nz)), (4, .int (jI r)), (5, .int (jI ((30 * sv) + r))), (6, .int (jI (120 + r))), (8, .int (jI k))]) hx hb dX9_differs_321 hl (by decide) rfl (fun ls hl => ?_)
                                          refine lv_iload hx hb dX9_differs_323 (lv_at hl 0 rfl) ?_
                                          refine x_if_neT (tgt := 374) hx hb (by omega) (by decide) dX9_differs_325 (by decide) ?_
                                          refine lv_iconst (v := jI 1) hx hb dX9_differs_374 rfl ?_
                                          refine lv_goto (tgt := 379) hx hb dX9_differs_375 (by decide) ?_
                                          refine lv_istore (lv' := [(11, .int (jI 1)), (9, .long (jL (X21 75 0 ((5 * ((30 * sv) + r)) + k)))), (0, .ref (ad 40 0)), (1, .int (jI sv)), (2, .int (jI x)), (3, .int (jI nz)), (4, .int (jI r)), (5, .int (jI ((30 * sv) + r))), (6, .int (jI (120 + r))), (8, .int (jI k))]) hx hb dX9_differs_379 hl (by decide) rfl (fun ls hl => ?_)
                                          refine lv_iload hx hb dX9_differs_381 (lv_at hl 0 rfl) ?_
                                          refine x_if_eqF (tgt := 405) hx hb (by omega) (by decide) dX9_differs_383 (by decide) ?_
                                          refine lv_bipush (v := jI 100) hx hb dX9_differs_386 (by decide) ?_
                                          refine lv_iload hx hb dX9_differs_388 (lv_at hl 6 rfl) ?_
                                          refine x_imul hx hb dX9_differs_390 ?_
                                          refine lv_aload_n hx hb dX9_differs_391 rfl (lv_at hl 2 rfl) ?_
                                          refine x_geto hx hb hf9 hw (by omega) (by omega) sl_40_32 lk90 dX9_differs_392 ?_
                                          refine lv_iconst (v := jI 5) hx hb dX9_differs_395 rfl ?_
                                          refine lv_iload hx hb dX9_differs_396 (lv_at hl 7 rfl) ?_
                                          refine x_imul hx hb dX9_differs_398 ?_
                                          refine lv_iload hx hb dX9_differs_399 (lv_at hl 9 rfl) ?_
                                          refine x_iadd hx hb dX9_differs_401 ?_
                                          refine x_iald hx hb hK.1 hw (by omega) (by omega) ar_73 (len_E ar_73 (by decide)) (by omega) (by omega) (by omega) dX9_differs_402 ?_
                                          have f418 : 0 ≤ X21 73 0 ((5 * ((30 * sv) + r)) + k) ∧ X21 73 0 ((5 * ((30 * sv) + r)) + k) ≤ 19 := hRX21 73 0 ((5 * ((30 * sv) + r)) + k)
                                          refine x_iadd hx hb dX9_differs_403 ?_
                                          refine ret_i (mc := 0) (ms := 0) hx hb hr hlocks hw hS (by omega) (by omega) dX9_differs_404 ?_
                                          have q419 : Frm [4001] X X1 := by rw [hX1]; exact Frm.set Frm.rf (show 4001 ∈ [4001] by decide)
                                          have hrd420 := rdr_eq (L := [4001]) q419 (by decide)
                                          have hsx421 := hsvX21
                                          rw [hrd420.1, hrd420.2.1, hrd420.2.2, Frm.arr q419 48 (by decide +kernel) (by decide), Frm.arr q419 55 (by decide +kernel) (by decide)] at hsx421
                                          exact ⟨X21, rfl, hRX21, hFX21, hMIX21, by omega, S4.tr (S4.frm q419 (by decide)) h4X21, S5.tr (S5.frm q419 (by decide)) h5X21, Or.inr ⟨(by (try delta Hid at *); omega), (by rcases hsx421 with ⟨-, q, -⟩ | ⟨-, -, q⟩; exact absurd q (by decide); exact q), Or.inr ⟨r, by omega, by omega, hall, Or.inr ⟨hsh, k, by omega, by omega, hvk, (fun q => by (try delta Hid at *); first | (have q1 := q.1; omega) | exact absurd (q.2 (by omega) (by omega)) (by assumption) | (rcases hrdf with ⟨e9, h9⟩ | ⟨e9, h9⟩; omega; exact h9 (q.2 (by omega) (by omega)))), by omega⟩⟩⟩⟩
                                  exact lp272 (5 - 0 : Int).toNat.succ 0 _ _ _ (by omega) (by omega) ((by obtain ⟨q1, q2, q3⟩ := hsm1 (by omega); exact ⟨by omega, by omega, q1, q2, fun j a b => q3 j a (by omega)⟩)) (fun f a b => by omega) hw hS (lv_sub hl [1, 2, 3, 4, 5, 6, 7, 0] rfl)
                                · refine lv_bipush (v := jI 100) hx hb dX9_differs_260 (by decide) ?_
                                  refine lv_iload hx hb dX9_differs_262 (lv_at hl 4 rfl) ?_
                                  refine x_imul hx hb dX9_differs_264 ?_
                                  refine lv_bipush (v := jI 99) hx hb dX9_differs_265 (by decide) ?_
                                  refine x_iadd hx hb dX9_differs_267 ?_
                                  refine ret_i (mc := 0) (ms := 0) hx hb hr hlocks hw hS (by omega) (by omega) dX9_differs_268 ?_
                                  have q422 : Frm [4001] X X1 := by rw [hX1]; exact Frm.set Frm.rf (show 4001 ∈ [4001] by decide)
                                  have hrd423 := rdr_eq (L := [4001]) q422 (by decide)
                                  have hsx424 := hsvX21
                                  rw [hrd423.1, hrd423.2.1, hrd423.2.2, Frm.arr q422 48 (by decide +kernel) (by decide), Frm.arr q422 55 (by decide +kernel) (by decide)] at hsx424
                                  exact ⟨X21, rfl, hRX21, hFX21, hMIX21, by omega, S4.tr (S4.frm q422 (by decide)) h4X21, S5.tr (S5.frm q422 (by decide)) h5X21, Or.inr ⟨(by (try delta Hid at *); omega), (by rcases hsx424 with ⟨-, q, -⟩ | ⟨-, -, q⟩; exact absurd q (by decide); exact q), Or.inr ⟨r, by omega, by omega, hall, Or.inl ⟨hsm0 (by omega), by omega⟩⟩⟩⟩
                              · refine lv_aload_n hx hb dX9_differs_188 rfl (lv_at hl 0 rfl) ?_
                                refine x_geto hx hb hf9 hw (by omega) (by omega) sl_40_32 lk90 dX9_differs_189 ?_
                                refine lv_iconst (v := jI 5) hx hb dX9_differs_192 rfl ?_
                                refine lv_iload hx hb dX9_differs_193 (lv_at hl 5 rfl) ?_
                                refine x_imul hx hb dX9_differs_195 ?_
                                refine lv_iload hx hb dX9_differs_196 (lv_at hl 8 rfl) ?_
                                refine x_iadd hx hb dX9_differs_198 ?_
                                refine x_iald hx hb hK.1 hw (by omega) (by omega) ar_73 (len_E ar_73 (by decide)) (by omega) (by omega) (by omega) dX9_differs_199 ?_
                                have f425 : 0 ≤ X21 73 0 ((5 * ((30 * sv) + r)) + k) ∧ X21 73 0 ((5 * ((30 * sv) + r)) + k) ≤ 19 := hRX21 73 0 ((5 * ((30 * sv) + r)) + k)
                                refine lv_aload_n hx hb dX9_differs_200 rfl (lv_at hl 0 rfl) ?_
                                refine x_geto hx hb hf9 hw (by omega) (by omega) sl_40_32 lk90 dX9_differs_201 ?_
                                refine lv_iconst (v := jI 5) hx hb dX9_differs_204 rfl ?_
                                refine lv_iload hx hb dX9_differs_205 (lv_at hl 6 rfl) ?_
                                refine x_imul hx hb dX9_differs_207 ?_
                                refine lv_iload hx hb dX9_differs_208 (lv_at hl 8 rfl) ?_
                                refine x_iadd hx hb dX9_differs_210 ?_
                                refine x_iald hx hb hK.1 hw (by omega) (by omega) ar_73 (len_E ar_73 (by decide)) (by omega) (by omega) (by omega) dX9_differs_211 ?_
                                have f426 : 0 ≤ X21 73 0 ((5 * (120 + r)) + k) ∧ X21 73 0 ((5 * (120 + r)) + k) ≤ 19 := hRX21 73 0 ((5 * (120 + r)) + k)
                                refine x_icmp_ne (tgt := 246) hx hb (by omega) (by omega) dX9_differs_212 (by decide) (fun c427 => ?_) (fun c427 => ?_)
                                · refine lv_iconst (v := jI 0) hx hb dX9_differs_246 rfl ?_
                                  refine lv_istore (lv' := [(7, .int (jI 0)), (0, .ref (ad 40 0)), (1, .int (jI sv)), (2, .int (jI x)), (3, .int (jI nz)), (4, .int (jI r)), (5, .int (jI ((30 * sv) + r))), (6, .int (jI (120 + r))), (8, .int (jI k))]) hx hb dX9_differs_247 hl (by decide) rfl (fun ls hl => ?_)
                                  refine lv_iinc (v := jI (k + 1)) (lv' := [(8, .int (jI (k + 1))), (7, .int (jI 0)), (0, .ref (ad 40 0)), (1, .int (jI sv)), (2, .int (jI x)), (3, .int (jI nz)), (4, .int (jI r)), (5, .int (jI ((30 * sv) + r))), (6, .int (jI (120 + r)))]) hx hb dX9_differs_249 hl (k := 8) rfl (jI_add _ _) (by decide) rfl (fun ls hl => ?_)
                                  refine lv_goto (tgt := 171) hx hb dX9_differs_252 (by decide) ?_
                                  exact ih171 0 (k + 1) _ _ _ (by omega) (by omega) (by omega) (fun q => (by obtain ⟨q1, q2, q3⟩ := hsm1 (by omega); exact ⟨q1, q2, fun j a b => if hj : j = k then (by rw [hj]; exact ⟨by omega, by omega⟩) else q3 j a (by omega)⟩)) (fun q e => (by have h9 := e.2.2.2.2 k (by omega) (by omega); omega)) hw hS (lv_sub hl [2, 3, 4, 5, 6, 7, 8, 1, 0] rfl)
                                · refine lv_aload_n hx hb dX9_differs_215 rfl (lv_at hl 0 rfl) ?_
                                  refine x_geto hx hb hf9 hw (by omega) (by omega) sl_40_33 lk93 dX9_differs_216 ?_
                                  refine lv_iconst (v := jI 5) hx hb dX9_differs_219 rfl ?_
                                  refine lv_iload hx hb dX9_differs_220 (lv_at hl 5 rfl) ?_
                                  refine x_imul hx hb dX9_differs_222 ?_
                                  refine lv_iload hx hb dX9_differs_223 (lv_at hl 8 rfl) ?_
                                  refine x_iadd hx hb dX9_differs_225 ?_
                                  refine x_iald hx hb hK.1 hw (by omega) (by omega) ar_74 (len_E ar_74 (by decide)) (by omega) (by omega) (by omega) dX9_differs_226 ?_
                                  have f428 : 0 ≤ X21 74 0 ((5 * ((30 * sv) + r)) + k) ∧ X21 74 0 ((5 * ((30 * sv) + r)) + k) ≤ 5 := hRX21 74 0 ((5 * ((30 * sv) + r)) + k)
                                  refine lv_aload_n hx hb dX9_differs_227 rfl (lv_at hl 0 rfl) ?_
                                  refine x_geto hx hb hf9 hw (by omega) (by omega) sl_40_33 lk93 dX9_differs_228 ?_
                                  refine lv_iconst (v := jI 5) hx hb dX9_differs_231 rfl ?_
                                  refine lv_iload hx hb dX9_differs_232 (lv_at hl 6 rfl) ?_
                                  refine x_imul hx hb dX9_differs_234 ?_
                                  refine lv_iload hx hb dX9_differs_235 (lv_at hl 8 rfl) ?_
                                  refine x_iadd hx hb dX9_differs_237 ?_
                                  refine x_iald hx hb hK.1 hw (by omega) (by omega) ar_74 (len_E ar_74 (by decide)) (by omega) (by omega) (by omega) dX9_differs_238 ?_
                                  have f429 : 0 ≤ X21 74 0 ((5 * (120 + r)) + k) ∧ X21 74 0 ((5 * (120 + r)) + k) ≤ 5 := hRX21 74 0 ((5 * (120 + r)) + k)
                                  refine x_icmp_ne (tgt := 246) hx hb (by omega) (by omega) dX9_differs_239 (by decide) (fun c430 => ?_) (fun c430 => ?_)
                                  · refine lv_iconst (v := jI 0) hx hb dX9_differs_246 rfl ?_
                                    refine lv_istore (lv' := [(7, .int (jI 0)), (0, .ref (ad 40 0)), (1, .int (jI sv)), (2, .int (jI x)), (3, .int (jI nz)), (4, .int (jI r)), (5, .int (jI ((30 * sv) + r))), (6, .int (jI (120 + r))), (8, .int (jI k))]) hx hb dX9_differs_247 hl (by decide) rfl (fun ls hl => ?_)
                                    refine lv_iinc (v := jI (k + 1)) (lv' := [(8, .int (jI (k + 1))), (7, .int (jI 0)), (0, .ref (ad 40 0)), (1, .int (jI sv)), (2, .int (jI x)), (3, .int (jI nz)), (4, .int (jI r)), (5, .int (jI ((30 * sv) + r))), (6, .int (jI (120 + r)))]) hx hb dX9_differs_249 hl (k := 8) rfl (jI_add _ _) (by decide) rfl (fun ls hl => ?_)
                                    refine lv_goto (tgt := 171) hx hb dX9_differs_252 (by decide) ?_
                                    exact ih171 0 (k + 1) _ _ _ (by omega) (by omega) (by omega) (fun q => (by obtain ⟨q1, q2, q3⟩ := hsm1 (by omega); exact ⟨q1, q2, fun j a b => if hj : j = k then (by rw [hj]; exact ⟨by omega, by omega⟩) else q3 j a (by omega)⟩)) (fun q e => (by have h9 := e.2.2.2.2 k (by omega) (by omega); omega)) hw hS (lv_sub hl [2, 3, 4, 5, 6, 7, 8, 1, 0] rfl)
                                  · refine lv_iconst (v := jI 1) hx hb dX9_differs_242 rfl ?_
                                    refine lv_goto (tgt := 247) hx hb dX9_differs_243 (by decide) ?_
                                    refine lv_istore (lv' := [(7, .int (jI 1)), (0, .ref (ad 40 0)), (1, .int (jI sv)), (2, .int (jI x)), (3, .int (jI nz)), (4, .int (jI r)), (5, .int (jI ((30 * sv) + r))), (6, .int (jI (120 + r))), (8, .int (jI k))]) hx hb dX9_differs_247 hl (by decide) rfl (fun ls hl => ?_)
                                    refine lv_iinc (v := jI (k + 1)) (lv' := [(8, .int (jI (k + 1))), (7, .int (jI 1)), (0, .ref (ad 40 0)), (1, .int (jI sv)), (2, .int (jI x)), (3, .int (jI nz)), (4, .int (jI r)), (5, .int (jI ((30 * sv) + r))), (6, .int (jI (120 + r)))]) hx hb dX9_differs_249 hl (k := 8) rfl (jI_add _ _) (by decide) rfl (fun ls hl => ?_)
                                    refine lv_goto (tgt := 171) hx hb dX9_differs_252 (by decide) ?_
                                    exact ih171 1 (k + 1) _ _ _ (by omega) (by omega) (by omega) (fun q => (by obtain ⟨q1, q2, q3⟩ := hsm1 (by omega); exact ⟨q1, q2, fun j a b => if hj : j = k then (by rw [hj]; exact ⟨by omega, by omega⟩) else q3 j a (by omega)⟩)) (fun q e => (by have h9 := e.2.2.2.2 k (by omega) (by omega); omega)) hw hS (lv_sub hl [2, 3, 4, 5, 6, 7, 8, 1, 0] rfl)
                        exact lp171 (5 - 0 : Int).toNat.succ 1 0 _ _ _ (by omega) (by omega) (by omega) (fun q => ⟨by omega, by omega, fun j a b => by omega⟩) (fun q e => by obtain ⟨q1, q2, q3, q4, -⟩ := e; omega) hw hS (lv_sub hl [4, 5, 6, 7, 8, 3, 2, 1, 0] rfl)
                  · refine lv_bipush (v := jI 100) hx hb dX9_differs_102 (by decide) ?_
                    refine lv_iload hx hb dX9_differs_104 (lv_at hl 4 rfl) ?_
                    refine x_imul hx hb dX9_differs_106 ?_
                    refine lv_bipush (v := jI 99) hx hb dX9_differs_107 (by decide) ?_
                    refine x_iadd hx hb dX9_differs_109 ?_
                    refine ret_i (mc := 0) (ms := 0) hx hb hr hlocks hw hS (by omega) (by omega) dX9_differs_110 ?_
                    have q431 : Frm [4001] X X1 := by rw [hX1]; exact Frm.set Frm.rf (show 4001 ∈ [4001] by decide)
                    have hrd432 := rdr_eq (L := [4001]) q431 (by decide)
                    have hsx433 := hsvX21
                    rw [hrd432.1, hrd432.2.1, hrd432.2.2, Frm.arr q431 48 (by decide +kernel) (by decide), Frm.arr q431 55 (by decide +kernel) (by decide)] at hsx433
                    exact ⟨X21, rfl, hRX21, hFX21, hMIX21, by omega, S4.tr (S4.frm q431 (by decide)) h4X21, S5.tr (S5.frm q431 (by decide)) h5X21, Or.inr ⟨(by (try delta Hid at *); omega), (by rcases hsx433 with ⟨-, q, -⟩ | ⟨-, -, q⟩; exact absurd q (by decide); exact q), Or.inr ⟨r, by omega, by omega, hall, Or.inl ⟨(fun q => by have q1 := q.1; have q2 := q.2.1; omega), by omega⟩⟩⟩⟩
          exact lp74 (30 - 0 : Int).toNat.succ (X21 70 0 sv) 0 _ _ _ (by omega) (by omega) (by omega) (by unfold mxM; split <;> omega) (fun r' a b => by omega) hw hS (lv_sub hl [2, 3, 4, 1, 0] rfl)
      · subst ez11
        refine x_if_neF (tgt := 33) hx hb (by omega) (by decide) dX9_differs_27 (by decide) ?_
        refine lv_bipush (v := jI (-2)) hx hb dX9_differs_30 (by decide) ?_
        refine ret_i (mc := 0) (ms := 0) hx hb hr hlocks hw hS (by omega) (by omega) dX9_differs_32 ?_
        have q435 : Frm [4001] X X1 := by rw [hX1]; exact Frm.set Frm.rf (show 4001 ∈ [4001] by decide)
        have hMq434 : MInv X1 := minv_frm hMI q435 (by decide)
        have q436 : Frm [4001] X X1 := by rw [hX1]; exact Frm.set Frm.rf (show 4001 ∈ [4001] by decide)
        exact ⟨X1, rfl, hRX1, hFX1, hMq434, by omega, S4.frm q436 (by decide), S5.frm q436 (by decide), Or.inl ⟨(fun q => by (try delta Hid at *); omega), by omega⟩⟩
  · subst ez2
    refine x_if_eqT (tgt := 30) hx hb (by omega) (by decide) dX9_differs_10 (by decide) ?_
    refine lv_bipush (v := jI (-2)) hx hb dX9_differs_30 (by decide) ?_
    refine ret_i (mc := 0) (ms := 0) hx hb hr hlocks hw hS (by omega) (by omega) dX9_differs_32 ?_
    have q438 : Frm [4001] X X1 := by rw [hX1]; exact Frm.set Frm.rf (show 4001 ∈ [4001] by decide)
    have hMq437 : MInv X1 := minv_frm hMI q438 (by decide)
    have q439 : Frm [4001] X X1 := by rw [hX1]; exact Frm.set Frm.rf (show 4001 ∈ [4001] by decide)
    exact ⟨X1, rfl, hRX1, hFX1, hMq437, by omega, S4.frm q439 (by decide), S5.frm q439 (by decide), Or.inl ⟨(fun q => by (try delta Hid at *); omega), by omega⟩⟩

