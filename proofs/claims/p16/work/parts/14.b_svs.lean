set_option maxHeartbeats 4000000 in
set_option maxRecDepth 100000 in
theorem c_X9_saves (l : Launch) (D : va_G) (tc : Nat → ClassId) (base : Nat) (ad : Nat → Int → Nat) (cnt : Nat → Int) (X : Nat → Int → Int → Int) (Y : Nat → Int → Int → Option Int) (ln : Int → Int) (hR : Rng X) (hFx : Fx cnt) (hMI : MInv X) (x shut : Int) (hx0 : 0 ≤ x ∧ x ≤ 29) (hxt : x < X 40 0 13) (hshut : 0 ≤ shut ∧ shut ≤ 1) : KI l D tc base yX9_saves wsX9_saves ({ frames := 1, cells := 0, slots := 0, locals := 24 } : Room) [.ref (ad 40 0), .int (jI x), .int (jI shut)] (ad, cnt, X, Y, ln) 0 0 (fun z u => ∃ X1 : Nat → Int → Int → Int, u = (ad, cnt, X1, Y, ln) ∧ Rng X1 ∧ Frm [7100, 7200, 7300, 7400, 7500, 8000, 7000, 8100, 7700, 7800, 7900, 7600, 4042, 4043, 4044] X X1 ∧ MInv X1 ∧ (-20 ≤ z ∧ z ≤ 30) ∧ S4 X X1 ∧ (0 ≤ z → z = X1 70 0 4 ∧ cOK X1 z 0) ∧ ((z < 0 ∧ shut = 1 ∧ ∃ r k, 0 ≤ r ∧ r < recR (fcM X) (lnM X) (mRid X) (mRid X) x 30 0 0 ∧ 0 ≤ k ∧ k < fcM X (recR (fcM X) (lnM X) (mRid X) (mRid X) x 30 1 r) ∧ X 48 0 (5 * X 55 0 (recR (fcM X) (lnM X) (mRid X) (mRid X) x 30 1 r) + k) ≠ 0) ∨ (z = recR (fcM X) (lnM X) (mRid X) (mRid X) x 30 0 0 ∧ (shut = 1 → ∀ r k, 0 ≤ r → r < recR (fcM X) (lnM X) (mRid X) (mRid X) x 30 0 0 → 0 ≤ k → k < fcM X (recR (fcM X) (lnM X) (mRid X) (mRid X) x 30 1 r) → X 48 0 (5 * X 55 0 (recR (fcM X) (lnM X) (mRid X) (mRid X) x 30 1 r) + k) = 0) ∧ rmT X1 (recR (fcM X) (lnM X) (mRid X) (mRid X) x 30) ∧ rmR X1 (recR (fcM X) (lnM X) (mRid X) (mRid X) x 30) ∧ rmV X1 (recR (fcM X) (lnM X) (mRid X) (mRid X) x 30) (recR (fcM X) (lnM X) (mRid X) (mRid X) x 30 0 0) 0)) ∧ S5 X X1 ∧ (z < 0 → z = -20)) := by
  refine K_of (cc := cX9_saves) (maxL := 10) (ret := (some .int)) (by decide) rfl (Nat.le_of_ble_eq_true rfl) ?_
  intro p e s m below meth c ls hx hb hr hml hown hts hlocks hl hK hw hS
  have hown : s.vm.findClass RX9 = some m.cls := hown
  obtain ⟨av9, hav9⟩ : ∃ a9 : Array Value, a9 = ([.ref (ad 40 0), .int (jI x), .int (jI shut)] : List Value).toArray := ⟨_, rfl⟩
  rw [← hav9] at hts ⊢
  obtain ⟨Q9, hQ9⟩ : ∃ q : State → Prop, q = MQ below (QI D tc base (fun z u => ∃ X1 : Nat → Int → Int → Int, u = (ad, cnt, X1, Y, ln) ∧ Rng X1 ∧ Frm [7100, 7200, 7300, 7400, 7500, 8000, 7000, 8100, 7700, 7800, 7900, 7600, 4042, 4043, 4044] X X1 ∧ MInv X1 ∧ (-20 ≤ z ∧ z ≤ 30) ∧ S4 X X1 ∧ (0 ≤ z → z = X1 70 0 4 ∧ cOK X1 z 0) ∧ ((z < 0 ∧ shut = 1 ∧ ∃ r k, 0 ≤ r ∧ r < recR (fcM X) (lnM X) (mRid X) (mRid X) x 30 0 0 ∧ 0 ≤ k ∧ k < fcM X (recR (fcM X) (lnM X) (mRid X) (mRid X) x 30 1 r) ∧ X 48 0 (5 * X 55 0 (recR (fcM X) (lnM X) (mRid X) (mRid X) x 30 1 r) + k) ≠ 0) ∨ (z = recR (fcM X) (lnM X) (mRid X) (mRid X) x 30 0 0 ∧ (shut = 1 → ∀ r k, 0 ≤ r → r < recR (fcM X) (lnM X) (mRid X) (mRid X) x 30 0 0 → 0 ≤ k → k < fcM X (recR (fcM X) (lnM X) (mRid X) (mRid X) x 30 1 r) → X 48 0 (5 * X 55 0 (recR (fcM X) (lnM X) (mRid X) (mRid X) x 30 1 r) + k) = 0) ∧ rmT X1 (recR (fcM X) (lnM X) (mRid X) (mRid X) x 30) ∧ rmR X1 (recR (fcM X) (lnM X) (mRid X) (mRid X) x 30) ∧ rmV X1 (recR (fcM X) (lnM X) (mRid X) (mRid X) x 30) (recR (fcM X) (lnM X) (mRid X) (mRid X) x 30 0 0) 0)) ∧ S5 X X1 ∧ (z < 0 → z = -20))) av9 s 0 0 (frA base) := ⟨_, rfl⟩
  rw [← hQ9]
  have hi9 : ∀ w ∈ wsX90, w ∈ wsX9_saves := fun w h => List.mem_cons_of_mem _ (List.mem_append_right _ h)
  have hf9 : fctx s m _ RX9 wsX9_saves D tc RX9 TX9 51 9 := ⟨hts, hi9, hown, hK.1, rfl⟩
  have lk13 := hts (.fieldLink RX9 13 (TX9 3).1 (TX9 3).2.1 (TX9 3).2.2.1) (gj_X9_saves_0 _ (gp_4 (gp_1 (gp_1 gp_h))))
  have lk17 := hts (.fieldLink RX9 17 (TX9 4).1 (TX9 4).2.1 (TX9 4).2.2.1) (gj_X9_saves_0 _ (gp_4 (gp_4 gp_h)))
  have lk20 := hts (.fieldLink RX9 20 (TX9 5).1 (TX9 5).2.1 (TX9 5).2.2.1) (gj_X9_saves_0 _ (gp_4 (gp_4 (gp_4 gp_h))))
  have lk27 := hts (.fieldLink RX9 27 (TX9 7).1 (TX9 7).2.1 (TX9 7).2.2.1) (gj_X9_saves_0 _ (gp_4 (gp_1 (gp_1 (gp_1 gp_h)))))
  have lk45 := hts (.fieldLink RX9 45 (TX9 14).1 (TX9 14).2.1 (TX9 14).2.2.1) (gj_X9_saves_0 _ (gp_1 (gp_1 (gp_1 gp_h))))
  have lk48 := hts (.fieldLink RX9 48 (TX9 15).1 (TX9 15).2.1 (TX9 15).2.2.1) (gj_X9_saves_0 _ (gp_4 (gp_4 (gp_1 gp_h))))
  have lk81 := hts (.fieldLink RX9 81 (TX9 29).1 (TX9 29).2.1 (TX9 29).2.2.1) (gj_X9_saves_0 _ (gp_h))
  have lk84 := hts (.fieldLink RX9 84 (TX9 30).1 (TX9 30).2.1 (TX9 30).2.2.1) (gj_X9_saves_0 _ (gp_4 gp_h))
  have lk87 := hts (.fieldLink RX9 87 (TX9 31).1 (TX9 31).2.1 (TX9 31).2.2.1) (gj_X9_saves_0 _ (gp_4 (gp_1 gp_h)))
  have lk90 := hts (.fieldLink RX9 90 (TX9 32).1 (TX9 32).2.1 (TX9 32).2.2.1) (gj_X9_saves_0 _ (gp_4 (gp_4 (gp_1 (gp_1 gp_h)))))
  have lk93 := hts (.fieldLink RX9 93 (TX9 33).1 (TX9 33).2.1 (TX9 33).2.2.1) (gj_X9_saves_0 _ (gp_4 (gp_4 (gp_1 (gp_1 (gp_1 gp_h))))))
  have lk96 := hts (.fieldLink RX9 96 (TX9 34).1 (TX9 34).2.1 (TX9 34).2.2.1) (gj_X9_saves_0 _ (gp_4 (gp_4 (gp_4 (gp_1 gp_h)))))
  have lk99 := hts (.fieldLink RX9 99 (TX9 35).1 (TX9 35).2.1 (TX9 35).2.2.1) (gj_X9_saves_0 _ (gp_1 gp_h))
  have lk111 := hts (.fieldLink RX9 111 (TX9 39).1 (TX9 39).2.1 (TX9 39).2.2.1) (gj_X9_saves_0 _ (gp_1 (gp_1 gp_h)))
  have hc40 : cnt 40 = 1 := hFx.at 40 1 (by decide)
  have hc44 : cnt 44 = 1 := hFx.at 44 1 (by decide)
  have hc45 : cnt 45 = 1 := hFx.at 45 1 (by decide)
  have hc46 : cnt 46 = 1 := hFx.at 46 1 (by decide)
  have hc48 : cnt 48 = 1 := hFx.at 48 1 (by decide)
  have hc55 : cnt 55 = 1 := hFx.at 55 1 (by decide)
  have hc56 : cnt 56 = 1 := hFx.at 56 1 (by decide)
  have hc70 : cnt 70 = 1 := hFx.at 70 1 (by decide)
  have hc71 : cnt 71 = 1 := hFx.at 71 1 (by decide)
  have hc72 : cnt 72 = 1 := hFx.at 72 1 (by decide)
  have hc73 : cnt 73 = 1 := hFx.at 73 1 (by decide)
  have hc74 : cnt 74 = 1 := hFx.at 74 1 (by decide)
  have hc75 : cnt 75 = 1 := hFx.at 75 1 (by decide)
  have hc76 : cnt 76 = 1 := hFx.at 76 1 (by decide)
  have hc80 : cnt 80 = 1 := hFx.at 80 1 (by decide)
  have hl : lv_has ls 10 [(0, .ref (ad 40 0)), (1, .int (jI x)), (2, .int (jI shut))] := hl
  have fstypes : 0 ≤ X 40 0 2 ∧ X 40 0 2 ≤ 8 := hR 40 0 2
  have fsthings : 0 ≤ X 40 0 13 ∧ X 40 0 13 ≤ 30 := hR 40 0 13
  have fsmarks : 0 ≤ X 40 0 20 ∧ X 40 0 20 ≤ 4 := hR 40 0 20
  have fsnotes : 0 ≤ X 40 0 22 ∧ X 40 0 22 ≤ 80 := hR 40 0 22
  refine lv_aload_n hx hb dX9_saves_0 rfl (lv_at hl 0 rfl) ?_
  refine x_geto hx hb hf9 hw (by first | exact Int.le_refl 0 | omega) (by first | exact zlt hc40 | omega) sl_40_29 lk81 dX9_saves_1 ?_
  refine lv_iconst (v := jI 4) hx hb dX9_saves_4 rfl ?_
  refine lv_iconst (v := jI 0) hx hb dX9_saves_5 rfl ?_
  refine x_iast hx hb hK.1 hw hS (by first | exact Int.le_refl 0 | omega) (by first | exact zlt hc70 | omega) ar_70 (len_E ar_70 (by decide)) (by omega) (by omega) (by omega) dX9_saves_6 (fun H locs hw hS => ?_)
  obtain ⟨X1, hX1⟩ : ∃ Xq, Xq = u3 X 70 0 4 0 := ⟨_, rfl⟩
  rw [← hX1] at hw
  have hRX1 : Rng X1 := by rw [hX1]; exact rng_set hR (show 0 ≤ 0 ∧ 0 ≤ 30 by omega)
  have hVX1 : X1 70 0 4 = 0 := by rw [hX1]; exact u3_s _ _ _ _ _
  have hFX1 : Frm [7100, 7200, 7300, 7400, 7500, 8000, 7000, 8100, 7700, 7800, 7900, 7600, 4042, 4043, 4044] X X1 := by rw [hX1]; exact Frm.set Frm.rf (show 7000 ∈ [7100, 7200, 7300, 7400, 7500, 8000, 7000, 8100, 7700, 7800, 7900, 7600, 4042, 4043, 4044] by decide)
  refine lv_aload_n hx hb dX9_saves_7 rfl (lv_at hl 0 rfl) ?_
  refine x_geto hx hb hf9 hw (by first | exact Int.le_refl 0 | omega) (by first | exact zlt hc40 | omega) sl_40_35 lk99 dX9_saves_8 ?_
  refine lv_iconst (v := jI 4) hx hb dX9_saves_11 rfl ?_
  refine lv_iconst (v := jI 0) hx hb dX9_saves_12 rfl ?_
  refine x_iast hx hb hK.1 hw hS (by first | exact Int.le_refl 0 | omega) (by first | exact zlt hc76 | omega) ar_76 (len_E ar_76 (by decide)) (by omega) (by omega) (by omega) dX9_saves_13 (fun H locs hw hS => ?_)
  obtain ⟨X2, hX2⟩ : ∃ Xq, Xq = u3 X1 76 0 4 0 := ⟨_, rfl⟩
  rw [← hX2] at hw
  have hRX2 : Rng X2 := by rw [hX2]; exact rng_set hRX1 (show 0 ≤ 0 ∧ 0 ≤ 150 by omega)
  have hVX2 : X2 76 0 4 = 0 := by rw [hX2]; exact u3_s _ _ _ _ _
  have hFX2 : Frm [7100, 7200, 7300, 7400, 7500, 8000, 7000, 8100, 7700, 7800, 7900, 7600, 4042, 4043, 4044] X X2 := by rw [hX2]; exact Frm.set hFX1 (show 7600 ∈ [7100, 7200, 7300, 7400, 7500, 8000, 7000, 8100, 7700, 7800, 7900, 7600, 4042, 4043, 4044] by decide)
  have e3 : X2 70 0 4 = X1 70 0 4 := by rw [hX2, u3_k _ _ _ _ (by decide)]
  have hOn : ordOK X2 := ordOK.nil (by simp only [e3]; omega)
  have hT0 : rmT X2 sg0 := ⟨(by rw [hX2, u3_k _ _ _ _ (by decide)]; exact hVX1), fun i a b => absurd b (by show ¬ i < 0; omega)⟩
  refine lv_aload_n hx hb dX9_saves_14 rfl (lv_at hl 0 rfl) ?_
  refine lv_iconst (v := jI 4) hx hb dX9_saves_15 rfl ?_
  refine lv_iload_n hx hb dX9_saves_16 rfl (lv_at hl 1 rfl) ?_
  have q4 : S4 X X1 := by rw [hX1]; exact S4.set S4.rf ⟨by omega, by omega, by omega, by omega, by omega⟩
  have q5 : S4 X X2 := by rw [hX2]; exact S4.set q4 ⟨by omega, by omega, by omega, by omega, by omega⟩
  have hMq6 : MInv X2 := minv_s4 hMI hRX2 hFX2 q5 (by decide)
  have e7 : X2 40 0 13 = X 40 0 13 := by rw [hX2, u3_k _ _ _ _ (by decide), hX1, u3_k _ _ _ _ (by decide)]
  refine gos_i (run_V (As := [.int (jI 4), .int (jI x)]) (rest := []) hx hb hml hown hts (c_X9_recordOf l D tc base ad cnt X2 Y ln hRX2 hFx hMq6 x (by omega) (by simp only [e7]; omega) hOn (sg0) hT0) (cwV 2 hts gX9_saves_X9_recordOf rfl rfl rfl (by first | exact hd_X9_recordOf | decide +kernel) ⟨Nat.le_of_ble_eq_true rfl, Nat.le_of_ble_eq_true rfl⟩) hK hw (by first | exact Int.le_refl 0 | omega) (by first | exact zlt hc40 | omega) sl_40_0 rfl rfl hl.1 rfl (Nat.le_of_ble_eq_true rfl) dX9_saves_17 ⟨Nat.le_of_ble_eq_true rfl, Nat.le_of_ble_eq_true rfl⟩) hS (fun z8 u9 H locs p10 hw hS => ?_)
  have e11 : X2 70 0 4 = X1 70 0 4 := by rw [hX2, u3_k _ _ _ _ (by decide)]
  obtain ⟨X12, eu9, hRX12, hG13, hMIX12, p10, h4X12, hOX12, hleX12, hzrX12, hTrX12⟩ := p10
  subst eu9
  have hFX12 : Frm [7100, 7200, 7300, 7400, 7500, 8000, 7000, 8100, 7700, 7800, 7900, 7600, 4042, 4043, 4044] X X12 := Frm.tr hFX2 (Frm.mono hG13 (by decide))
  simp only [e11] at hleX12
  refine lv_pop hx hb dX9_saves_20 rfl ?_
  refine lv_iconst (v := jI 0) hx hb dX9_saves_21 rfl ?_
  refine lv_istore_n (lv' := [(3, .int (jI 0)), (0, .ref (ad 40 0)), (1, .int (jI x)), (2, .int (jI shut))]) hx hb dX9_saves_22 rfl hl (by decide) rfl (fun ls hl => ?_)
  have lp23 : ∀ (nn : Nat) (r : Int) (Xa : Nat → Int → Int → Int) (H : Heap) (locs : List Loc) (ls : Array Slot), (30 - r) < (nn : Int) → (Rng Xa) → (Frm [7100, 7200, 7300, 7400, 7500, 8000, 7000, 8100, 7700, 7800, 7900, 7600] X12 Xa) → (0 ≤ r ∧ r ≤ 30) → (ordOK Xa) → (S4 X12 Xa) → (Xa 76 0 4 ≤ 5 * r) → (cOK Xa r 0) → (rmT Xa (recR (fcM X) (lnM X) (mRid X) (mRid X) x r.toNat)) → (rmR Xa (recR (fcM X) (lnM X) (mRid X) (mRid X) x r.toNat)) → (rmV Xa (recR (fcM X) (lnM X) (mRid X) (mRid X) x r.toNat) r 0) → (shut = 1 → ∀ r' k', 0 ≤ r' → r' < r → 0 ≤ k' → k' < fcM X (recR (fcM X) (lnM X) (mRid X) (mRid X) x r.toNat 1 r') → X 48 0 (5 * X 55 0 (recR (fcM X) (lnM X) (mRid X) (mRid X) x r.toNat 1 r') + k') = 0) → (S5 X12 Xa) → wd D tc base (ad, cnt, Xa, Y, ln) H → va_S (frA base) s.heap H locs → lv_has ls 10 [(0, .ref (ad 40 0)), (1, .int (jI x)), (2, .int (jI shut)), (3, .int (jI r))] → W p l e ({ frames := 1, cells := 0, slots := 0, locals := 24 } : Room) s m av9 below meth c H locs 0 0 Q9 (F0 m 23 ls []) := by
    intro nn
    induction nn with
    | zero => intro r Xa H locs ls hm hRXa hGXa hr0 hOa h4Xa hsr hcOa hTa hRa9 hVa hns h5Xa hw hS hl; exfalso; omega
    | succ nn ih23 =>
      intro r Xa H locs ls hm hRXa hGXa hr0 hOa h4Xa hsr hcOa hTa hRa9 hVa hns h5Xa hw hS hl
      have hFXa : Frm [7100, 7200, 7300, 7400, 7500, 8000, 7000, 8100, 7700, 7800, 7900, 7600, 4042, 4043, 4044] X Xa := Frm.tr hFX12 (Frm.mono hGXa (by decide))
      have hTa1 : Xa 70 0 4 = recR (fcM X) (lnM X) (mRid X) (mRid X) x r.toNat 0 0 := hTa.1
      refine lv_iload_n hx hb dX9_saves_23 rfl (lv_at hl 3 rfl) ?_
      refine lv_aload_n hx hb dX9_saves_24 rfl (lv_at hl 0 rfl) ?_
      refine x_geto hx hb hf9 hw (by first | exact Int.le_refl 0 | omega) (by first | exact zlt hc40 | omega) sl_40_29 lk81 dX9_saves_25 ?_
      refine lv_iconst (v := jI 4) hx hb dX9_saves_28 rfl ?_
      refine x_iald hx hb hK.1 hw (by first | exact Int.le_refl 0 | omega) (by first | exact zlt hc70 | omega) ar_70 (len_E ar_70 (by decide)) (by omega) (by omega) (by omega) dX9_saves_29 ?_
      have f14 : 0 ≤ Xa 70 0 4 ∧ Xa 70 0 4 ≤ 30 := hRXa 70 0 4
      refine x_icmp_ge (tgt := 269) hx hb (by omega) (by omega) dX9_saves_30 (by decide) (fun c15 => ?_) (fun c15 => ?_)
      · refine lv_aload_n hx hb dX9_saves_269 rfl (lv_at hl 0 rfl) ?_
        refine x_geto hx hb hf9 hw (by first | exact Int.le_refl 0 | omega) (by first | exact zlt hc40 | omega) sl_40_29 lk81 dX9_saves_270 ?_
        refine lv_iconst (v := jI 4) hx hb dX9_saves_273 rfl ?_
        refine x_iald hx hb hK.1 hw (by first | exact Int.le_refl 0 | omega) (by first | exact zlt hc70 | omega) ar_70 (len_E ar_70 (by decide)) (by omega) (by omega) (by omega) dX9_saves_274 ?_
        have f16 : 0 ≤ Xa 70 0 4 ∧ Xa 70 0 4 ≤ 30 := hRXa 70 0 4
        rw [hQ9]
        refine ret_i (mc := 0) (ms := 0) hx hb hr hlocks hw hS (by first | exact Nat.le_of_ble_eq_true rfl | omega) (by first | exact Nat.le_of_ble_eq_true rfl | omega) dX9_saves_275 ?_
        have q17 : S4 X X1 := by rw [hX1]; exact S4.set S4.rf ⟨by omega, by omega, by omega, by omega, by omega⟩
        have q18 : S4 X X2 := by rw [hX2]; exact S4.set q17 ⟨by omega, by omega, by omega, by omega, by omega⟩
        have q19 : S4 X X12 := S4.tr q18 h4X12
        have q20 : S4 X Xa := S4.tr q19 h4Xa
        have q21 : S4 X X1 := by rw [hX1]; exact S4.set S4.rf ⟨by omega, by omega, by omega, by omega, by omega⟩
        have q22 : S4 X X2 := by rw [hX2]; exact S4.set q21 ⟨by omega, by omega, by omega, by omega, by omega⟩
        have q23 : S4 X X12 := S4.tr q22 h4X12
        have q24 : S4 X Xa := S4.tr q23 h4Xa
        have hfs25 : recR (fcM X) (lnM X) (mRid X) (mRid X) x 30 = recR (fcM X) (lnM X) (mRid X) (mRid X) x r.toNat := recR_end ⟨by omega, by omega⟩ (by omega)
        have q27 : S5 X X1 := by rw [hX1]; exact S5.set S5.rf ⟨by omega, by omega, by omega, by omega, by omega⟩
        have q28 : S5 X X2 := by rw [hX2]; exact S5.set q27 ⟨by omega, by omega, by omega, by omega, by omega⟩
        have q29 : S5 X X12 := S5.tr q28 (S5.frm hG13 (by decide))
        have q30 : S5 X Xa := S5.tr q29 h5Xa
        exact ⟨Xa, rfl, hRXa, hFXa, minv_s4 hMI hRXa hFXa q20 (by decide), by omega, q24, fun _ => ⟨rfl, hcOa.le (by omega)⟩, Or.inr (by rw [hfs25]; exact ⟨by omega, fun h9 r9 k9 a b c d => hns h9 r9 k9 a (by omega) c d, hTa, hRa9, rmV.upto hVa (by omega)⟩), q30, fun q => by omega⟩
      · refine lv_aload_n hx hb dX9_saves_33 rfl (lv_at hl 0 rfl) ?_
        refine x_geto hx hb hf9 hw (by first | exact Int.le_refl 0 | omega) (by first | exact zlt hc40 | omega) sl_40_39 lk111 dX9_saves_34 ?_
        refine lv_iload_n hx hb dX9_saves_37 rfl (lv_at hl 3 rfl) ?_
        refine x_iald hx hb hK.1 hw (by first | exact Int.le_refl 0 | omega) (by first | exact zlt hc80 | omega) ar_80 (len_E ar_80 (by decide)) (by omega) (by omega) (by omega) dX9_saves_38 ?_
        have f31 : 0 ≤ Xa 80 0 r ∧ Xa 80 0 r ≤ 29 := hRXa 80 0 r
        have e32 : Xa 40 0 13 = X 40 0 13 := by rw [hGXa 40 0 13 (show 4014 ∉ [7100, 7200, 7300, 7400, 7500, 8000, 7000, 8100, 7700, 7800, 7900, 7600] by decide), hG13 40 0 13 (show 4014 ∉ [8000, 7000] by decide), hX2, u3_k _ _ _ _ (by decide), hX1, u3_k _ _ _ _ (by decide)]
        have hyr : Xa 80 0 r < X 40 0 13 := by have h9 := hOa.1 r (by omega) (by omega); simp only [e32] at h9; exact h9
        have hyf := hMI.2.2.2.2.2 (Xa 80 0 r) (by have h9 : 0 ≤ Xa 80 0 r ∧ Xa 80 0 r ≤ 29 := hRXa 80 0 r; omega) hyr
        have hyo : Xa 80 0 r = recR (fcM X) (lnM X) (mRid X) (mRid X) x r.toNat 1 r := hTa.2 r (by omega) (by omega)
        have hf55 : ∀ t, X 44 0 t ≤ 5 := fun t => (hR 44 0 t).2
        have f44y : 0 ≤ X 44 0 (X 55 0 (Xa 80 0 r)) ∧ X 44 0 (X 55 0 (Xa 80 0 r)) ≤ 5 := hR 44 0 _
        refine lv_istore (lv' := [(4, .int (jI (Xa 80 0 r))), (0, .ref (ad 40 0)), (1, .int (jI x)), (2, .int (jI shut)), (3, .int (jI r))]) hx hb dX9_saves_39 hl (by decide) rfl (fun ls hl => ?_)
        refine lv_aload_n hx hb dX9_saves_41 rfl (lv_at hl 1 rfl) ?_
        refine x_geto hx hb hf9 hw (by first | exact Int.le_refl 0 | omega) (by first | exact zlt hc40 | omega) sl_40_14 lk45 dX9_saves_42 ?_
        refine lv_iload hx hb dX9_saves_45 (lv_at hl 0 rfl) ?_
        refine x_iald hx hb hK.1 hw (by first | exact Int.le_refl 0 | omega) (by first | exact zlt hc55 | omega) ar_55 (len_E ar_55 (by decide)) (by omega) (by omega) (by omega) dX9_saves_47 ?_
        have e33 : ∀ p9 q9 : Int, Xa 55 p9 q9 = X 55 p9 q9 := fun p9 q9 => by rw [hGXa 55 p9 q9 (show 5500 ∉ [7100, 7200, 7300, 7400, 7500, 8000, 7000, 8100, 7700, 7800, 7900, 7600] by decide), hG13 55 p9 q9 (show 5500 ∉ [8000, 7000] by decide), hX2, u3_k _ _ _ _ (by decide), hX1, u3_k _ _ _ _ (by decide)]
        rw [e33 0 (Xa 80 0 r)]
        have f34 : 0 ≤ X 55 0 (Xa 80 0 r) ∧ X 55 0 (Xa 80 0 r) ≤ 7 := hR 55 0 (Xa 80 0 r)
        refine lv_istore (lv' := [(5, .int (jI (X 55 0 (Xa 80 0 r)))), (4, .int (jI (Xa 80 0 r))), (0, .ref (ad 40 0)), (1, .int (jI x)), (2, .int (jI shut)), (3, .int (jI r))]) hx hb dX9_saves_48 hl (by decide) rfl (fun ls hl => ?_)
        refine lv_aload_n hx hb dX9_saves_50 rfl (lv_at hl 2 rfl) ?_
        refine x_geto hx hb hf9 hw (by first | exact Int.le_refl 0 | omega) (by first | exact zlt hc40 | omega) sl_40_30 lk84 dX9_saves_51 ?_
        refine lv_bipush (v := jI 120) hx hb dX9_saves_54 (by decide) ?_
        refine lv_iload_n hx hb dX9_saves_56 rfl (lv_at hl 5 rfl) ?_
        refine x_iadd hx hb dX9_saves_57 ?_
        refine lv_iload hx hb dX9_saves_58 (lv_at hl 0 rfl) ?_
        refine x_iast hx hb hK.1 hw hS (by first | exact Int.le_refl 0 | omega) (by first | exact zlt hc71 | omega) ar_71 (len_E ar_71 (by decide)) (by omega) (by omega) (by omega) dX9_saves_60 (fun H locs hw hS => ?_)
        obtain ⟨X35, hX35⟩ : ∃ Xq, Xq = u3 Xa 71 0 (120 + r) (X 55 0 (Xa 80 0 r)) := ⟨_, rfl⟩
        rw [← hX35] at hw
        have hRX35 : Rng X35 := by rw [hX35]; exact rng_set hRXa (show 0 ≤ (X 55 0 (Xa 80 0 r)) ∧ (X 55 0 (Xa 80 0 r)) ≤ 7 by omega)
        have hVX35 : X35 71 0 (120 + r) = (X 55 0 (Xa 80 0 r)) := by rw [hX35]; exact u3_s _ _ _ _ _
        have hFX35 : Frm [7100, 7200, 7300, 7400, 7500, 8000, 7000, 8100, 7700, 7800, 7900, 7600, 4042, 4043, 4044] X X35 := by rw [hX35]; exact Frm.set hFXa (show 7100 ∈ [7100, 7200, 7300, 7400, 7500, 8000, 7000, 8100, 7700, 7800, 7900, 7600, 4042, 4043, 4044] by decide)
        refine lv_aload_n hx hb dX9_saves_61 rfl (lv_at hl 2 rfl) ?_
        refine x_geto hx hb hf9 hw (by first | exact Int.le_refl 0 | omega) (by first | exact zlt hc40 | omega) sl_40_31 lk87 dX9_saves_62 ?_
        refine lv_bipush (v := jI 120) hx hb dX9_saves_65 (by decide) ?_
        refine lv_iload_n hx hb dX9_saves_67 rfl (lv_at hl 5 rfl) ?_
        refine x_iadd hx hb dX9_saves_68 ?_
        refine lv_aload_n hx hb dX9_saves_69 rfl (lv_at hl 2 rfl) ?_
        refine x_geto hx hb hf9 hw (by first | exact Int.le_refl 0 | omega) (by first | exact zlt hc40 | omega) sl_40_3 lk13 dX9_saves_70 ?_
        refine lv_iload hx hb dX9_saves_73 (lv_at hl 0 rfl) ?_
        refine x_iald hx hb hK.1 hw (by first | exact Int.le_refl 0 | omega) (by first | exact zlt hc44 | omega) ar_44 (len_E ar_44 (by decide)) (by omega) (by omega) (by omega) dX9_saves_75 ?_
        have e36 : ∀ p9 q9 : Int, X35 44 p9 q9 = X 44 p9 q9 := fun p9 q9 => by rw [hX35, u3_k _ _ _ _ (by decide), hGXa 44 p9 q9 (show 4400 ∉ [7100, 7200, 7300, 7400, 7500, 8000, 7000, 8100, 7700, 7800, 7900, 7600] by decide), hG13 44 p9 q9 (show 4400 ∉ [8000, 7000] by decide), hX2, u3_k _ _ _ _ (by decide), hX1, u3_k _ _ _ _ (by decide)]
        rw [e36 0 (X 55 0 (Xa 80 0 r))]
        have f37 : 0 ≤ X 44 0 (X 55 0 (Xa 80 0 r)) ∧ X 44 0 (X 55 0 (Xa 80 0 r)) ≤ 5 := hR 44 0 (X 55 0 (Xa 80 0 r))
        refine x_iast hx hb hK.1 hw hS (by first | exact Int.le_refl 0 | omega) (by first | exact zlt hc72 | omega) ar_72 (len_E ar_72 (by decide)) (by omega) (by omega) (by omega) dX9_saves_76 (fun H locs hw hS => ?_)
        obtain ⟨X38, hX38⟩ : ∃ Xq, Xq = u3 X35 72 0 (120 + r) (X 44 0 (X 55 0 (Xa 80 0 r))) := ⟨_, rfl⟩
        rw [← hX38] at hw
        have hRX38 : Rng X38 := by rw [hX38]; exact rng_set hRX35 (show 0 ≤ (X 44 0 (X 55 0 (Xa 80 0 r))) ∧ (X 44 0 (X 55 0 (Xa 80 0 r))) ≤ 5 by omega)
        have hVX38 : X38 72 0 (120 + r) = (X 44 0 (X 55 0 (Xa 80 0 r))) := by rw [hX38]; exact u3_s _ _ _ _ _
        have hFX38 : Frm [7100, 7200, 7300, 7400, 7500, 8000, 7000, 8100, 7700, 7800, 7900, 7600, 4042, 4043, 4044] X X38 := by rw [hX38]; exact Frm.set hFX35 (show 7200 ∈ [7100, 7200, 7300, 7400, 7500, 8000, 7000, 8100, 7700, 7800, 7900, 7600, 4042, 4043, 4044] by decide)
        refine lv_iconst (v := jI 0) hx hb dX9_saves_77 rfl ?_
        refine lv_istore (lv' := [(6, .int (jI 0)), (5, .int (jI (X 55 0 (Xa 80 0 r)))), (4, .int (jI (Xa 80 0 r))), (0, .ref (ad 40 0)), (1, .int (jI x)), (2, .int (jI shut)), (3, .int (jI r))]) hx hb dX9_saves_78 hl (by decide) rfl (fun ls hl => ?_)
        have lp80 : ∀ (nn : Nat) (k : Int) (Xb : Nat → Int → Int → Int) (H : Heap) (locs : List Loc) (ls : Array Slot), (5 - k) < (nn : Int) → (Rng Xb) → (Frm [7100, 7200, 7300, 7400, 7500, 8000, 7000, 8100, 7700, 7800, 7900, 7600] X38 Xb) → (0 ≤ k ∧ k ≤ 5) → (ordOK Xb) → (S4 X38 Xb) → (Xb 76 0 4 ≤ 5 * r + k) → (r < Xb 70 0 4) → (cOK Xb r k) → (Xb 71 0 (120 + r) < X 40 0 2) → (Xb 72 0 (120 + r) = X 44 0 (X 55 0 (Xa 80 0 r))) → (rmT Xb (recK (lnM X) (mRid X) (mRid X) (recR (fcM X) (lnM X) (mRid X) (mRid X) x r.toNat) r k.toNat)) → (rmR Xb (recK (lnM X) (mRid X) (mRid X) (recR (fcM X) (lnM X) (mRid X) (mRid X) x r.toNat) r k.toNat)) → (rmV Xb (recK (lnM X) (mRid X) (mRid X) (recR (fcM X) (lnM X) (mRid X) (mRid X) x r.toNat) r k.toNat) r k) → (Xb 71 0 (120 + r) = X 55 0 (Xa 80 0 r)) → (k ≤ X 44 0 (X 55 0 (Xa 80 0 r))) → (shut = 1 → ∀ k', 0 ≤ k' → k' < k → X 48 0 (5 * X 55 0 (Xa 80 0 r) + k') = 0) → (S5 X38 Xb) → wd D tc base (ad, cnt, Xb, Y, ln) H → va_S (frA base) s.heap H locs → lv_has ls 10 [(0, .ref (ad 40 0)), (1, .int (jI x)), (2, .int (jI shut)), (3, .int (jI r)), (4, .int (jI (Xa 80 0 r))), (5, .int (jI (X 55 0 (Xa 80 0 r)))), (6, .int (jI k))] → W p l e ({ frames := 1, cells := 0, slots := 0, locals := 24 } : Room) s m av9 below meth c H locs 0 0 Q9 (F0 m 80 ls []) := by
          intro nn
          induction nn with
          | zero => intro k Xb H locs ls hm hRXb hGXb hk hOb h4Xb hsr hrm hcO h71 h72 hTb hRb9 hVb h71b hkf hnk h5Xb hw hS hl; exfalso; omega
          | succ nn ih80 =>
            intro k Xb H locs ls hm hRXb hGXb hk hOb h4Xb hsr hrm hcO h71 h72 hTb hRb9 hVb h71b hkf hnk h5Xb hw hS hl
            have hFXb : Frm [7100, 7200, 7300, 7400, 7500, 8000, 7000, 8100, 7700, 7800, 7900, 7600, 4042, 4043, 4044] X Xb := Frm.tr hFX38 (Frm.mono hGXb (by decide))
            have hTb1 : Xb 70 0 4 = recK (lnM X) (mRid X) (mRid X) (recR (fcM X) (lnM X) (mRid X) (mRid X) x r.toNat) r k.toNat 0 0 := hTb.1
            refine lv_iload hx hb dX9_saves_80 (lv_at hl 6 rfl) ?_
            refine lv_aload_n hx hb dX9_saves_82 rfl (lv_at hl 0 rfl) ?_
            refine x_geto hx hb hf9 hw (by first | exact Int.le_refl 0 | omega) (by first | exact zlt hc40 | omega) sl_40_3 lk13 dX9_saves_83 ?_
            refine lv_iload hx hb dX9_saves_86 (lv_at hl 5 rfl) ?_
            refine x_iald hx hb hK.1 hw (by first | exact Int.le_refl 0 | omega) (by first | exact zlt hc44 | omega) ar_44 (len_E ar_44 (by decide)) (by omega) (by omega) (by omega) dX9_saves_88 ?_
            have e39 : ∀ p9 q9 : Int, Xb 44 p9 q9 = X 44 p9 q9 := fun p9 q9 => by rw [hGXb 44 p9 q9 (show 4400 ∉ [7100, 7200, 7300, 7400, 7500, 8000, 7000, 8100, 7700, 7800, 7900, 7600] by decide), hX38, u3_k _ _ _ _ (by decide), hX35, u3_k _ _ _ _ (by decide), hGXa 44 p9 q9 (show 4400 ∉ [7100, 7200, 7300, 7400, 7500, 8000, 7000, 8100, 7700, 7800, 7900, 7600] by decide), hG13 44 p9 q9 (show 4400 ∉ [8000, 7000] by decide), hX2, u3_k _ _ _ _ (by decide), hX1, u3_k _ _ _ _ (by decide)]
            rw [e39 0 (X 55 0 (Xa 80 0 r))]
            have f40 : 0 ≤ X 44 0 (X 55 0 (Xa 80 0 r)) ∧ X 44 0 (X 55 0 (Xa 80 0 r)) ≤ 5 := hR 44 0 (X 55 0 (Xa 80 0 r))
            refine x_icmp_ge (tgt := 263) hx hb (by omega) (by omega) dX9_saves_89 (by decide) (fun c41 => ?_) (fun c41 => ?_)
            · refine lv_iinc (v := jI (r + 1)) (lv' := [(3, .int (jI (r + 1))), (0, .ref (ad 40 0)), (1, .int (jI x)), (2, .int (jI shut)), (4, .int (jI (Xa 80 0 r))), (5, .int (jI (X 55 0 (Xa 80 0 r)))), (6, .int (jI k))]) hx hb dX9_saves_263 hl (k := 3) rfl (jI_add _ _) (by decide) rfl (fun ls hl => ?_)
              refine lv_goto (tgt := 23) hx hb dX9_saves_266 (by decide) ?_
              have q42 : Frm [7100, 7200, 7300, 7400, 7500, 8000, 7000, 8100, 7700, 7800, 7900, 7600] X12 Xa := Frm.tr Frm.rf (Frm.mono hGXa (by decide))
              have q43 : Frm [7100, 7200, 7300, 7400, 7500, 8000, 7000, 8100, 7700, 7800, 7900, 7600] X12 X35 := by rw [hX35]; exact Frm.set q42 (show 7100 ∈ [7100, 7200, 7300, 7400, 7500, 8000, 7000, 8100, 7700, 7800, 7900, 7600] by decide)
              have q44 : Frm [7100, 7200, 7300, 7400, 7500, 8000, 7000, 8100, 7700, 7800, 7900, 7600] X12 X38 := by rw [hX38]; exact Frm.set q43 (show 7200 ∈ [7100, 7200, 7300, 7400, 7500, 8000, 7000, 8100, 7700, 7800, 7900, 7600] by decide)
              have q45 : Frm [7100, 7200, 7300, 7400, 7500, 8000, 7000, 8100, 7700, 7800, 7900, 7600] X12 Xb := Frm.tr q44 (Frm.mono hGXb (by decide))
              have q46 : S4 X12 Xa := S4.tr S4.rf h4Xa
              have q47 : S4 X12 X35 := by rw [hX35]; exact S4.set q46 ⟨by omega, by omega, by omega, by omega, by omega⟩
              have q48 : S4 X12 X38 := by rw [hX38]; exact S4.set q47 ⟨by omega, by omega, by omega, by omega, by omega⟩
              have q49 : S4 X12 Xb := S4.tr q48 h4Xb
              have q50 : Frm [7000, 7100, 7200, 7300, 7400, 7500, 7600, 7700, 7800, 7900, 8000, 8100] X X1 := by rw [hX1]; exact Frm.set Frm.rf (show 7000 ∈ [7000, 7100, 7200, 7300, 7400, 7500, 7600, 7700, 7800, 7900, 8000, 8100] by decide)
              have q51 : Frm [7000, 7100, 7200, 7300, 7400, 7500, 7600, 7700, 7800, 7900, 8000, 8100] X X2 := by rw [hX2]; exact Frm.set q50 (show 7600 ∈ [7000, 7100, 7200, 7300, 7400, 7500, 7600, 7700, 7800, 7900, 8000, 8100] by decide)
              have q52 : Frm [7000, 7100, 7200, 7300, 7400, 7500, 7600, 7700, 7800, 7900, 8000, 8100] X X12 := Frm.tr q51 (Frm.mono hG13 (by decide))
              have q53 : Frm [7000, 7100, 7200, 7300, 7400, 7500, 7600, 7700, 7800, 7900, 8000, 8100] X Xa := Frm.tr q52 (Frm.mono hGXa (by decide))
              have q54 : Frm [7000, 7100, 7200, 7300, 7400, 7500, 7600, 7700, 7800, 7900, 8000, 8100] X X35 := by rw [hX35]; exact Frm.set q53 (show 7100 ∈ [7000, 7100, 7200, 7300, 7400, 7500, 7600, 7700, 7800, 7900, 8000, 8100] by decide)
              have q55 : Frm [7000, 7100, 7200, 7300, 7400, 7500, 7600, 7700, 7800, 7900, 8000, 8100] X X38 := by rw [hX38]; exact Frm.set q54 (show 7200 ∈ [7000, 7100, 7200, 7300, 7400, 7500, 7600, 7700, 7800, 7900, 8000, 8100] by decide)
              have q56 : Frm [7000, 7100, 7200, 7300, 7400, 7500, 7600, 7700, 7800, 7900, 8000, 8100] X Xb := Frm.tr q55 (Frm.mono hGXb (by decide))
              have q57 : Frm [7000, 7100, 7200, 7300, 7400, 7500, 7600, 7700, 7800, 7900, 8000, 8100] X X1 := by rw [hX1]; exact Frm.set Frm.rf (show 7000 ∈ [7000, 7100, 7200, 7300, 7400, 7500, 7600, 7700, 7800, 7900, 8000, 8100] by decide)
              have q58 : Frm [7000, 7100, 7200, 7300, 7400, 7500, 7600, 7700, 7800, 7900, 8000, 8100] X X2 := by rw [hX2]; exact Frm.set q57 (show 7600 ∈ [7000, 7100, 7200, 7300, 7400, 7500, 7600, 7700, 7800, 7900, 8000, 8100] by decide)
              have q59 : Frm [7000, 7100, 7200, 7300, 7400, 7500, 7600, 7700, 7800, 7900, 8000, 8100] X X12 := Frm.tr q58 (Frm.mono hG13 (by decide))
              have q60 : Frm [7000, 7100, 7200, 7300, 7400, 7500, 7600, 7700, 7800, 7900, 8000, 8100] X Xa := Frm.tr q59 (Frm.mono hGXa (by decide))
              have q61 : Frm [7000, 7100, 7200, 7300, 7400, 7500, 7600, 7700, 7800, 7900, 8000, 8100] X X35 := by rw [hX35]; exact Frm.set q60 (show 7100 ∈ [7000, 7100, 7200, 7300, 7400, 7500, 7600, 7700, 7800, 7900, 8000, 8100] by decide)
              have q62 : Frm [7000, 7100, 7200, 7300, 7400, 7500, 7600, 7700, 7800, 7900, 8000, 8100] X X38 := by rw [hX38]; exact Frm.set q61 (show 7200 ∈ [7000, 7100, 7200, 7300, 7400, 7500, 7600, 7700, 7800, 7900, 8000, 8100] by decide)
              have q63 : Frm [7000, 7100, 7200, 7300, 7400, 7500, 7600, 7700, 7800, 7900, 8000, 8100] X Xb := Frm.tr q62 (Frm.mono hGXb (by decide))
              have q64 : S5 X12 Xa := S5.tr S5.rf h5Xa
              have q65 : S5 X12 X35 := by rw [hX35]; exact S5.set q64 ⟨by omega, by omega, by omega, by omega, by omega⟩
              have q66 : S5 X12 X38 := by rw [hX38]; exact S5.set q65 ⟨by omega, by omega, by omega, by omega, by omega⟩
              have q67 : S5 X12 Xb := S5.tr q66 h5Xb
              exact ih23 (r + 1) Xb _ _ _ (by omega) hRXb q45 (by omega) (hOb) (q49) (by omega) (hcO.next (by rw [hGXb 40 0 2 (show 4003 ∉ [7100, 7200, 7300, 7400, 7500, 8000, 7000, 8100, 7700, 7800, 7900, 7600] by decide), hX38, u3_k _ _ _ _ (by decide), hX35, u3_k _ _ _ _ (by decide), hGXa 40 0 2 (show 4003 ∉ [7100, 7200, 7300, 7400, 7500, 8000, 7000, 8100, 7700, 7800, 7900, 7600] by decide), hG13 40 0 2 (show 4003 ∉ [8000, 7000] by decide), hX2, u3_k _ _ _ _ (by decide), hX1, u3_k _ _ _ _ (by decide)]; omega) (by rw [h72]; omega)) ((by rw [recR_next (by omega) (by omega) (by show k = X 44 0 (X 55 0 (recR (fcM X) (lnM X) (mRid X) (mRid X) x r.toNat 1 r)); rw [← hyo]; omega)]; exact hTb)) ((by rw [recR_next (by omega) (by omega) (by show k = X 44 0 (X 55 0 (recR (fcM X) (lnM X) (mRid X) (mRid X) x r.toNat 1 r)); rw [← hyo]; omega)]; exact hRb9)) ((by rw [recR_next (by omega) (by omega) (by show k = X 44 0 (X 55 0 (recR (fcM X) (lnM X) (mRid X) (mRid X) x r.toNat 1 r)); rw [← hyo]; omega)]; exact rmV.next (by rw [show fcM Xb (recK (lnM X) (mRid X) (mRid X) (recR (fcM X) (lnM X) (mRid X) (mRid X) x r.toNat) r k.toNat 1 r) = k from by (rw [recK_o _ ⟨by omega, by omega⟩, ← hyo]; unfold fcM; rw [(Frm.arr q56 44 (by decide +kernel) (by decide)), (Frm.arr q63 55 (by decide +kernel) (by decide))]; omega)]; exact hVb) (by rw [recK_o _ ⟨by omega, by omega⟩, ← hyo, (Frm.arr q63 55 (by decide +kernel) (by decide))]; exact h71b) (by rw [recK_o _ ⟨by omega, by omega⟩, ← hyo]; unfold fcM; rw [(Frm.arr q56 44 (by decide +kernel) (by decide)), (Frm.arr q63 55 (by decide +kernel) (by decide))]; exact h72))) ((by rw [recR_next (by omega) (by omega) (by show k = X 44 0 (X 55 0 (recR (fcM X) (lnM X) (mRid X) (mRid X) x r.toNat 1 r)); rw [← hyo]; omega)]; intro h9 r' k' a b c d; rw [recK_o _ ⟨a, by omega⟩] at d ⊢; by_cases e9 : r' = r; rw [e9, ← hyo] at d ⊢; exact hnk h9 k' c (by unfold fcM at d; omega); exact hns h9 r' k' a (by omega) c d)) (q67) hw hS (lv_sub hl [1, 2, 3, 0] rfl)
            · refine lv_aload_n hx hb dX9_saves_92 rfl (lv_at hl 0 rfl) ?_
              refine x_geto hx hb hf9 hw (by first | exact Int.le_refl 0 | omega) (by first | exact zlt hc40 | omega) sl_40_7 lk27 dX9_saves_93 ?_
              refine lv_iconst (v := jI 5) hx hb dX9_saves_96 rfl ?_
              refine lv_iload hx hb dX9_saves_97 (lv_at hl 5 rfl) ?_
              refine x_imul hx hb dX9_saves_99 ?_
              refine lv_iload hx hb dX9_saves_100 (lv_at hl 6 rfl) ?_
              refine x_iadd hx hb dX9_saves_102 ?_
              refine x_zald hx hb hK.1 hw (by first | exact Int.le_refl 0 | omega) (by first | exact zlt hc48 | omega) ar_48 (len_E ar_48 (by decide)) (by omega) (by omega) (by omega) dX9_saves_103 ?_
              have e68 : ∀ p9 q9 : Int, Xb 48 p9 q9 = X 48 p9 q9 := fun p9 q9 => by rw [hGXb 48 p9 q9 (show 4800 ∉ [7100, 7200, 7300, 7400, 7500, 8000, 7000, 8100, 7700, 7800, 7900, 7600] by decide), hX38, u3_k _ _ _ _ (by decide), hX35, u3_k _ _ _ _ (by decide), hGXa 48 p9 q9 (show 4800 ∉ [7100, 7200, 7300, 7400, 7500, 8000, 7000, 8100, 7700, 7800, 7900, 7600] by decide), hG13 48 p9 q9 (show 4800 ∉ [8000, 7000] by decide), hX2, u3_k _ _ _ _ (by decide), hX1, u3_k _ _ _ _ (by decide)]
              rw [e68 0 ((5 * (X 55 0 (Xa 80 0 r))) + k)]
              have f69 : 0 ≤ X 48 0 ((5 * (X 55 0 (Xa 80 0 r))) + k) ∧ X 48 0 ((5 * (X 55 0 (Xa 80 0 r))) + k) ≤ 1 := hR 48 0 ((5 * (X 55 0 (Xa 80 0 r))) + k)
              refine x_if_eq (tgt := 132) hx hb (by omega) dX9_saves_104 (by decide) (fun c70 => ?_) (fun c70 => ?_)
              · refine lv_iconst (v := jI 5) hx hb dX9_saves_132 rfl ?_
                refine lv_bipush (v := jI 120) hx hb dX9_saves_133 (by decide) ?_
                refine lv_iload_n hx hb dX9_saves_135 rfl (lv_at hl 3 rfl) ?_
                refine x_iadd hx hb dX9_saves_136 ?_
                refine x_imul hx hb dX9_saves_137 ?_
                refine lv_iload hx hb dX9_saves_138 (lv_at hl 6 rfl) ?_
                refine x_iadd hx hb dX9_saves_140 ?_
                refine lv_istore (lv' := [(7, .int (jI ((5 * (120 + r)) + k))), (0, .ref (ad 40 0)), (1, .int (jI x)), (2, .int (jI shut)), (3, .int (jI r)), (4, .int (jI (Xa 80 0 r))), (5, .int (jI (X 55 0 (Xa 80 0 r)))), (6, .int (jI k))]) hx hb dX9_saves_141 hl (by decide) rfl (fun ls hl => ?_)
                refine lv_aload_n hx hb dX9_saves_143 rfl (lv_at hl 1 rfl) ?_
                refine x_geto hx hb hf9 hw (by first | exact Int.le_refl 0 | omega) (by first | exact zlt hc40 | omega) sl_40_15 lk48 dX9_saves_144 ?_
                refine lv_iconst (v := jI 5) hx hb dX9_saves_147 rfl ?_
                refine lv_iload hx hb dX9_saves_148 (lv_at hl 5 rfl) ?_
                refine x_imul hx hb dX9_saves_150 ?_
                refine lv_iload hx hb dX9_saves_151 (lv_at hl 7 rfl) ?_
                refine x_iadd hx hb dX9_saves_153 ?_
                obtain ⟨hy1, hy2, hy3⟩ := hMI.1 (Xa 80 0 r) k (by omega) (by omega) (by omega) (by omega)
                refine x_lald hx hb hK.1 hw (by first | exact Int.le_refl 0 | omega) (by first | exact zlt hc56 | omega) ar_56 (len_E ar_56 (by decide)) (by omega) (by omega) (by omega) dX9_saves_154 ?_
                have e71 : ∀ p9 q9 : Int, Xb 56 p9 q9 = X 56 p9 q9 := fun p9 q9 => by rw [hGXb 56 p9 q9 (show 5600 ∉ [7100, 7200, 7300, 7400, 7500, 8000, 7000, 8100, 7700, 7800, 7900, 7600] by decide), hX38, u3_k _ _ _ _ (by decide), hX35, u3_k _ _ _ _ (by decide), hGXa 56 p9 q9 (show 5600 ∉ [7100, 7200, 7300, 7400, 7500, 8000, 7000, 8100, 7700, 7800, 7900, 7600] by decide), hG13 56 p9 q9 (show 5600 ∉ [8000, 7000] by decide), hX2, u3_k _ _ _ _ (by decide), hX1, u3_k _ _ _ _ (by decide)]
                rw [e71 0 ((5 * (Xa 80 0 r)) + k)]
                have f72 : (-9223372036854775808) ≤ X 56 0 ((5 * (Xa 80 0 r)) + k) ∧ X 56 0 ((5 * (Xa 80 0 r)) + k) ≤ 9223372036854775807 := hR 56 0 ((5 * (Xa 80 0 r)) + k)
                refine lv_lstore (lv' := [(8, .long (jL (X 56 0 ((5 * (Xa 80 0 r)) + k)))), (7, .int (jI ((5 * (120 + r)) + k))), (0, .ref (ad 40 0)), (1, .int (jI x)), (2, .int (jI shut)), (3, .int (jI r)), (4, .int (jI (Xa 80 0 r))), (5, .int (jI (X 55 0 (Xa 80 0 r)))), (6, .int (jI k))]) hx hb dX9_saves_155 hl (by decide) rfl (fun ls hl => ?_)
                refine lv_aload_n hx hb dX9_saves_157 rfl (lv_at hl 2 rfl) ?_
                refine x_geto hx hb hf9 hw (by first | exact Int.le_refl 0 | omega) (by first | exact zlt hc40 | omega) sl_40_32 lk90 dX9_saves_158 ?_
                refine lv_iload hx hb dX9_saves_161 (lv_at hl 1 rfl) ?_
                refine lv_aload_n hx hb dX9_saves_163 rfl (lv_at hl 2 rfl) ?_
                refine x_geto hx hb hf9 hw (by first | exact Int.le_refl 0 | omega) (by first | exact zlt hc40 | omega) sl_40_4 lk17 dX9_saves_164 ?_
                refine lv_iconst (v := jI 5) hx hb dX9_saves_167 rfl ?_
                refine lv_iload hx hb dX9_saves_168 (lv_at hl 7 rfl) ?_
                refine x_imul hx hb dX9_saves_170 ?_
                refine lv_iload hx hb dX9_saves_171 (lv_at hl 8 rfl) ?_
                refine x_iadd hx hb dX9_saves_173 ?_
                refine x_iald hx hb hK.1 hw (by first | exact Int.le_refl 0 | omega) (by first | exact zlt hc45 | omega) ar_45 (len_E ar_45 (by decide)) (by omega) (by omega) (by omega) dX9_saves_174 ?_
                have e73 : ∀ p9 q9 : Int, Xb 45 p9 q9 = X 45 p9 q9 := fun p9 q9 => by rw [hGXb 45 p9 q9 (show 4500 ∉ [7100, 7200, 7300, 7400, 7500, 8000, 7000, 8100, 7700, 7800, 7900, 7600] by decide), hX38, u3_k _ _ _ _ (by decide), hX35, u3_k _ _ _ _ (by decide), hGXa 45 p9 q9 (show 4500 ∉ [7100, 7200, 7300, 7400, 7500, 8000, 7000, 8100, 7700, 7800, 7900, 7600] by decide), hG13 45 p9 q9 (show 4500 ∉ [8000, 7000] by decide), hX2, u3_k _ _ _ _ (by decide), hX1, u3_k _ _ _ _ (by decide)]
                rw [e73 0 ((5 * (X 55 0 (Xa 80 0 r))) + k)]
                have f74 : 0 ≤ X 45 0 ((5 * (X 55 0 (Xa 80 0 r))) + k) ∧ X 45 0 ((5 * (X 55 0 (Xa 80 0 r))) + k) ≤ 19 := hR 45 0 ((5 * (X 55 0 (Xa 80 0 r))) + k)
                refine x_iast hx hb hK.1 hw hS (by first | exact Int.le_refl 0 | omega) (by first | exact zlt hc73 | omega) ar_73 (len_E ar_73 (by decide)) (by omega) (by omega) (by omega) dX9_saves_175 (fun H locs hw hS => ?_)
                obtain ⟨X75, hX75⟩ : ∃ Xq, Xq = u3 Xb 73 0 ((5 * (120 + r)) + k) (X 45 0 ((5 * (X 55 0 (Xa 80 0 r))) + k)) := ⟨_, rfl⟩
                rw [← hX75] at hw
                have hRX75 : Rng X75 := by rw [hX75]; exact rng_set hRXb (show 0 ≤ (X 45 0 ((5 * (X 55 0 (Xa 80 0 r))) + k)) ∧ (X 45 0 ((5 * (X 55 0 (Xa 80 0 r))) + k)) ≤ 19 by omega)
                have hVX75 : X75 73 0 ((5 * (120 + r)) + k) = (X 45 0 ((5 * (X 55 0 (Xa 80 0 r))) + k)) := by rw [hX75]; exact u3_s _ _ _ _ _
                have hFX75 : Frm [7100, 7200, 7300, 7400, 7500, 8000, 7000, 8100, 7700, 7800, 7900, 7600, 4042, 4043, 4044] X X75 := by rw [hX75]; exact Frm.set hFXb (show 7300 ∈ [7100, 7200, 7300, 7400, 7500, 8000, 7000, 8100, 7700, 7800, 7900, 7600, 4042, 4043, 4044] by decide)
                refine lv_aload_n hx hb dX9_saves_176 rfl (lv_at hl 2 rfl) ?_
                refine x_geto hx hb hf9 hw (by first | exact Int.le_refl 0 | omega) (by first | exact zlt hc40 | omega) sl_40_33 lk93 dX9_saves_177 ?_
                refine lv_iload hx hb dX9_saves_180 (lv_at hl 1 rfl) ?_
                refine lv_aload_n hx hb dX9_saves_182 rfl (lv_at hl 2 rfl) ?_
                refine x_geto hx hb hf9 hw (by first | exact Int.le_refl 0 | omega) (by first | exact zlt hc40 | omega) sl_40_5 lk20 dX9_saves_183 ?_
                refine lv_iconst (v := jI 5) hx hb dX9_saves_186 rfl ?_
                refine lv_iload hx hb dX9_saves_187 (lv_at hl 7 rfl) ?_
                refine x_imul hx hb dX9_saves_189 ?_
                refine lv_iload hx hb dX9_saves_190 (lv_at hl 8 rfl) ?_
                refine x_iadd hx hb dX9_saves_192 ?_
                refine x_iald hx hb hK.1 hw (by first | exact Int.le_refl 0 | omega) (by first | exact zlt hc46 | omega) ar_46 (len_E ar_46 (by decide)) (by omega) (by omega) (by omega) dX9_saves_193 ?_
                have e76 : ∀ p9 q9 : Int, X75 46 p9 q9 = X 46 p9 q9 := fun p9 q9 => by rw [hX75, u3_k _ _ _ _ (by decide), hGXb 46 p9 q9 (show 4600 ∉ [7100, 7200, 7300, 7400, 7500, 8000, 7000, 8100, 7700, 7800, 7900, 7600] by decide), hX38, u3_k _ _ _ _ (by decide), hX35, u3_k _ _ _ _ (by decide), hGXa 46 p9 q9 (show 4600 ∉ [7100, 7200, 7300, 7400, 7500, 8000, 7000, 8100, 7700, 7800, 7900, 7600] by decide), hG13 46 p9 q9 (show 4600 ∉ [8000, 7000] by decide), hX2, u3_k _ _ _ _ (by decide), hX1, u3_k _ _ _ _ (by decide)]
                rw [e76 0 ((5 * (X 55 0 (Xa 80 0 r))) + k)]
                have f77 : 0 ≤ X 46 0 ((5 * (X 55 0 (Xa 80 0 r))) + k) ∧ X 46 0 ((5 * (X 55 0 (Xa 80 0 r))) + k) ≤ 5 := hR 46 0 ((5 * (X 55 0 (Xa 80 0 r))) + k)
                refine x_iast hx hb hK.1 hw hS (by first | exact Int.le_refl 0 | omega) (by first | exact zlt hc74 | omega) ar_74 (len_E ar_74 (by decide)) (by omega) (by omega) (by omega) dX9_saves_194 (fun H locs hw hS => ?_)
                obtain ⟨X78, hX78⟩ : ∃ Xq, Xq = u3 X75 74 0 ((5 * (120 + r)) + k) (X 46 0 ((5 * (X 55 0 (Xa 80 0 r))) + k)) := ⟨_, rfl⟩
                rw [← hX78] at hw
                have hRX78 : Rng X78 := by rw [hX78]; exact rng_set hRX75 (show 0 ≤ (X 46 0 ((5 * (X 55 0 (Xa 80 0 r))) + k)) ∧ (X 46 0 ((5 * (X 55 0 (Xa 80 0 r))) + k)) ≤ 5 by omega)
                have hVX78 : X78 74 0 ((5 * (120 + r)) + k) = (X 46 0 ((5 * (X 55 0 (Xa 80 0 r))) + k)) := by rw [hX78]; exact u3_s _ _ _ _ _
                have hFX78 : Frm [7100, 7200, 7300, 7400, 7500, 8000, 7000, 8100, 7700, 7800, 7900, 7600, 4042, 4043, 4044] X X78 := by rw [hX78]; exact Frm.set hFX75 (show 7400 ∈ [7100, 7200, 7300, 7400, 7500, 8000, 7000, 8100, 7700, 7800, 7900, 7600, 4042, 4043, 4044] by decide)
                refine lv_aload_n hx hb dX9_saves_195 rfl (lv_at hl 2 rfl) ?_
                refine x_geto hx hb hf9 hw (by first | exact Int.le_refl 0 | omega) (by first | exact zlt hc40 | omega) sl_40_34 lk96 dX9_saves_196 ?_
                refine lv_iload hx hb dX9_saves_199 (lv_at hl 1 rfl) ?_
                refine lv_aload_n hx hb dX9_saves_201 rfl (lv_at hl 2 rfl) ?_
                refine x_geto hx hb hf9 hw (by first | exact Int.le_refl 0 | omega) (by first | exact zlt hc40 | omega) sl_40_33 lk93 dX9_saves_202 ?_
                refine lv_iload hx hb dX9_saves_205 (lv_at hl 1 rfl) ?_
                refine x_iald hx hb hK.1 hw (by first | exact Int.le_refl 0 | omega) (by first | exact zlt hc74 | omega) ar_74 (len_E ar_74 (by decide)) (by omega) (by omega) (by omega) dX9_saves_207 ?_
                rw [hVX78]
                refine lv_iconst (v := jI 2) hx hb dX9_saves_208 rfl ?_
                refine x_icmp_lt (tgt := 219) hx hb (by omega) (by omega) dX9_saves_209 (by decide) (fun c79 => ?_) (fun c79 => ?_)
                · refine lv_lload hx hb dX9_saves_219 (lv_at hl 0 rfl) ?_
                  refine lv_goto (tgt := 256) hx hb dX9_saves_221 (by decide) ?_
                  refine x_last hx hb hK.1 hw hS (by first | exact Int.le_refl 0 | omega) (by first | exact zlt hc75 | omega) ar_75 (len_E ar_75 (by decide)) (by omega) (by omega) (by omega) dX9_saves_256 (fun H locs hw hS => ?_)
                  obtain ⟨X80, hX80⟩ : ∃ Xq, Xq = u3 X78 75 0 ((5 * (120 + r)) + k) (X 56 0 ((5 * (Xa 80 0 r)) + k)) := ⟨_, rfl⟩
                  rw [← hX80] at hw
                  have hRX80 : Rng X80 := by rw [hX80]; exact rng_set hRX78 (show (-9223372036854775808) ≤ (X 56 0 ((5 * (Xa 80 0 r)) + k)) ∧ (X 56 0 ((5 * (Xa 80 0 r)) + k)) ≤ 9223372036854775807 by omega)
                  have hVX80 : X80 75 0 ((5 * (120 + r)) + k) = (X 56 0 ((5 * (Xa 80 0 r)) + k)) := by rw [hX80]; exact u3_s _ _ _ _ _
                  have hFX80 : Frm [7100, 7200, 7300, 7400, 7500, 8000, 7000, 8100, 7700, 7800, 7900, 7600, 4042, 4043, 4044] X X80 := by rw [hX80]; exact Frm.set hFX78 (show 7500 ∈ [7100, 7200, 7300, 7400, 7500, 8000, 7000, 8100, 7700, 7800, 7900, 7600, 4042, 4043, 4044] by decide)
                  refine lv_iinc (v := jI (k + 1)) (lv' := [(6, .int (jI (k + 1))), (8, .long (jL (X 56 0 ((5 * (Xa 80 0 r)) + k)))), (7, .int (jI ((5 * (120 + r)) + k))), (0, .ref (ad 40 0)), (1, .int (jI x)), (2, .int (jI shut)), (3, .int (jI r)), (4, .int (jI (Xa 80 0 r))), (5, .int (jI (X 55 0 (Xa 80 0 r))))]) hx hb dX9_saves_257 hl (k := 8) rfl (jI_add _ _) (by decide) rfl (fun ls hl => ?_)
                  refine lv_goto (tgt := 80) hx hb dX9_saves_260 (by decide) ?_
                  have q81 : Frm [7100, 7200, 7300, 7400, 7500, 8000, 7000, 8100, 7700, 7800, 7900, 7600] X38 Xb := Frm.tr Frm.rf (Frm.mono hGXb (by decide))
                  have q82 : Frm [7100, 7200, 7300, 7400, 7500, 8000, 7000, 8100, 7700, 7800, 7900, 7600] X38 X75 := by rw [hX75]; exact Frm.set q81 (show 7300 ∈ [7100, 7200, 7300, 7400, 7500, 8000, 7000, 8100, 7700, 7800, 7900, 7600] by decide)
                  have q83 : Frm [7100, 7200, 7300, 7400, 7500, 8000, 7000, 8100, 7700, 7800, 7900, 7600] X38 X78 := by rw [hX78]; exact Frm.set q82 (show 7400 ∈ [7100, 7200, 7300, 7400, 7500, 8000, 7000, 8100, 7700, 7800, 7900, 7600] by decide)
                  have q84 : Frm [7100, 7200, 7300, 7400, 7500, 8000, 7000, 8100, 7700, 7800, 7900, 7600] X38 X80 := by rw [hX80]; exact Frm.set q83 (show 7500 ∈ [7100, 7200, 7300, 7400, 7500, 8000, 7000, 8100, 7700, 7800, 7900, 7600] by decide)
                  have e85 : X80 76 0 4 = Xb 76 0 4 := by rw [hX80, u3_k _ _ _ _ (by decide), hX78, u3_k _ _ _ _ (by decide), hX75, u3_k _ _ _ _ (by decide)]
                  have e86 : X80 70 0 4 = Xb 70 0 4 := by rw [hX80, u3_k _ _ _ _ (by decide), hX78, u3_k _ _ _ _ (by decide), hX75, u3_k _ _ _ _ (by decide)]
                  have q87 : Frm [7300, 7400, 7500] Xb X75 := by rw [hX75]; exact Frm.set Frm.rf (show 7300 ∈ [7300, 7400, 7500] by decide)
                  have q88 : Frm [7300, 7400, 7500] Xb X78 := by rw [hX78]; exact Frm.set q87 (show 7400 ∈ [7300, 7400, 7500] by decide)
                  have q89 : Frm [7300, 7400, 7500] Xb X80 := by rw [hX80]; exact Frm.set q88 (show 7500 ∈ [7300, 7400, 7500] by decide)
                  have hO90 : ordOK X80 := ordOK.of hOb q89 (by decide)
                  have q91 : S4 X38 Xb := S4.tr S4.rf h4Xb
                  have q92 : S4 X38 X75 := by rw [hX75]; exact S4.set q91 ⟨by omega, by omega, by omega, by omega, by omega⟩
                  have q93 : S4 X38 X78 := by rw [hX78]; exact S4.set q92 ⟨by omega, by omega, by omega, by omega, by omega⟩
                  have q94 : S4 X38 X80 := by rw [hX80]; exact S4.set q93 ⟨by omega, by omega, by omega, by omega, by omega⟩
                  have e95 : X80 70 0 4 = Xb 70 0 4 := (by rw [hX80, u3_k _ _ _ _ (by decide), hX78, u3_k _ _ _ _ (by decide), hX75, u3_k _ _ _ _ (by decide)])
                  have f96 : 0 ≤ X80 70 0 4 ∧ X80 70 0 4 ≤ 30 := hRX80 70 0 4
                  have e97 : X80 74 0 (5 * (120 + r) + k) = (X 46 0 ((5 * (X 55 0 (Xa 80 0 r))) + k)) := (by rw [hX80, u3_k _ _ _ _ (by decide)]; exact hVX78)
                  have hcq98 : cOK X80 r (k + 1) := cOK.push (cOK.of hcO (by omega) hRX80 (by rw [show X80 40 0 2 = Xb 40 0 2 from (by rw [hX80, u3_k _ _ _ _ (by decide), hX78, u3_k _ _ _ _ (by decide), hX75, u3_k _ _ _ _ (by decide)])]; exact Int.le_refl _) (by omega) (fun r1 a b => ⟨(by rw [hX80, u3_k _ _ _ _ (by decide), hX78, u3_k _ _ _ _ (by decide), hX75, u3_k _ _ _ _ (by decide)]), (by rw [hX80, u3_k _ _ _ _ (by decide), hX78, u3_k _ _ _ _ (by decide), hX75, u3_k _ _ _ _ (by decide)])⟩) (fun j hj => ⟨(by rw [hX80, u3_k _ _ _ _ (by decide), hX78, u3_j _ _ _ _ (by omega), hX75, u3_k _ _ _ _ (by decide)]), (by rw [hX80, u3_j _ _ _ _ (by omega), hX78, u3_k _ _ _ _ (by decide), hX75, u3_k _ _ _ _ (by decide)])⟩) (by omega)) (by unfold ty4; rw [e97, hVX80]; exact ⟨fun _ => by omega, fun _ => by omega, fun _ => by omega⟩)
                  have hla99 : lnM X (recR (fcM X) (lnM X) (mRid X) (mRid X) x r.toNat 1 r) k = X 46 0 (5 * X 55 0 (Xa 80 0 r) + k) := by rw [← hyo]; rfl
                  have hvl100 : mRid X (recR (fcM X) (lnM X) (mRid X) (mRid X) x r.toNat 1 r) k = X 56 0 (5 * Xa 80 0 r + k) := by rw [← hyo]; rfl
                  have q103 : Frm [7300, 7400] Xb X75 := by rw [hX75]; exact Frm.set Frm.rf (show 7300 ∈ [7300, 7400] by decide)
                  have q104 : Frm [7300, 7400] Xb X78 := by rw [hX78]; exact Frm.set q103 (show 7400 ∈ [7300, 7400] by decide)
                  have hT102 : rmT X78 (recK (lnM X) (mRid X) (mRid X) (recR (fcM X) (lnM X) (mRid X) (mRid X) x r.toNat) r k.toNat) := rmT.of hTb (by rw [hX78, u3_k _ _ _ _ (by decide), hX75, u3_k _ _ _ _ (by decide)]) (Frm.arr q104 80 (by decide +kernel) (by decide)) rfl rfl
                  have q106 : Frm [7300, 7400] Xb X75 := by rw [hX75]; exact Frm.set Frm.rf (show 7300 ∈ [7300, 7400] by decide)
                  have q107 : Frm [7300, 7400] Xb X78 := by rw [hX78]; exact Frm.set q106 (show 7400 ∈ [7300, 7400] by decide)
                  have hR9105 : rmR X78 (recK (lnM X) (mRid X) (mRid X) (recR (fcM X) (lnM X) (mRid X) (mRid X) x r.toNat) r k.toNat) := rmR.of hRb9 (by rw [hX78, u3_k _ _ _ _ (by decide), hX75, u3_k _ _ _ _ (by decide)]) (fun q9 hq9 => by simp only [List.mem_cons, List.not_mem_nil, or_false] at hq9; rcases hq9 with rfl | rfl | rfl | rfl | rfl | rfl | rfl | rfl <;> exact Frm.arr q107 _ (by decide +kernel) (by decide)) rfl rfl rfl
                  have hst101 : mStp (lnM X) (mRid X) (mRid X) (recR (fcM X) (lnM X) (mRid X) (mRid X) x r.toNat 1 r) k (5 * r + k) X78 (recK (lnM X) (mRid X) (mRid X) (recR (fcM X) (lnM X) (mRid X) (mRid X) x r.toNat) r k.toNat) (X 56 0 ((5 * (Xa 80 0 r)) + k)) := by first | exact mStp_v hT102 hR9105 (by rw [recP_1 (by rw [hla99]; omega), hvl100]) | (rw [show ((X 56 0 ((5 * (Xa 80 0 r)) + k)) : Int) = -1 by omega]; rcases (show X 46 0 (5 * X 55 0 (Xa 80 0 r) + k) = 2 ∨ 3 ≤ X 46 0 (5 * X 55 0 (Xa 80 0 r) + k) by omega) with h2 | h2; exact mStp_v hT102 hR9105 (recP_2n (by rw [hla99]; exact h2) (by rw [hvl100]; omega)); exact mStp_v hT102 hR9105 (recP_3n (by rw [hla99]; exact h2) (by rw [hvl100]; omega)))
                  have q108 : Frm [7500] X78 X80 := by rw [hX80]; exact Frm.set Frm.rf (show 7500 ∈ [7500] by decide)
                  have q109 : Frm [7500] X78 X80 := by rw [hX80]; exact Frm.set Frm.rf (show 7500 ∈ [7500] by decide)
                  have q110 : Frm [7300, 7400, 7500] Xb X75 := by rw [hX75]; exact Frm.set Frm.rf (show 7300 ∈ [7300, 7400, 7500] by decide)
                  have q111 : Frm [7300, 7400, 7500] Xb X78 := by rw [hX78]; exact Frm.set q110 (show 7400 ∈ [7300, 7400, 7500] by decide)
                  have q112 : Frm [7300, 7400, 7500] Xb X80 := by rw [hX80]; exact Frm.set q111 (show 7500 ∈ [7300, 7400, 7500] by decide)
                  have q114 : Frm [7000, 7100, 7200, 7300, 7400, 7500, 7600, 7700, 7800, 7900, 8000, 8100] X X1 := by rw [hX1]; exact Frm.set Frm.rf (show 7000 ∈ [7000, 7100, 7200, 7300, 7400, 7500, 7600, 7700, 7800, 7900, 8000, 8100] by decide)
                  have q115 : Frm [7000, 7100, 7200, 7300, 7400, 7500, 7600, 7700, 7800, 7900, 8000, 8100] X X2 := by rw [hX2]; exact Frm.set q114 (show 7600 ∈ [7000, 7100, 7200, 7300, 7400, 7500, 7600, 7700, 7800, 7900, 8000, 8100] by decide)
                  have q116 : Frm [7000, 7100, 7200, 7300, 7400, 7500, 7600, 7700, 7800, 7900, 8000, 8100] X X12 := Frm.tr q115 (Frm.mono hG13 (by decide))
                  have q117 : Frm [7000, 7100, 7200, 7300, 7400, 7500, 7600, 7700, 7800, 7900, 8000, 8100] X Xa := Frm.tr q116 (Frm.mono hGXa (by decide))
                  have q118 : Frm [7000, 7100, 7200, 7300, 7400, 7500, 7600, 7700, 7800, 7900, 8000, 8100] X X35 := by rw [hX35]; exact Frm.set q117 (show 7100 ∈ [7000, 7100, 7200, 7300, 7400, 7500, 7600, 7700, 7800, 7900, 8000, 8100] by decide)
                  have q119 : Frm [7000, 7100, 7200, 7300, 7400, 7500, 7600, 7700, 7800, 7900, 8000, 8100] X X38 := by rw [hX38]; exact Frm.set q118 (show 7200 ∈ [7000, 7100, 7200, 7300, 7400, 7500, 7600, 7700, 7800, 7900, 8000, 8100] by decide)
                  have q120 : Frm [7000, 7100, 7200, 7300, 7400, 7500, 7600, 7700, 7800, 7900, 8000, 8100] X Xb := Frm.tr q119 (Frm.mono hGXb (by decide))
                  have q121 : Frm [7000, 7100, 7200, 7300, 7400, 7500, 7600, 7700, 7800, 7900, 8000, 8100] X X75 := by rw [hX75]; exact Frm.set q120 (show 7300 ∈ [7000, 7100, 7200, 7300, 7400, 7500, 7600, 7700, 7800, 7900, 8000, 8100] by decide)
                  have q122 : Frm [7000, 7100, 7200, 7300, 7400, 7500, 7600, 7700, 7800, 7900, 8000, 8100] X X78 := by rw [hX78]; exact Frm.set q121 (show 7400 ∈ [7000, 7100, 7200, 7300, 7400, 7500, 7600, 7700, 7800, 7900, 8000, 8100] by decide)
                  have q123 : Frm [7000, 7100, 7200, 7300, 7400, 7500, 7600, 7700, 7800, 7900, 8000, 8100] X X80 := by rw [hX80]; exact Frm.set q122 (show 7500 ∈ [7000, 7100, 7200, 7300, 7400, 7500, 7600, 7700, 7800, 7900, 8000, 8100] by decide)
                  have hms113 : mSt X X80 := mSt.of (L := [7000, 7100, 7200, 7300, 7400, 7500, 7600, 7700, 7800, 7900, 8000, 8100]) q123 (by decide)
                  have q124 : Frm [7000, 7100, 7200, 7300, 7400, 7500, 7600, 7700, 7800, 7900, 8000, 8100] X X1 := by rw [hX1]; exact Frm.set Frm.rf (show 7000 ∈ [7000, 7100, 7200, 7300, 7400, 7500, 7600, 7700, 7800, 7900, 8000, 8100] by decide)
                  have q125 : Frm [7000, 7100, 7200, 7300, 7400, 7500, 7600, 7700, 7800, 7900, 8000, 8100] X X2 := by rw [hX2]; exact Frm.set q124 (show 7600 ∈ [7000, 7100, 7200, 7300, 7400, 7500, 7600, 7700, 7800, 7900, 8000, 8100] by decide)
                  have q126 : Frm [7000, 7100, 7200, 7300, 7400, 7500, 7600, 7700, 7800, 7900, 8000, 8100] X X12 := Frm.tr q125 (Frm.mono hG13 (by decide))
                  have q127 : Frm [7000, 7100, 7200, 7300, 7400, 7500, 7600, 7700, 7800, 7900, 8000, 8100] X Xa := Frm.tr q126 (Frm.mono hGXa (by decide))
                  have q128 : Frm [7000, 7100, 7200, 7300, 7400, 7500, 7600, 7700, 7800, 7900, 8000, 8100] X X35 := by rw [hX35]; exact Frm.set q127 (show 7100 ∈ [7000, 7100, 7200, 7300, 7400, 7500, 7600, 7700, 7800, 7900, 8000, 8100] by decide)
                  have q129 : Frm [7000, 7100, 7200, 7300, 7400, 7500, 7600, 7700, 7800, 7900, 8000, 8100] X X38 := by rw [hX38]; exact Frm.set q128 (show 7200 ∈ [7000, 7100, 7200, 7300, 7400, 7500, 7600, 7700, 7800, 7900, 8000, 8100] by decide)
                  have q130 : Frm [7000, 7100, 7200, 7300, 7400, 7500, 7600, 7700, 7800, 7900, 8000, 8100] X Xb := Frm.tr q129 (Frm.mono hGXb (by decide))
                  have q131 : Frm [7300, 7400, 7500] Xb X75 := by rw [hX75]; exact Frm.set Frm.rf (show 7300 ∈ [7300, 7400, 7500] by decide)
                  have q132 : Frm [7300, 7400, 7500] Xb X78 := by rw [hX78]; exact Frm.set q131 (show 7400 ∈ [7300, 7400, 7500] by decide)
                  have q133 : Frm [7300, 7400, 7500] Xb X80 := by rw [hX80]; exact Frm.set q132 (show 7500 ∈ [7300, 7400, 7500] by decide)
                  have q134 : Frm [7300, 7400, 7500] Xb X75 := by rw [hX75]; exact Frm.set Frm.rf (show 7300 ∈ [7300, 7400, 7500] by decide)
                  have q135 : Frm [7300, 7400, 7500] Xb X78 := by rw [hX78]; exact Frm.set q134 (show 7400 ∈ [7300, 7400, 7500] by decide)
                  have q136 : Frm [7300, 7400, 7500] Xb X80 := by rw [hX80]; exact Frm.set q135 (show 7500 ∈ [7300, 7400, 7500] by decide)
                  have q137 : S5 X38 Xb := S5.tr S5.rf h5Xb
                  have q138 : S5 X38 X75 := by rw [hX75]; exact S5.set q137 ⟨by omega, by omega, by omega, by omega, by omega⟩
                  have q139 : S5 X38 X78 := by rw [hX78]; exact S5.set q138 ⟨by omega, by omega, by omega, by omega, by omega⟩
                  have q140 : S5 X38 X80 := by rw [hX80]; exact S5.set q139 ⟨by omega, by omega, by omega, by omega, by omega⟩
                  exact ih80 (k + 1) X80 _ _ _ (by omega) hRX80 q84 (by first | omega | (simp only [e85, e86]; omega)) (hO90) (q94) (by first | omega | (simp only [e85, e86]; omega)) (by first | omega | (simp only [e85, e86]; omega)) (hcq98) ((by rw [hX80, u3_k _ _ _ _ (by decide), hX78, u3_k _ _ _ _ (by decide), hX75, u3_k _ _ _ _ (by decide)]; exact h71)) ((by rw [hX80, u3_k _ _ _ _ (by decide), hX78, u3_k _ _ _ _ (by decide), hX75, u3_k _ _ _ _ (by decide)]; exact h72)) ((by rw [recK_s (by omega)]; exact rmT.of hst101.1 (by rw [hX80, u3_k _ _ _ _ (by decide)]) (Frm.arr q108 80 (by decide +kernel) (by decide)) rfl rfl)) ((by rw [recK_s (by omega)]; exact rmR.of hst101.2.1 (by rw [hX80, u3_k _ _ _ _ (by decide)]) (fun q9 hq9 => by simp only [List.mem_cons, List.not_mem_nil, or_false] at hq9; rcases hq9 with rfl | rfl | rfl | rfl | rfl | rfl | rfl | rfl <;> exact Frm.arr q109 _ (by decide +kernel) (by decide)) rfl rfl rfl)) ((by rw [recK_s (by omega)]; exact rmV.push hVb (mSt.of (L := [7300, 7400, 7500]) q112 (by decide)) ⟨by omega, by omega⟩ (by omega) (fun t => by rw [(Frm.arr q130 44 (by decide +kernel) (by decide))]; exact hf55 t) (Frm.arr q133 71 (by decide +kernel) (by decide)) (Frm.arr q136 72 (by decide +kernel) (by decide)) (fun j hj => (by rw [hX80, u3_k _ _ _ _ (by decide), hX78, u3_k _ _ _ _ (by decide), hX75, u3_j _ _ _ _ hj])) (fun j hj => (by rw [hX80, u3_k _ _ _ _ (by decide), hX78, u3_j _ _ _ _ hj, hX75, u3_k _ _ _ _ (by decide)])) (fun j hj => (by rw [hX80, u3_j _ _ _ _ hj, hX78, u3_k _ _ _ _ (by decide), hX75, u3_k _ _ _ _ (by decide)])) (fun q a b => recP_o ⟨a, by omega⟩) (fun q hq => recP_5 hq) ⟨(by rw [recP_o ⟨by omega, by omega⟩, recK_o _ ⟨by omega, by omega⟩, ← hyo, hms113.2.1, hms113.2.2.2]; exact (by rw [hX80, u3_k _ _ _ _ (by decide), hX78, u3_k _ _ _ _ (by decide)]; rw [hVX75])), (by rw [recP_o ⟨by omega, by omega⟩, recK_o _ ⟨by omega, by omega⟩, ← hyo]; unfold lnM; rw [hms113.2.2.1, hms113.2.2.2]; exact (by rw [hX80, u3_k _ _ _ _ (by decide)]; rw [hVX78])), (by rw [hVX80]; exact hst101.2.2)⟩)) ((by rw [hX80, u3_k _ _ _ _ (by decide), hX78, u3_k _ _ _ _ (by decide), hX75, u3_k _ _ _ _ (by decide)]; exact h71b)) (by first | omega | (simp only [e85, e86]; omega)) (fun h9 k' a b => if hk9 : k' = k then (by rw [hk9]; omega) else hnk h9 k' a (by omega)) (q140) hw hS (lv_sub hl [3, 4, 5, 6, 7, 8, 0] rfl)
                · refine lv_lload hx hb dX9_saves_212 (lv_at hl 0 rfl) ?_
                  refine lv_lconst (v := jL 0) hx hb dX9_saves_214 (by decide) ?_
                  refine x_lcmp hx hb (by omega) (by omega) dX9_saves_215 ?_
                  obtain ⟨z141, ez141⟩ : ∃ y : Int, y = cmpZ (X 56 0 ((5 * (Xa 80 0 r)) + k)) 0 := ⟨_, rfl⟩
                  rw [← ez141]
                  have gz141 : (z141 < 0 ↔ ((X 56 0 ((5 * (Xa 80 0 r)) + k)) : Int) < 0) ∧ (z141 = 0 ↔ ((X 56 0 ((5 * (Xa 80 0 r)) + k)) : Int) = 0) ∧ -1 ≤ z141 ∧ z141 ≤ 1 := by rw [ez141]; exact ⟨cmpZ_lt, cmpZ_eq, (cmpZ_r _ _).1, (cmpZ_r _ _).2⟩
                  clear ez141
                  refine x_if_ge (tgt := 224) hx hb (by omega) dX9_saves_216 (by decide) (fun c142 => ?_) (fun c142 => ?_)
                  · refine lv_aload_n hx hb dX9_saves_224 rfl (lv_at hl 2 rfl) ?_
                    refine x_geto hx hb hf9 hw (by first | exact Int.le_refl 0 | omega) (by first | exact zlt hc40 | omega) sl_40_33 lk93 dX9_saves_225 ?_
                    refine lv_iload hx hb dX9_saves_228 (lv_at hl 1 rfl) ?_
                    refine x_iald hx hb hK.1 hw (by first | exact Int.le_refl 0 | omega) (by first | exact zlt hc74 | omega) ar_74 (len_E ar_74 (by decide)) (by omega) (by omega) (by omega) dX9_saves_230 ?_
                    rw [hVX78]
                    refine lv_iconst (v := jI 2) hx hb dX9_saves_231 rfl ?_
                    refine x_icmp_ne (tgt := 247) hx hb (by omega) (by omega) dX9_saves_232 (by decide) (fun c143 => ?_) (fun c143 => ?_)
                    · refine lv_aload_n hx hb dX9_saves_247 rfl (lv_at hl 2 rfl) ?_
                      refine lv_iconst (v := jI 4) hx hb dX9_saves_248 rfl ?_
                      refine lv_lload hx hb dX9_saves_249 (lv_at hl 0 rfl) ?_
                      refine x_l2i hx hb dX9_saves_251 ?_
                      have q144 : S4 X X1 := by rw [hX1]; exact S4.set S4.rf ⟨by omega, by omega, by omega, by omega, by omega⟩
                      have q145 : S4 X X2 := by rw [hX2]; exact S4.set q144 ⟨by omega, by omega, by omega, by omega, by omega⟩
                      have q146 : S4 X X12 := S4.tr q145 h4X12
                      have q147 : S4 X Xa := S4.tr q146 h4Xa
                      have q148 : S4 X X35 := by rw [hX35]; exact S4.set q147 ⟨by omega, by omega, by omega, by omega, by omega⟩
                      have q149 : S4 X X38 := by rw [hX38]; exact S4.set q148 ⟨by omega, by omega, by omega, by omega, by omega⟩
                      have q150 : S4 X Xb := S4.tr q149 h4Xb
                      have q151 : S4 X X75 := by rw [hX75]; exact S4.set q150 ⟨by omega, by omega, by omega, by omega, by omega⟩
                      have q152 : S4 X X78 := by rw [hX78]; exact S4.set q151 ⟨by omega, by omega, by omega, by omega, by omega⟩
                      have hMq153 : MInv X78 := minv_s4 hMI hRX78 hFX78 q152 (by decide)
                      have e154 : X78 76 0 4 = Xb 76 0 4 := by rw [hX78, u3_k _ _ _ _ (by decide), hX75, u3_k _ _ _ _ (by decide)]
                      have q156 : Frm [7300, 7400] Xb X75 := by rw [hX75]; exact Frm.set Frm.rf (show 7300 ∈ [7300, 7400] by decide)
                      have q157 : Frm [7300, 7400] Xb X78 := by rw [hX78]; exact Frm.set q156 (show 7400 ∈ [7300, 7400] by decide)
                      have hR9155 : rmR X78 (recK (lnM X) (mRid X) (mRid X) (recR (fcM X) (lnM X) (mRid X) (mRid X) x r.toNat) r k.toNat) := rmR.of hRb9 (by rw [hX78, u3_k _ _ _ _ (by decide), hX75, u3_k _ _ _ _ (by decide)]) (fun q9 hq9 => by simp only [List.mem_cons, List.not_mem_nil, or_false] at hq9; rcases hq9 with rfl | rfl | rfl | rfl | rfl | rfl | rfl | rfl <;> exact Frm.arr q157 _ (by decide +kernel) (by decide)) rfl rfl rfl
                      have q158 : Frm [7000, 7100, 7200, 7300, 7400, 7500, 7600, 7700, 7800, 7900, 8000, 8100] X X1 := by rw [hX1]; exact Frm.set Frm.rf (show 7000 ∈ [7000, 7100, 7200, 7300, 7400, 7500, 7600, 7700, 7800, 7900, 8000, 8100] by decide)
                      have q159 : Frm [7000, 7100, 7200, 7300, 7400, 7500, 7600, 7700, 7800, 7900, 8000, 8100] X X2 := by rw [hX2]; exact Frm.set q158 (show 7600 ∈ [7000, 7100, 7200, 7300, 7400, 7500, 7600, 7700, 7800, 7900, 8000, 8100] by decide)
                      have q160 : Frm [7000, 7100, 7200, 7300, 7400, 7500, 7600, 7700, 7800, 7900, 8000, 8100] X X12 := Frm.tr q159 (Frm.mono hG13 (by decide))
                      have q161 : Frm [7000, 7100, 7200, 7300, 7400, 7500, 7600, 7700, 7800, 7900, 8000, 8100] X Xa := Frm.tr q160 (Frm.mono hGXa (by decide))
                      have q162 : Frm [7000, 7100, 7200, 7300, 7400, 7500, 7600, 7700, 7800, 7900, 8000, 8100] X X35 := by rw [hX35]; exact Frm.set q161 (show 7100 ∈ [7000, 7100, 7200, 7300, 7400, 7500, 7600, 7700, 7800, 7900, 8000, 8100] by decide)
                      have q163 : Frm [7000, 7100, 7200, 7300, 7400, 7500, 7600, 7700, 7800, 7900, 8000, 8100] X X38 := by rw [hX38]; exact Frm.set q162 (show 7200 ∈ [7000, 7100, 7200, 7300, 7400, 7500, 7600, 7700, 7800, 7900, 8000, 8100] by decide)
                      have q164 : Frm [7000, 7100, 7200, 7300, 7400, 7500, 7600, 7700, 7800, 7900, 8000, 8100] X Xb := Frm.tr q163 (Frm.mono hGXb (by decide))
                      have q165 : Frm [7000, 7100, 7200, 7300, 7400, 7500, 7600, 7700, 7800, 7900, 8000, 8100] X X75 := by rw [hX75]; exact Frm.set q164 (show 7300 ∈ [7000, 7100, 7200, 7300, 7400, 7500, 7600, 7700, 7800, 7900, 8000, 8100] by decide)
                      have q166 : Frm [7000, 7100, 7200, 7300, 7400, 7500, 7600, 7700, 7800, 7900, 8000, 8100] X X78 := by rw [hX78]; exact Frm.set q165 (show 7400 ∈ [7000, 7100, 7200, 7300, 7400, 7500, 7600, 7700, 7800, 7900, 8000, 8100] by decide)
                      refine gos_i (run_V (As := [.int (jI 4), .int (jI (X 56 0 ((5 * (Xa 80 0 r)) + k)))]) (rest := [.int (jI ((5 * (120 + r)) + k)), .ref (ad 75 0)]) hx hb hml hown hts (c_X9_rowOf l D tc base ad cnt X78 Y ln hRX78 hFx hMq153 (X 56 0 ((5 * (Xa 80 0 r)) + k)) (by omega) (by simp only [e154]; omega) (recK (lnM X) (mRid X) (mRid X) (recR (fcM X) (lnM X) (mRid X) (mRid X) x r.toNat) r k.toNat) hR9155 (Xa 80 0 r) k (by unfold mRid; rw [(Frm.arr q166 56 (by decide +kernel) (by decide))])) (cwV 2 hts gX9_saves_X9_rowOf rfl rfl rfl (by first | exact hd_X9_rowOf | decide +kernel) ⟨Nat.le_of_ble_eq_true rfl, Nat.le_of_ble_eq_true rfl⟩) hK hw (by first | exact Int.le_refl 0 | omega) (by first | exact zlt hc40 | omega) sl_40_0 rfl rfl hl.1 rfl (Nat.le_of_ble_eq_true rfl) dX9_saves_252 ⟨Nat.le_of_ble_eq_true rfl, Nat.le_of_ble_eq_true rfl⟩) hS (fun z167 u168 H locs p169 hw hS => ?_)
                      obtain ⟨X170, eu168, hRX170, hG171, hMIX170, p169, hnrX170, hzrX170, hRrX170, h5X170⟩ := p169
                      subst eu168
                      have hFX170 : Frm [7100, 7200, 7300, 7400, 7500, 8000, 7000, 8100, 7700, 7800, 7900, 7600, 4042, 4043, 4044] X X170 := Frm.tr hFX78 (Frm.mono hG171 (by decide))
                      refine x_i2l hx hb (by omega) dX9_saves_255 ?_
                      refine x_last hx hb hK.1 hw hS (by first | exact Int.le_refl 0 | omega) (by first | exact zlt hc75 | omega) ar_75 (len_E ar_75 (by decide)) (by omega) (by omega) (by omega) dX9_saves_256 (fun H locs hw hS => ?_)
                      obtain ⟨X172, hX172⟩ : ∃ Xq, Xq = u3 X170 75 0 ((5 * (120 + r)) + k) z167 := ⟨_, rfl⟩
                      rw [← hX172] at hw
                      have hRX172 : Rng X172 := by rw [hX172]; exact rng_set hRX170 (show (-9223372036854775808) ≤ z167 ∧ z167 ≤ 9223372036854775807 by omega)
                      have hVX172 : X172 75 0 ((5 * (120 + r)) + k) = z167 := by rw [hX172]; exact u3_s _ _ _ _ _
                      have hFX172 : Frm [7100, 7200, 7300, 7400, 7500, 8000, 7000, 8100, 7700, 7800, 7900, 7600, 4042, 4043, 4044] X X172 := by rw [hX172]; exact Frm.set hFX170 (show 7500 ∈ [7100, 7200, 7300, 7400, 7500, 8000, 7000, 8100, 7700, 7800, 7900, 7600, 4042, 4043, 4044] by decide)
                      refine lv_iinc (v := jI (k + 1)) (lv' := [(6, .int (jI (k + 1))), (8, .long (jL (X 56 0 ((5 * (Xa 80 0 r)) + k)))), (7, .int (jI ((5 * (120 + r)) + k))), (0, .ref (ad 40 0)), (1, .int (jI x)), (2, .int (jI shut)), (3, .int (jI r)), (4, .int (jI (Xa 80 0 r))), (5, .int (jI (X 55 0 (Xa 80 0 r))))]) hx hb dX9_saves_257 hl (k := 8) rfl (jI_add _ _) (by decide) rfl (fun ls hl => ?_)
                      refine lv_goto (tgt := 80) hx hb dX9_saves_260 (by decide) ?_
                      have q173 : Frm [7100, 7200, 7300, 7400, 7500, 8000, 7000, 8100, 7700, 7800, 7900, 7600] X38 Xb := Frm.tr Frm.rf (Frm.mono hGXb (by decide))
                      have q174 : Frm [7100, 7200, 7300, 7400, 7500, 8000, 7000, 8100, 7700, 7800, 7900, 7600] X38 X75 := by rw [hX75]; exact Frm.set q173 (show 7300 ∈ [7100, 7200, 7300, 7400, 7500, 8000, 7000, 8100, 7700, 7800, 7900, 7600] by decide)
                      have q175 : Frm [7100, 7200, 7300, 7400, 7500, 8000, 7000, 8100, 7700, 7800, 7900, 7600] X38 X78 := by rw [hX78]; exact Frm.set q174 (show 7400 ∈ [7100, 7200, 7300, 7400, 7500, 8000, 7000, 8100, 7700, 7800, 7900, 7600] by decide)
                      have q176 : Frm [7100, 7200, 7300, 7400, 7500, 8000, 7000, 8100, 7700, 7800, 7900, 7600] X38 X170 := Frm.tr q175 (Frm.mono hG171 (by decide))
                      have q177 : Frm [7100, 7200, 7300, 7400, 7500, 8000, 7000, 8100, 7700, 7800, 7900, 7600] X38 X172 := by rw [hX172]; exact Frm.set q176 (show 7500 ∈ [7100, 7200, 7300, 7400, 7500, 8000, 7000, 8100, 7700, 7800, 7900, 7600] by decide)
                      have e178 : X172 76 0 4 = X170 76 0 4 := by rw [hX172, u3_k _ _ _ _ (by decide)]
                      have e179 : X172 70 0 4 = Xb 70 0 4 := by rw [hX172, u3_k _ _ _ _ (by decide), hG171 70 0 4 (show 7000 ∉ [8100, 7700, 7800, 7900, 7600] by decide), hX78, u3_k _ _ _ _ (by decide), hX75, u3_k _ _ _ _ (by decide)]
                      have q180 : Frm [7300, 7400, 7500, 7600, 7700, 7800, 7900, 8100] Xb X75 := by rw [hX75]; exact Frm.set Frm.rf (show 7300 ∈ [7300, 7400, 7500, 7600, 7700, 7800, 7900, 8100] by decide)
                      have q181 : Frm [7300, 7400, 7500, 7600, 7700, 7800, 7900, 8100] Xb X78 := by rw [hX78]; exact Frm.set q180 (show 7400 ∈ [7300, 7400, 7500, 7600, 7700, 7800, 7900, 8100] by decide)
                      have q182 : Frm [7300, 7400, 7500, 7600, 7700, 7800, 7900, 8100] Xb X170 := Frm.tr q181 (Frm.mono hG171 (by decide))
                      have q183 : Frm [7300, 7400, 7500, 7600, 7700, 7800, 7900, 8100] Xb X172 := by rw [hX172]; exact Frm.set q182 (show 7500 ∈ [7300, 7400, 7500, 7600, 7700, 7800, 7900, 8100] by decide)
                      have hO184 : ordOK X172 := ordOK.of hOb q183 (by decide)
                      have q185 : S4 X38 Xb := S4.tr S4.rf h4Xb
                      have q186 : S4 X38 X75 := by rw [hX75]; exact S4.set q185 ⟨by omega, by omega, by omega, by omega, by omega⟩
                      have q187 : S4 X38 X78 := by rw [hX78]; exact S4.set q186 ⟨by omega, by omega, by omega, by omega, by omega⟩
                      have q188 : S4 X38 X170 := S4.tr q187 (S4.frm hG171 (by decide))
                      have q189 : S4 X38 X172 := by rw [hX172]; exact S4.set q188 ⟨by omega, by omega, by omega, by omega, by omega⟩
                      have e190 : X172 70 0 4 = Xb 70 0 4 := (by rw [hX172, u3_k _ _ _ _ (by decide), hG171 70 0 4 (show 7000 ∉ [8100, 7700, 7800, 7900, 7600] by decide), hX78, u3_k _ _ _ _ (by decide), hX75, u3_k _ _ _ _ (by decide)])
                      have f191 : 0 ≤ X172 70 0 4 ∧ X172 70 0 4 ≤ 30 := hRX172 70 0 4
                      have e192 : X172 74 0 (5 * (120 + r) + k) = (X 46 0 ((5 * (X 55 0 (Xa 80 0 r))) + k)) := (by rw [hX172, u3_k _ _ _ _ (by decide), hG171 74 0 (5 * (120 + r) + k) (show 7400 ∉ [8100, 7700, 7800, 7900, 7600] by decide)]; exact hVX78)
                      have hcq193 : cOK X172 r (k + 1) := cOK.push (cOK.of hcO (by omega) hRX172 (by rw [show X172 40 0 2 = Xb 40 0 2 from (by rw [hX172, u3_k _ _ _ _ (by decide), hG171 40 0 2 (show 4003 ∉ [8100, 7700, 7800, 7900, 7600] by decide), hX78, u3_k _ _ _ _ (by decide), hX75, u3_k _ _ _ _ (by decide)])]; exact Int.le_refl _) (by omega) (fun r1 a b => ⟨(by rw [hX172, u3_k _ _ _ _ (by decide), hG171 71 0 (120 + r1) (show 7100 ∉ [8100, 7700, 7800, 7900, 7600] by decide), hX78, u3_k _ _ _ _ (by decide), hX75, u3_k _ _ _ _ (by decide)]), (by rw [hX172, u3_k _ _ _ _ (by decide), hG171 72 0 (120 + r1) (show 7200 ∉ [8100, 7700, 7800, 7900, 7600] by decide), hX78, u3_k _ _ _ _ (by decide), hX75, u3_k _ _ _ _ (by decide)])⟩) (fun j hj => ⟨(by rw [hX172, u3_k _ _ _ _ (by decide), hG171 74 0 j (show 7400 ∉ [8100, 7700, 7800, 7900, 7600] by decide), hX78, u3_j _ _ _ _ (by omega), hX75, u3_k _ _ _ _ (by decide)]), (by rw [hX172, u3_j _ _ _ _ (by omega), hG171 75 0 j (show 7500 ∉ [8100, 7700, 7800, 7900, 7600] by decide), hX78, u3_k _ _ _ _ (by decide), hX75, u3_k _ _ _ _ (by decide)])⟩) (by omega)) (by unfold ty4; rw [e192, hVX172]; exact ⟨fun _ => by omega, fun _ => by omega, fun _ => by omega⟩)
                      have hla194 : lnM X (recR (fcM X) (lnM X) (mRid X) (mRid X) x r.toNat 1 r) k = X 46 0 (5 * X 55 0 (Xa 80 0 r) + k) := by rw [← hyo]; rfl
                      have hvl195 : mRid X (recR (fcM X) (lnM X) (mRid X) (mRid X) x r.toNat 1 r) k = X 56 0 (5 * Xa 80 0 r + k) := by rw [← hyo]; rfl
                      have q198 : Frm [7300, 7400, 7600, 7700, 7800, 7900, 8100] Xb X75 := by rw [hX75]; exact Frm.set Frm.rf (show 7300 ∈ [7300, 7400, 7600, 7700, 7800, 7900, 8100] by decide)
                      have q199 : Frm [7300, 7400, 7600, 7700, 7800, 7900, 8100] Xb X78 := by rw [hX78]; exact Frm.set q198 (show 7400 ∈ [7300, 7400, 7600, 7700, 7800, 7900, 8100] by decide)
                      have q200 : Frm [7300, 7400, 7600, 7700, 7800, 7900, 8100] Xb X170 := Frm.tr q199 (Frm.mono hG171 (by decide))
                      have hT197 : rmT X170 (recK (lnM X) (mRid X) (mRid X) (recR (fcM X) (lnM X) (mRid X) (mRid X) x r.toNat) r k.toNat) := rmT.of hTb (by rw [hG171 70 0 4 (show 7000 ∉ [8100, 7700, 7800, 7900, 7600] by decide), hX78, u3_k _ _ _ _ (by decide), hX75, u3_k _ _ _ _ (by decide)]) (Frm.arr q200 80 (by decide +kernel) (by decide)) rfl rfl
                      have q202 : Frm [7000, 7100, 7200, 7300, 7400, 7500, 7600, 7700, 7800, 7900, 8000, 8100] X X1 := by rw [hX1]; exact Frm.set Frm.rf (show 7000 ∈ [7000, 7100, 7200, 7300, 7400, 7500, 7600, 7700, 7800, 7900, 8000, 8100] by decide)
                      have q203 : Frm [7000, 7100, 7200, 7300, 7400, 7500, 7600, 7700, 7800, 7900, 8000, 8100] X X2 := by rw [hX2]; exact Frm.set q202 (show 7600 ∈ [7000, 7100, 7200, 7300, 7400, 7500, 7600, 7700, 7800, 7900, 8000, 8100] by decide)
                      have q204 : Frm [7000, 7100, 7200, 7300, 7400, 7500, 7600, 7700, 7800, 7900, 8000, 8100] X X12 := Frm.tr q203 (Frm.mono hG13 (by decide))
                      have q205 : Frm [7000, 7100, 7200, 7300, 7400, 7500, 7600, 7700, 7800, 7900, 8000, 8100] X Xa := Frm.tr q204 (Frm.mono hGXa (by decide))
                      have q206 : Frm [7000, 7100, 7200, 7300, 7400, 7500, 7600, 7700, 7800, 7900, 8000, 8100] X X35 := by rw [hX35]; exact Frm.set q205 (show 7100 ∈ [7000, 7100, 7200, 7300, 7400, 7500, 7600, 7700, 7800, 7900, 8000, 8100] by decide)
                      have q207 : Frm [7000, 7100, 7200, 7300, 7400, 7500, 7600, 7700, 7800, 7900, 8000, 8100] X X38 := by rw [hX38]; exact Frm.set q206 (show 7200 ∈ [7000, 7100, 7200, 7300, 7400, 7500, 7600, 7700, 7800, 7900, 8000, 8100] by decide)
                      have q208 : Frm [7000, 7100, 7200, 7300, 7400, 7500, 7600, 7700, 7800, 7900, 8000, 8100] X Xb := Frm.tr q207 (Frm.mono hGXb (by decide))
                      have q209 : Frm [7000, 7100, 7200, 7300, 7400, 7500, 7600, 7700, 7800, 7900, 8000, 8100] X X75 := by rw [hX75]; exact Frm.set q208 (show 7300 ∈ [7000, 7100, 7200, 7300, 7400, 7500, 7600, 7700, 7800, 7900, 8000, 8100] by decide)
                      have q210 : Frm [7000, 7100, 7200, 7300, 7400, 7500, 7600, 7700, 7800, 7900, 8000, 8100] X X78 := by rw [hX78]; exact Frm.set q209 (show 7400 ∈ [7000, 7100, 7200, 7300, 7400, 7500, 7600, 7700, 7800, 7900, 8000, 8100] by decide)
                      have hmr201 : mRid X78 = mRid X := by funext a9 b9; unfold mRid; rw [(Frm.arr q210 56 (by decide +kernel) (by decide))]
                      have hst196 : mStp (lnM X) (mRid X) (mRid X) (recR (fcM X) (lnM X) (mRid X) (mRid X) x r.toNat 1 r) k (5 * r + k) X170 (recK (lnM X) (mRid X) (mRid X) (recR (fcM X) (lnM X) (mRid X) (mRid X) x r.toNat) r k.toNat) z167 := by have h8 := hRrX170; have h9 := hzrX170; rw [hmr201, hyo] at h8 h9; exact mStp_r (by rw [hla194]; omega) (by rw [hvl195]; omega) hT197 h8 h9
                      have q211 : Frm [7500] X170 X172 := by rw [hX172]; exact Frm.set Frm.rf (show 7500 ∈ [7500] by decide)
                      have q212 : Frm [7500] X170 X172 := by rw [hX172]; exact Frm.set Frm.rf (show 7500 ∈ [7500] by decide)
                      have q213 : Frm [7300, 7400, 7500, 7600, 7700, 7800, 7900, 8100] Xb X75 := by rw [hX75]; exact Frm.set Frm.rf (show 7300 ∈ [7300, 7400, 7500, 7600, 7700, 7800, 7900, 8100] by decide)
                      have q214 : Frm [7300, 7400, 7500, 7600, 7700, 7800, 7900, 8100] Xb X78 := by rw [hX78]; exact Frm.set q213 (show 7400 ∈ [7300, 7400, 7500, 7600, 7700, 7800, 7900, 8100] by decide)
                      have q215 : Frm [7300, 7400, 7500, 7600, 7700, 7800, 7900, 8100] Xb X170 := Frm.tr q214 (Frm.mono hG171 (by decide))
                      have q216 : Frm [7300, 7400, 7500, 7600, 7700, 7800, 7900, 8100] Xb X172 := by rw [hX172]; exact Frm.set q215 (show 7500 ∈ [7300, 7400, 7500, 7600, 7700, 7800, 7900, 8100] by decide)
                      have q218 : Frm [7000, 7100, 7200, 7300, 7400, 7500, 7600, 7700, 7800, 7900, 8000, 8100] X X1 := by rw [hX1]; exact Frm.set Frm.rf (show 7000 ∈ [7000, 7100, 7200, 7300, 7400, 7500, 7600, 7700, 7800, 7900, 8000, 8100] by decide)
                      have q219 : Frm [7000, 7100, 7200, 7300, 7400, 7500, 7600, 7700, 7800, 7900, 8000, 8100] X X2 := by rw [hX2]; exact Frm.set q218 (show 7600 ∈ [7000, 7100, 7200, 7300, 7400, 7500, 7600, 7700, 7800, 7900, 8000, 8100] by decide)
                      have q220 : Frm [7000, 7100, 7200, 7300, 7400, 7500, 7600, 7700, 7800, 7900, 8000, 8100] X X12 := Frm.tr q219 (Frm.mono hG13 (by decide))
                      have q221 : Frm [7000, 7100, 7200, 7300, 7400, 7500, 7600, 7700, 7800, 7900, 8000, 8100] X Xa := Frm.tr q220 (Frm.mono hGXa (by decide))
                      have q222 : Frm [7000, 7100, 7200, 7300, 7400, 7500, 7600, 7700, 7800, 7900, 8000, 8100] X X35 := by rw [hX35]; exact Frm.set q221 (show 7100 ∈ [7000, 7100, 7200, 7300, 7400, 7500, 7600, 7700, 7800, 7900, 8000, 8100] by decide)
                      have q223 : Frm [7000, 7100, 7200, 7300, 7400, 7500, 7600, 7700, 7800, 7900, 8000, 8100] X X38 := by rw [hX38]; exact Frm.set q222 (show 7200 ∈ [7000, 7100, 7200, 7300, 7400, 7500, 7600, 7700, 7800, 7900, 8000, 8100] by decide)
                      have q224 : Frm [7000, 7100, 7200, 7300, 7400, 7500, 7600, 7700, 7800, 7900, 8000, 8100] X Xb := Frm.tr q223 (Frm.mono hGXb (by decide))
                      have q225 : Frm [7000, 7100, 7200, 7300, 7400, 7500, 7600, 7700, 7800, 7900, 8000, 8100] X X75 := by rw [hX75]; exact Frm.set q224 (show 7300 ∈ [7000, 7100, 7200, 7300, 7400, 7500, 7600, 7700, 7800, 7900, 8000, 8100] by decide)
                      have q226 : Frm [7000, 7100, 7200, 7300, 7400, 7500, 7600, 7700, 7800, 7900, 8000, 8100] X X78 := by rw [hX78]; exact Frm.set q225 (show 7400 ∈ [7000, 7100, 7200, 7300, 7400, 7500, 7600, 7700, 7800, 7900, 8000, 8100] by decide)
                      have q227 : Frm [7000, 7100, 7200, 7300, 7400, 7500, 7600, 7700, 7800, 7900, 8000, 8100] X X170 := Frm.tr q226 (Frm.mono hG171 (by decide))
                      have q228 : Frm [7000, 7100, 7200, 7300, 7400, 7500, 7600, 7700, 7800, 7900, 8000, 8100] X X172 := by rw [hX172]; exact Frm.set q227 (show 7500 ∈ [7000, 7100, 7200, 7300, 7400, 7500, 7600, 7700, 7800, 7900, 8000, 8100] by decide)
                      have hms217 : mSt X X172 := mSt.of (L := [7000, 7100, 7200, 7300, 7400, 7500, 7600, 7700, 7800, 7900, 8000, 8100]) q228 (by decide)
                      have q229 : Frm [7000, 7100, 7200, 7300, 7400, 7500, 7600, 7700, 7800, 7900, 8000, 8100] X X1 := by rw [hX1]; exact Frm.set Frm.rf (show 7000 ∈ [7000, 7100, 7200, 7300, 7400, 7500, 7600, 7700, 7800, 7900, 8000, 8100] by decide)
                      have q230 : Frm [7000, 7100, 7200, 7300, 7400, 7500, 7600, 7700, 7800, 7900, 8000, 8100] X X2 := by rw [hX2]; exact Frm.set q229 (show 7600 ∈ [7000, 7100, 7200, 7300, 7400, 7500, 7600, 7700, 7800, 7900, 8000, 8100] by decide)
                      have q231 : Frm [7000, 7100, 7200, 7300, 7400, 7500, 7600, 7700, 7800, 7900, 8000, 8100] X X12 := Frm.tr q230 (Frm.mono hG13 (by decide))
                      have q232 : Frm [7000, 7100, 7200, 7300, 7400, 7500, 7600, 7700, 7800, 7900, 8000, 8100] X Xa := Frm.tr q231 (Frm.mono hGXa (by decide))
                      have q233 : Frm [7000, 7100, 7200, 7300, 7400, 7500, 7600, 7700, 7800, 7900, 8000, 8100] X X35 := by rw [hX35]; exact Frm.set q232 (show 7100 ∈ [7000, 7100, 7200, 7300, 7400, 7500, 7600, 7700, 7800, 7900, 8000, 8100] by decide)
                      have q234 : Frm [7000, 7100, 7200, 7300, 7400, 7500, 7600, 7700, 7800, 7900, 8000, 8100] X X38 := by rw [hX38]; exact Frm.set q233 (show 7200 ∈ [7000, 7100, 7200, 7300, 7400, 7500, 7600, 7700, 7800, 7900, 8000, 8100] by decide)
                      have q235 : Frm [7000, 7100, 7200, 7300, 7400, 7500, 7600, 7700, 7800, 7900, 8000, 8100] X Xb := Frm.tr q234 (Frm.mono hGXb (by decide))
                      have q236 : Frm [7300, 7400, 7500, 7600, 7700, 7800, 7900, 8100] Xb X75 := by rw [hX75]; exact Frm.set Frm.rf (show 7300 ∈ [7300, 7400, 7500, 7600, 7700, 7800, 7900, 8100] by decide)
                      have q237 : Frm [7300, 7400, 7500, 7600, 7700, 7800, 7900, 8100] Xb X78 := by rw [hX78]; exact Frm.set q236 (show 7400 ∈ [7300, 7400, 7500, 7600, 7700, 7800, 7900, 8100] by decide)
                      have q238 : Frm [7300, 7400, 7500, 7600, 7700, 7800, 7900, 8100] Xb X170 := Frm.tr q237 (Frm.mono hG171 (by decide))
                      have q239 : Frm [7300, 7400, 7500, 7600, 7700, 7800, 7900, 8100] Xb X172 := by rw [hX172]; exact Frm.set q238 (show 7500 ∈ [7300, 7400, 7500, 7600, 7700, 7800, 7900, 8100] by decide)
                      have q240 : Frm [7300, 7400, 7500, 7600, 7700, 7800, 7900, 8100] Xb X75 := by rw [hX75]; exact Frm.set Frm.rf (show 7300 ∈ [7300, 7400, 7500, 7600, 7700, 7800, 7900, 8100] by decide)
                      have q241 : Frm [7300, 7400, 7500, 7600, 7700, 7800, 7900, 8100] Xb X78 := by rw [hX78]; exact Frm.set q240 (show 7400 ∈ [7300, 7400, 7500, 7600, 7700, 7800, 7900, 8100] by decide)
                      have q242 : Frm [7300, 7400, 7500, 7600, 7700, 7800, 7900, 8100] Xb X170 := Frm.tr q241 (Frm.mono hG171 (by decide))
                      have q243 : Frm [7300, 7400, 7500, 7600, 7700, 7800, 7900, 8100] Xb X172 := by rw [hX172]; exact Frm.set q242 (show 7500 ∈ [7300, 7400, 7500, 7600, 7700, 7800, 7900, 8100] by decide)
                      have q244 : S5 X38 Xb := S5.tr S5.rf h5Xb
                      have q245 : S5 X38 X75 := by rw [hX75]; exact S5.set q244 ⟨by omega, by omega, by omega, by omega, by omega⟩
                      have q246 : S5 X38 X78 := by rw [hX78]; exact S5.set q245 ⟨by omega, by omega, by omega, by omega, by omega⟩
                      have q247 : S5 X38 X170 := S5.tr q246 h5X170
                      have q248 : S5 X38 X172 := by rw [hX172]; exact S5.set q247 ⟨by omega, by omega, by omega, by omega, by omega⟩
                      exact ih80 (k + 1) X172 _ _ _ (by omega) hRX172 q177 (by first | omega | (simp only [e178, e179]; omega)) (hO184) (q189) (by first | omega | (simp only [e178, e179]; omega)) (by first | omega | (simp only [e178, e179]; omega)) (hcq193) ((by rw [hX172, u3_k _ _ _ _ (by decide), hG171 71 0 (120 + r) (show 7100 ∉ [8100, 7700, 7800, 7900, 7600] by decide), hX78, u3_k _ _ _ _ (by decide), hX75, u3_k _ _ _ _ (by decide)]; exact h71)) ((by rw [hX172, u3_k _ _ _ _ (by decide), hG171 72 0 (120 + r) (show 7200 ∉ [8100, 7700, 7800, 7900, 7600] by decide), hX78, u3_k _ _ _ _ (by decide), hX75, u3_k _ _ _ _ (by decide)]; exact h72)) ((by rw [recK_s (by omega)]; exact rmT.of hst196.1 (by rw [hX172, u3_k _ _ _ _ (by decide)]) (Frm.arr q211 80 (by decide +kernel) (by decide)) rfl rfl)) ((by rw [recK_s (by omega)]; exact rmR.of hst196.2.1 (by rw [hX172, u3_k _ _ _ _ (by decide)]) (fun q9 hq9 => by simp only [List.mem_cons, List.not_mem_nil, or_false] at hq9; rcases hq9 with rfl | rfl | rfl | rfl | rfl | rfl | rfl | rfl <;> exact Frm.arr q212 _ (by decide +kernel) (by decide)) rfl rfl rfl)) ((by rw [recK_s (by omega)]; exact rmV.push hVb (mSt.of (L := [7300, 7400, 7500, 7600, 7700, 7800, 7900, 8100]) q216 (by decide)) ⟨by omega, by omega⟩ (by omega) (fun t => by rw [(Frm.arr q235 44 (by decide +kernel) (by decide))]; exact hf55 t) (Frm.arr q239 71 (by decide +kernel) (by decide)) (Frm.arr q243 72 (by decide +kernel) (by decide)) (fun j hj => (by rw [hX172, u3_k _ _ _ _ (by decide), hG171 73 0 j (show 7300 ∉ [8100, 7700, 7800, 7900, 7600] by decide), hX78, u3_k _ _ _ _ (by decide), hX75, u3_j _ _ _ _ hj])) (fun j hj => (by rw [hX172, u3_k _ _ _ _ (by decide), hG171 74 0 j (show 7400 ∉ [8100, 7700, 7800, 7900, 7600] by decide), hX78, u3_j _ _ _ _ hj, hX75, u3_k _ _ _ _ (by decide)])) (fun j hj => (by rw [hX172, u3_j _ _ _ _ hj, hG171 75 0 j (show 7500 ∉ [8100, 7700, 7800, 7900, 7600] by decide), hX78, u3_k _ _ _ _ (by decide), hX75, u3_k _ _ _ _ (by decide)])) (fun q a b => recP_o ⟨a, by omega⟩) (fun q hq => recP_5 hq) ⟨(by rw [recP_o ⟨by omega, by omega⟩, recK_o _ ⟨by omega, by omega⟩, ← hyo, hms217.2.1, hms217.2.2.2]; exact (by rw [hX172, u3_k _ _ _ _ (by decide), hG171 73 0 (5 * (120 + r) + k) (show 7300 ∉ [8100, 7700, 7800, 7900, 7600] by decide), hX78, u3_k _ _ _ _ (by decide)]; rw [hVX75])), (by rw [recP_o ⟨by omega, by omega⟩, recK_o _ ⟨by omega, by omega⟩, ← hyo]; unfold lnM; rw [hms217.2.2.1, hms217.2.2.2]; exact (by rw [hX172, u3_k _ _ _ _ (by decide), hG171 74 0 (5 * (120 + r) + k) (show 7400 ∉ [8100, 7700, 7800, 7900, 7600] by decide)]; rw [hVX78])), (by rw [hVX172]; exact hst196.2.2)⟩)) ((by rw [hX172, u3_k _ _ _ _ (by decide), hG171 71 0 (120 + r) (show 7100 ∉ [8100, 7700, 7800, 7900, 7600] by decide), hX78, u3_k _ _ _ _ (by decide), hX75, u3_k _ _ _ _ (by decide)]; exact h71b)) (by first | omega | (simp only [e178, e179]; omega)) (fun h9 k' a b => if hk9 : k' = k then (by rw [hk9]; omega) else hnk h9 k' a (by omega)) (q248) hw hS (lv_sub hl [3, 4, 5, 6, 7, 8, 0] rfl)
                    · refine lv_aload_n hx hb dX9_saves_235 rfl (lv_at hl 2 rfl) ?_
                      refine lv_iconst (v := jI 4) hx hb dX9_saves_236 rfl ?_
                      refine lv_lload hx hb dX9_saves_237 (lv_at hl 0 rfl) ?_
                      refine x_l2i hx hb dX9_saves_239 ?_
                      have q249 : S4 X X1 := by rw [hX1]; exact S4.set S4.rf ⟨by omega, by omega, by omega, by omega, by omega⟩
                      have q250 : S4 X X2 := by rw [hX2]; exact S4.set q249 ⟨by omega, by omega, by omega, by omega, by omega⟩
                      have q251 : S4 X X12 := S4.tr q250 h4X12
                      have q252 : S4 X Xa := S4.tr q251 h4Xa
                      have q253 : S4 X X35 := by rw [hX35]; exact S4.set q252 ⟨by omega, by omega, by omega, by omega, by omega⟩
                      have q254 : S4 X X38 := by rw [hX38]; exact S4.set q253 ⟨by omega, by omega, by omega, by omega, by omega⟩
                      have q255 : S4 X Xb := S4.tr q254 h4Xb
                      have q256 : S4 X X75 := by rw [hX75]; exact S4.set q255 ⟨by omega, by omega, by omega, by omega, by omega⟩
                      have q257 : S4 X X78 := by rw [hX78]; exact S4.set q256 ⟨by omega, by omega, by omega, by omega, by omega⟩
                      have hMq258 : MInv X78 := minv_s4 hMI hRX78 hFX78 q257 (by decide)
                      have q259 : Frm [7300, 7400] Xb X75 := by rw [hX75]; exact Frm.set Frm.rf (show 7300 ∈ [7300, 7400] by decide)
                      have q260 : Frm [7300, 7400] Xb X78 := by rw [hX78]; exact Frm.set q259 (show 7400 ∈ [7300, 7400] by decide)
                      have hO261 : ordOK X78 := ordOK.of hOb q260 (by decide)
                      have e262 : X78 40 0 13 = X 40 0 13 := by rw [hX78, u3_k _ _ _ _ (by decide), hX75, u3_k _ _ _ _ (by decide), hGXb 40 0 13 (show 4014 ∉ [7100, 7200, 7300, 7400, 7500, 8000, 7000, 8100, 7700, 7800, 7900, 7600] by decide), hX38, u3_k _ _ _ _ (by decide), hX35, u3_k _ _ _ _ (by decide), hGXa 40 0 13 (show 4014 ∉ [7100, 7200, 7300, 7400, 7500, 8000, 7000, 8100, 7700, 7800, 7900, 7600] by decide), hG13 40 0 13 (show 4014 ∉ [8000, 7000] by decide), hX2, u3_k _ _ _ _ (by decide), hX1, u3_k _ _ _ _ (by decide)]
                      have q264 : Frm [7300, 7400] Xb X75 := by rw [hX75]; exact Frm.set Frm.rf (show 7300 ∈ [7300, 7400] by decide)
                      have q265 : Frm [7300, 7400] Xb X78 := by rw [hX78]; exact Frm.set q264 (show 7400 ∈ [7300, 7400] by decide)
                      have hT263 : rmT X78 (recK (lnM X) (mRid X) (mRid X) (recR (fcM X) (lnM X) (mRid X) (mRid X) x r.toNat) r k.toNat) := rmT.of hTb (by rw [hX78, u3_k _ _ _ _ (by decide), hX75, u3_k _ _ _ _ (by decide)]) (Frm.arr q265 80 (by decide +kernel) (by decide)) rfl rfl
                      refine gos_i (run_V (As := [.int (jI 4), .int (jI (X 56 0 ((5 * (Xa 80 0 r)) + k)))]) (rest := [.int (jI ((5 * (120 + r)) + k)), .ref (ad 75 0)]) hx hb hml hown hts (c_X9_recordOf l D tc base ad cnt X78 Y ln hRX78 hFx hMq258 (X 56 0 ((5 * (Xa 80 0 r)) + k)) (by omega) (by simp only [e262]; omega) hO261 (recK (lnM X) (mRid X) (mRid X) (recR (fcM X) (lnM X) (mRid X) (mRid X) x r.toNat) r k.toNat) hT263) (cwV 2 hts gX9_saves_X9_recordOf rfl rfl rfl (by first | exact hd_X9_recordOf | decide +kernel) ⟨Nat.le_of_ble_eq_true rfl, Nat.le_of_ble_eq_true rfl⟩) hK hw (by first | exact Int.le_refl 0 | omega) (by first | exact zlt hc40 | omega) sl_40_0 rfl rfl hl.1 rfl (Nat.le_of_ble_eq_true rfl) dX9_saves_240 ⟨Nat.le_of_ble_eq_true rfl, Nat.le_of_ble_eq_true rfl⟩) hS (fun z266 u267 H locs p268 hw hS => ?_)
                      have e269 : X78 70 0 4 = Xb 70 0 4 := by rw [hX78, u3_k _ _ _ _ (by decide), hX75, u3_k _ _ _ _ (by decide)]
                      obtain ⟨X270, eu267, hRX270, hG271, hMIX270, p268, h4X270, hOX270, hleX270, hzrX270, hTrX270⟩ := p268
                      subst eu267
                      have hFX270 : Frm [7100, 7200, 7300, 7400, 7500, 8000, 7000, 8100, 7700, 7800, 7900, 7600, 4042, 4043, 4044] X X270 := Frm.tr hFX78 (Frm.mono hG271 (by decide))
                      simp only [e269] at hleX270
                      refine x_i2l hx hb (by omega) dX9_saves_243 ?_
                      refine lv_goto (tgt := 256) hx hb dX9_saves_244 (by decide) ?_
                      refine x_last hx hb hK.1 hw hS (by first | exact Int.le_refl 0 | omega) (by first | exact zlt hc75 | omega) ar_75 (len_E ar_75 (by decide)) (by omega) (by omega) (by omega) dX9_saves_256 (fun H locs hw hS => ?_)
                      obtain ⟨X272, hX272⟩ : ∃ Xq, Xq = u3 X270 75 0 ((5 * (120 + r)) + k) z266 := ⟨_, rfl⟩
                      rw [← hX272] at hw
                      have hRX272 : Rng X272 := by rw [hX272]; exact rng_set hRX270 (show (-9223372036854775808) ≤ z266 ∧ z266 ≤ 9223372036854775807 by omega)
                      have hVX272 : X272 75 0 ((5 * (120 + r)) + k) = z266 := by rw [hX272]; exact u3_s _ _ _ _ _
                      have hFX272 : Frm [7100, 7200, 7300, 7400, 7500, 8000, 7000, 8100, 7700, 7800, 7900, 7600, 4042, 4043, 4044] X X272 := by rw [hX272]; exact Frm.set hFX270 (show 7500 ∈ [7100, 7200, 7300, 7400, 7500, 8000, 7000, 8100, 7700, 7800, 7900, 7600, 4042, 4043, 4044] by decide)
                      refine lv_iinc (v := jI (k + 1)) (lv' := [(6, .int (jI (k + 1))), (8, .long (jL (X 56 0 ((5 * (Xa 80 0 r)) + k)))), (7, .int (jI ((5 * (120 + r)) + k))), (0, .ref (ad 40 0)), (1, .int (jI x)), (2, .int (jI shut)), (3, .int (jI r)), (4, .int (jI (Xa 80 0 r))), (5, .int (jI (X 55 0 (Xa 80 0 r))))]) hx hb dX9_saves_257 hl (k := 8) rfl (jI_add _ _) (by decide) rfl (fun ls hl => ?_)
                      refine lv_goto (tgt := 80) hx hb dX9_saves_260 (by decide) ?_
                      have q273 : Frm [7100, 7200, 7300, 7400, 7500, 8000, 7000, 8100, 7700, 7800, 7900, 7600] X38 Xb := Frm.tr Frm.rf (Frm.mono hGXb (by decide))
                      have q274 : Frm [7100, 7200, 7300, 7400, 7500, 8000, 7000, 8100, 7700, 7800, 7900, 7600] X38 X75 := by rw [hX75]; exact Frm.set q273 (show 7300 ∈ [7100, 7200, 7300, 7400, 7500, 8000, 7000, 8100, 7700, 7800, 7900, 7600] by decide)
                      have q275 : Frm [7100, 7200, 7300, 7400, 7500, 8000, 7000, 8100, 7700, 7800, 7900, 7600] X38 X78 := by rw [hX78]; exact Frm.set q274 (show 7400 ∈ [7100, 7200, 7300, 7400, 7500, 8000, 7000, 8100, 7700, 7800, 7900, 7600] by decide)
                      have q276 : Frm [7100, 7200, 7300, 7400, 7500, 8000, 7000, 8100, 7700, 7800, 7900, 7600] X38 X270 := Frm.tr q275 (Frm.mono hG271 (by decide))
                      have q277 : Frm [7100, 7200, 7300, 7400, 7500, 8000, 7000, 8100, 7700, 7800, 7900, 7600] X38 X272 := by rw [hX272]; exact Frm.set q276 (show 7500 ∈ [7100, 7200, 7300, 7400, 7500, 8000, 7000, 8100, 7700, 7800, 7900, 7600] by decide)
                      have e278 : X272 76 0 4 = Xb 76 0 4 := by rw [hX272, u3_k _ _ _ _ (by decide), hG271 76 0 4 (show 7600 ∉ [8000, 7000] by decide), hX78, u3_k _ _ _ _ (by decide), hX75, u3_k _ _ _ _ (by decide)]
                      have e279 : X272 70 0 4 = X270 70 0 4 := by rw [hX272, u3_k _ _ _ _ (by decide)]
                      have q280 : Frm [7500] X270 X272 := by rw [hX272]; exact Frm.set Frm.rf (show 7500 ∈ [7500] by decide)
                      have hO281 : ordOK X272 := ordOK.of hOX270 q280 (by decide)
                      have q282 : S4 X38 Xb := S4.tr S4.rf h4Xb
                      have q283 : S4 X38 X75 := by rw [hX75]; exact S4.set q282 ⟨by omega, by omega, by omega, by omega, by omega⟩
                      have q284 : S4 X38 X78 := by rw [hX78]; exact S4.set q283 ⟨by omega, by omega, by omega, by omega, by omega⟩
                      have q285 : S4 X38 X270 := S4.tr q284 h4X270
                      have q286 : S4 X38 X272 := by rw [hX272]; exact S4.set q285 ⟨by omega, by omega, by omega, by omega, by omega⟩
                      have e287 : X272 70 0 4 = X270 70 0 4 := (by rw [hX272, u3_k _ _ _ _ (by decide)])
                      have f288 : 0 ≤ X272 70 0 4 ∧ X272 70 0 4 ≤ 30 := hRX272 70 0 4
                      have e289 : X272 74 0 (5 * (120 + r) + k) = (X 46 0 ((5 * (X 55 0 (Xa 80 0 r))) + k)) := (by rw [hX272, u3_k _ _ _ _ (by decide), hG271 74 0 (5 * (120 + r) + k) (show 7400 ∉ [8000, 7000] by decide)]; exact hVX78)
                      have hcq290 : cOK X272 r (k + 1) := cOK.push (cOK.of hcO (by omega) hRX272 (by rw [show X272 40 0 2 = Xb 40 0 2 from (by rw [hX272, u3_k _ _ _ _ (by decide), hG271 40 0 2 (show 4003 ∉ [8000, 7000] by decide), hX78, u3_k _ _ _ _ (by decide), hX75, u3_k _ _ _ _ (by decide)])]; exact Int.le_refl _) (by omega) (fun r1 a b => ⟨(by rw [hX272, u3_k _ _ _ _ (by decide), hG271 71 0 (120 + r1) (show 7100 ∉ [8000, 7000] by decide), hX78, u3_k _ _ _ _ (by decide), hX75, u3_k _ _ _ _ (by decide)]), (by rw [hX272, u3_k _ _ _ _ (by decide), hG271 72 0 (120 + r1) (show 7200 ∉ [8000, 7000] by decide), hX78, u3_k _ _ _ _ (by decide), hX75, u3_k _ _ _ _ (by decide)])⟩) (fun j hj => ⟨(by rw [hX272, u3_k _ _ _ _ (by decide), hG271 74 0 j (show 7400 ∉ [8000, 7000] by decide), hX78, u3_j _ _ _ _ (by omega), hX75, u3_k _ _ _ _ (by decide)]), (by rw [hX272, u3_j _ _ _ _ (by omega), hG271 75 0 j (show 7500 ∉ [8000, 7000] by decide), hX78, u3_k _ _ _ _ (by decide), hX75, u3_k _ _ _ _ (by decide)])⟩) (by omega)) (by unfold ty4; rw [e289, hVX272]; exact ⟨fun _ => by omega, fun _ => by omega, fun _ => by omega⟩)
                      have hla291 : lnM X (recR (fcM X) (lnM X) (mRid X) (mRid X) x r.toNat 1 r) k = X 46 0 (5 * X 55 0 (Xa 80 0 r) + k) := by rw [← hyo]; rfl
                      have hvl292 : mRid X (recR (fcM X) (lnM X) (mRid X) (mRid X) x r.toNat 1 r) k = X 56 0 (5 * Xa 80 0 r + k) := by rw [← hyo]; rfl
                      have q295 : Frm [7000, 7300, 7400, 8000] Xb X75 := by rw [hX75]; exact Frm.set Frm.rf (show 7300 ∈ [7000, 7300, 7400, 8000] by decide)
                      have q296 : Frm [7000, 7300, 7400, 8000] Xb X78 := by rw [hX78]; exact Frm.set q295 (show 7400 ∈ [7000, 7300, 7400, 8000] by decide)
                      have q297 : Frm [7000, 7300, 7400, 8000] Xb X270 := Frm.tr q296 (Frm.mono hG271 (by decide))
                      have hR9294 : rmR X270 (recK (lnM X) (mRid X) (mRid X) (recR (fcM X) (lnM X) (mRid X) (mRid X) x r.toNat) r k.toNat) := rmR.of hRb9 (by rw [hG271 76 0 4 (show 7600 ∉ [8000, 7000] by decide), hX78, u3_k _ _ _ _ (by decide), hX75, u3_k _ _ _ _ (by decide)]) (fun q9 hq9 => by simp only [List.mem_cons, List.not_mem_nil, or_false] at hq9; rcases hq9 with rfl | rfl | rfl | rfl | rfl | rfl | rfl | rfl <;> exact Frm.arr q297 _ (by decide +kernel) (by decide)) rfl rfl rfl
                      have hst293 : mStp (lnM X) (mRid X) (mRid X) (recR (fcM X) (lnM X) (mRid X) (mRid X) x r.toNat 1 r) k (5 * r + k) X270 (recK (lnM X) (mRid X) (mRid X) (recR (fcM X) (lnM X) (mRid X) (mRid X) x r.toNat) r k.toNat) z266 := by have h8 := hTrX270; have h9 := hzrX270; rw [hyo] at h8 h9; exact mStp_t (by rw [hla291]; omega) (by rw [hvl292]; omega) h8 hR9294 h9
                      have q298 : Frm [7500] X270 X272 := by rw [hX272]; exact Frm.set Frm.rf (show 7500 ∈ [7500] by decide)
                      have q299 : Frm [7500] X270 X272 := by rw [hX272]; exact Frm.set Frm.rf (show 7500 ∈ [7500] by decide)
                      have q300 : Frm [7000, 7300, 7400, 7500, 8000] Xb X75 := by rw [hX75]; exact Frm.set Frm.rf (show 7300 ∈ [7000, 7300, 7400, 7500, 8000] by decide)
                      have q301 : Frm [7000, 7300, 7400, 7500, 8000] Xb X78 := by rw [hX78]; exact Frm.set q300 (show 7400 ∈ [7000, 7300, 7400, 7500, 8000] by decide)
                      have q302 : Frm [7000, 7300, 7400, 7500, 8000] Xb X270 := Frm.tr q301 (Frm.mono hG271 (by decide))
                      have q303 : Frm [7000, 7300, 7400, 7500, 8000] Xb X272 := by rw [hX272]; exact Frm.set q302 (show 7500 ∈ [7000, 7300, 7400, 7500, 8000] by decide)
                      have q305 : Frm [7000, 7100, 7200, 7300, 7400, 7500, 7600, 7700, 7800, 7900, 8000, 8100] X X1 := by rw [hX1]; exact Frm.set Frm.rf (show 7000 ∈ [7000, 7100, 7200, 7300, 7400, 7500, 7600, 7700, 7800, 7900, 8000, 8100] by decide)
                      have q306 : Frm [7000, 7100, 7200, 7300, 7400, 7500, 7600, 7700, 7800, 7900, 8000, 8100] X X2 := by rw [hX2]; exact Frm.set q305 (show 7600 ∈ [7000, 7100, 7200, 7300, 7400, 7500, 7600, 7700, 7800, 7900, 8000, 8100] by decide)
                      have q307 : Frm [7000, 7100, 7200, 7300, 7400, 7500, 7600, 7700, 7800, 7900, 8000, 8100] X X12 := Frm.tr q306 (Frm.mono hG13 (by decide))
                      have q308 : Frm [7000, 7100, 7200, 7300, 7400, 7500, 7600, 7700, 7800, 7900, 8000, 8100] X Xa := Frm.tr q307 (Frm.mono hGXa (by decide))
                      have q309 : Frm [7000, 7100, 7200, 7300, 7400, 7500, 7600, 7700, 7800, 7900, 8000, 8100] X X35 := by rw [hX35]; exact Frm.set q308 (show 7100 ∈ [7000, 7100, 7200, 7300, 7400, 7500, 7600, 7700, 7800, 7900, 8000, 8100] by decide)
                      have q310 : Frm [7000, 7100, 7200, 7300, 7400, 7500, 7600, 7700, 7800, 7900, 8000, 8100] X X38 := by rw [hX38]; exact Frm.set q309 (show 7200 ∈ [7000, 7100, 7200, 7300, 7400, 7500, 7600, 7700, 7800, 7900, 8000, 8100] by decide)
                      have q311 : Frm [7000, 7100, 7200, 7300, 7400, 7500, 7600, 7700, 7800, 7900, 8000, 8100] X Xb := Frm.tr q310 (Frm.mono hGXb (by decide))
                      have q312 : Frm [7000, 7100, 7200, 7300, 7400, 7500, 7600, 7700, 7800, 7900, 8000, 8100] X X75 := by rw [hX75]; exact Frm.set q311 (show 7300 ∈ [7000, 7100, 7200, 7300, 7400, 7500, 7600, 7700, 7800, 7900, 8000, 8100] by decide)
                      have q313 : Frm [7000, 7100, 7200, 7300, 7400, 7500, 7600, 7700, 7800, 7900, 8000, 8100] X X78 := by rw [hX78]; exact Frm.set q312 (show 7400 ∈ [7000, 7100, 7200, 7300, 7400, 7500, 7600, 7700, 7800, 7900, 8000, 8100] by decide)
                      have q314 : Frm [7000, 7100, 7200, 7300, 7400, 7500, 7600, 7700, 7800, 7900, 8000, 8100] X X270 := Frm.tr q313 (Frm.mono hG271 (by decide))
                      have q315 : Frm [7000, 7100, 7200, 7300, 7400, 7500, 7600, 7700, 7800, 7900, 8000, 8100] X X272 := by rw [hX272]; exact Frm.set q314 (show 7500 ∈ [7000, 7100, 7200, 7300, 7400, 7500, 7600, 7700, 7800, 7900, 8000, 8100] by decide)
                      have hms304 : mSt X X272 := mSt.of (L := [7000, 7100, 7200, 7300, 7400, 7500, 7600, 7700, 7800, 7900, 8000, 8100]) q315 (by decide)
                      have q316 : Frm [7000, 7100, 7200, 7300, 7400, 7500, 7600, 7700, 7800, 7900, 8000, 8100] X X1 := by rw [hX1]; exact Frm.set Frm.rf (show 7000 ∈ [7000, 7100, 7200, 7300, 7400, 7500, 7600, 7700, 7800, 7900, 8000, 8100] by decide)
                      have q317 : Frm [7000, 7100, 7200, 7300, 7400, 7500, 7600, 7700, 7800, 7900, 8000, 8100] X X2 := by rw [hX2]; exact Frm.set q316 (show 7600 ∈ [7000, 7100, 7200, 7300, 7400, 7500, 7600, 7700, 7800, 7900, 8000, 8100] by decide)
                      have q318 : Frm [7000, 7100, 7200, 7300, 7400, 7500, 7600, 7700, 7800, 7900, 8000, 8100] X X12 := Frm.tr q317 (Frm.mono hG13 (by decide))
                      have q319 : Frm [7000, 7100, 7200, 7300, 7400, 7500, 7600, 7700, 7800, 7900, 8000, 8100] X Xa := Frm.tr q318 (Frm.mono hGXa (by decide))
                      have q320 : Frm [7000, 7100, 7200, 7300, 7400, 7500, 7600, 7700, 7800, 7900, 8000, 8100] X X35 := by rw [hX35]; exact Frm.set q319 (show 7100 ∈ [7000, 7100, 7200, 7300, 7400, 7500, 7600, 7700, 7800, 7900, 8000, 8100] by decide)
                      have q321 : Frm [7000, 7100, 7200, 7300, 7400, 7500, 7600, 7700, 7800, 7900, 8000, 8100] X X38 := by rw [hX38]; exact Frm.set q320 (show 7200 ∈ [7000, 7100, 7200, 7300, 7400, 7500, 7600, 7700, 7800, 7900, 8000, 8100] by decide)
                      have q322 : Frm [7000, 7100, 7200, 7300, 7400, 7500, 7600, 7700, 7800, 7900, 8000, 8100] X Xb := Frm.tr q321 (Frm.mono hGXb (by decide))
                      have q323 : Frm [7000, 7300, 7400, 7500, 8000] Xb X75 := by rw [hX75]; exact Frm.set Frm.rf (show 7300 ∈ [7000, 7300, 7400, 7500, 8000] by decide)
                      have q324 : Frm [7000, 7300, 7400, 7500, 8000] Xb X78 := by rw [hX78]; exact Frm.set q323 (show 7400 ∈ [7000, 7300, 7400, 7500, 8000] by decide)
                      have q325 : Frm [7000, 7300, 7400, 7500, 8000] Xb X270 := Frm.tr q324 (Frm.mono hG271 (by decide))
                      have q326 : Frm [7000, 7300, 7400, 7500, 8000] Xb X272 := by rw [hX272]; exact Frm.set q325 (show 7500 ∈ [7000, 7300, 7400, 7500, 8000] by decide)
                      have q327 : Frm [7000, 7300, 7400, 7500, 8000] Xb X75 := by rw [hX75]; exact Frm.set Frm.rf (show 7300 ∈ [7000, 7300, 7400, 7500, 8000] by decide)
                      have q328 : Frm [7000, 7300, 7400, 7500, 8000] Xb X78 := by rw [hX78]; exact Frm.set q327 (show 7400 ∈ [7000, 7300, 7400, 7500, 8000] by decide)
                      have q329 : Frm [7000, 7300, 7400, 7500, 8000] Xb X270 := Frm.tr q328 (Frm.mono hG271 (by decide))
                      have q330 : Frm [7000, 7300, 7400, 7500, 8000] Xb X272 := by rw [hX272]; exact Frm.set q329 (show 7500 ∈ [7000, 7300, 7400, 7500, 8000] by decide)
                      have q331 : S5 X38 Xb := S5.tr S5.rf h5Xb
                      have q332 : S5 X38 X75 := by rw [hX75]; exact S5.set q331 ⟨by omega, by omega, by omega, by omega, by omega⟩
                      have q333 : S5 X38 X78 := by rw [hX78]; exact S5.set q332 ⟨by omega, by omega, by omega, by omega, by omega⟩
                      have q334 : S5 X38 X270 := S5.tr q333 (S5.frm hG271 (by decide))
                      have q335 : S5 X38 X272 := by rw [hX272]; exact S5.set q334 ⟨by omega, by omega, by omega, by omega, by omega⟩
                      exact ih80 (k + 1) X272 _ _ _ (by omega) hRX272 q277 (by first | omega | (simp only [e278, e279]; omega)) (hO281) (q286) (by first | omega | (simp only [e278, e279]; omega)) (by first | omega | (simp only [e278, e279]; omega)) (hcq290) ((by rw [hX272, u3_k _ _ _ _ (by decide), hG271 71 0 (120 + r) (show 7100 ∉ [8000, 7000] by decide), hX78, u3_k _ _ _ _ (by decide), hX75, u3_k _ _ _ _ (by decide)]; exact h71)) ((by rw [hX272, u3_k _ _ _ _ (by decide), hG271 72 0 (120 + r) (show 7200 ∉ [8000, 7000] by decide), hX78, u3_k _ _ _ _ (by decide), hX75, u3_k _ _ _ _ (by decide)]; exact h72)) ((by rw [recK_s (by omega)]; exact rmT.of hst293.1 (by rw [hX272, u3_k _ _ _ _ (by decide)]) (Frm.arr q298 80 (by decide +kernel) (by decide)) rfl rfl)) ((by rw [recK_s (by omega)]; exact rmR.of hst293.2.1 (by rw [hX272, u3_k _ _ _ _ (by decide)]) (fun q9 hq9 => by simp only [List.mem_cons, List.not_mem_nil, or_false] at hq9; rcases hq9 with rfl | rfl | rfl | rfl | rfl | rfl | rfl | rfl <;> exact Frm.arr q299 _ (by decide +kernel) (by decide)) rfl rfl rfl)) ((by rw [recK_s (by omega)]; exact rmV.push hVb (mSt.of (L := [7000, 7300, 7400, 7500, 8000]) q303 (by decide)) ⟨by omega, by omega⟩ (by omega) (fun t => by rw [(Frm.arr q322 44 (by decide +kernel) (by decide))]; exact hf55 t) (Frm.arr q326 71 (by decide +kernel) (by decide)) (Frm.arr q330 72 (by decide +kernel) (by decide)) (fun j hj => (by rw [hX272, u3_k _ _ _ _ (by decide), hG271 73 0 j (show 7300 ∉ [8000, 7000] by decide), hX78, u3_k _ _ _ _ (by decide), hX75, u3_j _ _ _ _ hj])) (fun j hj => (by rw [hX272, u3_k _ _ _ _ (by decide), hG271 74 0 j (show 7400 ∉ [8000, 7000] by decide), hX78, u3_j _ _ _ _ hj, hX75, u3_k _ _ _ _ (by decide)])) (fun j hj => (by rw [hX272, u3_j _ _ _ _ hj, hG271 75 0 j (show 7500 ∉ [8000, 7000] by decide), hX78, u3_k _ _ _ _ (by decide), hX75, u3_k _ _ _ _ (by decide)])) (fun q a b => recP_o ⟨a, by omega⟩) (fun q hq => recP_5 hq) ⟨(by rw [recP_o ⟨by omega, by omega⟩, recK_o _ ⟨by omega, by omega⟩, ← hyo, hms304.2.1, hms304.2.2.2]; exact (by rw [hX272, u3_k _ _ _ _ (by decide), hG271 73 0 (5 * (120 + r) + k) (show 7300 ∉ [8000, 7000] by decide), hX78, u3_k _ _ _ _ (by decide)]; rw [hVX75])), (by rw [recP_o ⟨by omega, by omega⟩, recK_o _ ⟨by omega, by omega⟩, ← hyo]; unfold lnM; rw [hms304.2.2.1, hms304.2.2.2]; exact (by rw [hX272, u3_k _ _ _ _ (by decide), hG271 74 0 (5 * (120 + r) + k) (show 7400 ∉ [8000, 7000] by decide)]; rw [hVX78])), (by rw [hVX272]; exact hst293.2.2)⟩)) ((by rw [hX272, u3_k _ _ _ _ (by decide), hG271 71 0 (120 + r) (show 7100 ∉ [8000, 7000] by decide), hX78, u3_k _ _ _ _ (by decide), hX75, u3_k _ _ _ _ (by decide)]; exact h71b)) (by first | omega | (simp only [e278, e279]; omega)) (fun h9 k' a b => if hk9 : k' = k then (by rw [hk9]; omega) else hnk h9 k' a (by omega)) (q335) hw hS (lv_sub hl [3, 4, 5, 6, 7, 8, 0] rfl)
                  · refine lv_lload hx hb dX9_saves_219 (lv_at hl 0 rfl) ?_
                    refine lv_goto (tgt := 256) hx hb dX9_saves_221 (by decide) ?_
                    refine x_last hx hb hK.1 hw hS (by first | exact Int.le_refl 0 | omega) (by first | exact zlt hc75 | omega) ar_75 (len_E ar_75 (by decide)) (by omega) (by omega) (by omega) dX9_saves_256 (fun H locs hw hS => ?_)
                    obtain ⟨X336, hX336⟩ : ∃ Xq, Xq = u3 X78 75 0 ((5 * (120 + r)) + k) (X 56 0 ((5 * (Xa 80 0 r)) + k)) := ⟨_, rfl⟩
                    rw [← hX336] at hw
                    have hRX336 : Rng X336 := by rw [hX336]; exact rng_set hRX78 (show (-9223372036854775808) ≤ (X 56 0 ((5 * (Xa 80 0 r)) + k)) ∧ (X 56 0 ((5 * (Xa 80 0 r)) + k)) ≤ 9223372036854775807 by omega)
                    have hVX336 : X336 75 0 ((5 * (120 + r)) + k) = (X 56 0 ((5 * (Xa 80 0 r)) + k)) := by rw [hX336]; exact u3_s _ _ _ _ _
                    have hFX336 : Frm [7100, 7200, 7300, 7400, 7500, 8000, 7000, 8100, 7700, 7800, 7900, 7600, 4042, 4043, 4044] X X336 := by rw [hX336]; exact Frm.set hFX78 (show 7500 ∈ [7100, 7200, 7300, 7400, 7500, 8000, 7000, 8100, 7700, 7800, 7900, 7600, 4042, 4043, 4044] by decide)
                    refine lv_iinc (v := jI (k + 1)) (lv' := [(6, .int (jI (k + 1))), (8, .long (jL (X 56 0 ((5 * (Xa 80 0 r)) + k)))), (7, .int (jI ((5 * (120 + r)) + k))), (0, .ref (ad 40 0)), (1, .int (jI x)), (2, .int (jI shut)), (3, .int (jI r)), (4, .int (jI (Xa 80 0 r))), (5, .int (jI (X 55 0 (Xa 80 0 r))))]) hx hb dX9_saves_257 hl (k := 8) rfl (jI_add _ _) (by decide) rfl (fun ls hl => ?_)
                    refine lv_goto (tgt := 80) hx hb dX9_saves_260 (by decide) ?_
                    have q337 : Frm [7100, 7200, 7300, 7400, 7500, 8000, 7000, 8100, 7700, 7800, 7900, 7600] X38 Xb := Frm.tr Frm.rf (Frm.mono hGXb (by decide))
                    have q338 : Frm [7100, 7200, 7300, 7400, 7500, 8000, 7000, 8100, 7700, 7800, 7900, 7600] X38 X75 := by rw [hX75]; exact Frm.set q337 (show 7300 ∈ [7100, 7200, 7300, 7400, 7500, 8000, 7000, 8100, 7700, 7800, 7900, 7600] by decide)
                    have q339 : Frm [7100, 7200, 7300, 7400, 7500, 8000, 7000, 8100, 7700, 7800, 7900, 7600] X38 X78 := by rw [hX78]; exact Frm.set q338 (show 7400 ∈ [7100, 7200, 7300, 7400, 7500, 8000, 7000, 8100, 7700, 7800, 7900, 7600] by decide)
                    have q340 : Frm [7100, 7200, 7300, 7400, 7500, 8000, 7000, 8100, 7700, 7800, 7900, 7600] X38 X336 := by rw [hX336]; exact Frm.set q339 (show 7500 ∈ [7100, 7200, 7300, 7400, 7500, 8000, 7000, 8100, 7700, 7800, 7900, 7600] by decide)
                    have e341 : X336 76 0 4 = Xb 76 0 4 := by rw [hX336, u3_k _ _ _ _ (by decide), hX78, u3_k _ _ _ _ (by decide), hX75, u3_k _ _ _ _ (by decide)]
                    have e342 : X336 70 0 4 = Xb 70 0 4 := by rw [hX336, u3_k _ _ _ _ (by decide), hX78, u3_k _ _ _ _ (by decide), hX75, u3_k _ _ _ _ (by decide)]
                    have q343 : Frm [7300, 7400, 7500] Xb X75 := by rw [hX75]; exact Frm.set Frm.rf (show 7300 ∈ [7300, 7400, 7500] by decide)
                    have q344 : Frm [7300, 7400, 7500] Xb X78 := by rw [hX78]; exact Frm.set q343 (show 7400 ∈ [7300, 7400, 7500] by decide)
                    have q345 : Frm [7300, 7400, 7500] Xb X336 := by rw [hX336]; exact Frm.set q344 (show 7500 ∈ [7300, 7400, 7500] by decide)
                    have hO346 : ordOK X336 := ordOK.of hOb q345 (by decide)
                    have q347 : S4 X38 Xb := S4.tr S4.rf h4Xb
                    have q348 : S4 X38 X75 := by rw [hX75]; exact S4.set q347 ⟨by omega, by omega, by omega, by omega, by omega⟩
                    have q349 : S4 X38 X78 := by rw [hX78]; exact S4.set q348 ⟨by omega, by omega, by omega, by omega, by omega⟩
                    have q350 : S4 X38 X336 := by rw [hX336]; exact S4.set q349 ⟨by omega, by omega, by omega, by omega, by omega⟩
                    have e351 : X336 70 0 4 = Xb 70 0 4 := (by rw [hX336, u3_k _ _ _ _ (by decide), hX78, u3_k _ _ _ _ (by decide), hX75, u3_k _ _ _ _ (by decide)])
                    have f352 : 0 ≤ X336 70 0 4 ∧ X336 70 0 4 ≤ 30 := hRX336 70 0 4
                    have e353 : X336 74 0 (5 * (120 + r) + k) = (X 46 0 ((5 * (X 55 0 (Xa 80 0 r))) + k)) := (by rw [hX336, u3_k _ _ _ _ (by decide)]; exact hVX78)
                    have hcq354 : cOK X336 r (k + 1) := cOK.push (cOK.of hcO (by omega) hRX336 (by rw [show X336 40 0 2 = Xb 40 0 2 from (by rw [hX336, u3_k _ _ _ _ (by decide), hX78, u3_k _ _ _ _ (by decide), hX75, u3_k _ _ _ _ (by decide)])]; exact Int.le_refl _) (by omega) (fun r1 a b => ⟨(by rw [hX336, u3_k _ _ _ _ (by decide), hX78, u3_k _ _ _ _ (by decide), hX75, u3_k _ _ _ _ (by decide)]), (by rw [hX336, u3_k _ _ _ _ (by decide), hX78, u3_k _ _ _ _ (by decide), hX75, u3_k _ _ _ _ (by decide)])⟩) (fun j hj => ⟨(by rw [hX336, u3_k _ _ _ _ (by decide), hX78, u3_j _ _ _ _ (by omega), hX75, u3_k _ _ _ _ (by decide)]), (by rw [hX336, u3_j _ _ _ _ (by omega), hX78, u3_k _ _ _ _ (by decide), hX75, u3_k _ _ _ _ (by decide)])⟩) (by omega)) (by unfold ty4; rw [e353, hVX336]; exact ⟨fun _ => by omega, fun _ => by omega, fun _ => by omega⟩)
                    have hla355 : lnM X (recR (fcM X) (lnM X) (mRid X) (mRid X) x r.toNat 1 r) k = X 46 0 (5 * X 55 0 (Xa 80 0 r) + k) := by rw [← hyo]; rfl
                    have hvl356 : mRid X (recR (fcM X) (lnM X) (mRid X) (mRid X) x r.toNat 1 r) k = X 56 0 (5 * Xa 80 0 r + k) := by rw [← hyo]; rfl
                    have q359 : Frm [7300, 7400] Xb X75 := by rw [hX75]; exact Frm.set Frm.rf (show 7300 ∈ [7300, 7400] by decide)
                    have q360 : Frm [7300, 7400] Xb X78 := by rw [hX78]; exact Frm.set q359 (show 7400 ∈ [7300, 7400] by decide)
                    have hT358 : rmT X78 (recK (lnM X) (mRid X) (mRid X) (recR (fcM X) (lnM X) (mRid X) (mRid X) x r.toNat) r k.toNat) := rmT.of hTb (by rw [hX78, u3_k _ _ _ _ (by decide), hX75, u3_k _ _ _ _ (by decide)]) (Frm.arr q360 80 (by decide +kernel) (by decide)) rfl rfl
                    have q362 : Frm [7300, 7400] Xb X75 := by rw [hX75]; exact Frm.set Frm.rf (show 7300 ∈ [7300, 7400] by decide)
                    have q363 : Frm [7300, 7400] Xb X78 := by rw [hX78]; exact Frm.set q362 (show 7400 ∈ [7300, 7400] by decide)
                    have hR9361 : rmR X78 (recK (lnM X) (mRid X) (mRid X) (recR (fcM X) (lnM X) (mRid X) (mRid X) x r.toNat) r k.toNat) := rmR.of hRb9 (by rw [hX78, u3_k _ _ _ _ (by decide), hX75, u3_k _ _ _ _ (by decide)]) (fun q9 hq9 => by simp only [List.mem_cons, List.not_mem_nil, or_false] at hq9; rcases hq9 with rfl | rfl | rfl | rfl | rfl | rfl | rfl | rfl <;> exact Frm.arr q363 _ (by decide +kernel) (by decide)) rfl rfl rfl
                    have hst357 : mStp (lnM X) (mRid X) (mRid X) (recR (fcM X) (lnM X) (mRid X) (mRid X) x r.toNat 1 r) k (5 * r + k) X78 (recK (lnM X) (mRid X) (mRid X) (recR (fcM X) (lnM X) (mRid X) (mRid X) x r.toNat) r k.toNat) (X 56 0 ((5 * (Xa 80 0 r)) + k)) := by first | exact mStp_v hT358 hR9361 (by rw [recP_1 (by rw [hla355]; omega), hvl356]) | (rw [show ((X 56 0 ((5 * (Xa 80 0 r)) + k)) : Int) = -1 by omega]; rcases (show X 46 0 (5 * X 55 0 (Xa 80 0 r) + k) = 2 ∨ 3 ≤ X 46 0 (5 * X 55 0 (Xa 80 0 r) + k) by omega) with h2 | h2; exact mStp_v hT358 hR9361 (recP_2n (by rw [hla355]; exact h2) (by rw [hvl356]; omega)); exact mStp_v hT358 hR9361 (recP_3n (by rw [hla355]; exact h2) (by rw [hvl356]; omega)))
                    have q364 : Frm [7500] X78 X336 := by rw [hX336]; exact Frm.set Frm.rf (show 7500 ∈ [7500] by decide)
                    have q365 : Frm [7500] X78 X336 := by rw [hX336]; exact Frm.set Frm.rf (show 7500 ∈ [7500] by decide)
                    have q366 : Frm [7300, 7400, 7500] Xb X75 := by rw [hX75]; exact Frm.set Frm.rf (show 7300 ∈ [7300, 7400, 7500] by decide)
                    have q367 : Frm [7300, 7400, 7500] Xb X78 := by rw [hX78]; exact Frm.set q366 (show 7400 ∈ [7300, 7400, 7500] by decide)
                    have q368 : Frm [7300, 7400, 7500] Xb X336 := by rw [hX336]; exact Frm.set q367 (show 7500 ∈ [7300, 7400, 7500] by decide)
                    have q370 : Frm [7000, 7100, 7200, 7300, 7400, 7500, 7600, 7700, 7800, 7900, 8000, 8100] X X1 := by rw [hX1]; exact Frm.set Frm.rf (show 7000 ∈ [7000, 7100, 7200, 7300, 7400, 7500, 7600, 7700, 7800, 7900, 8000, 8100] by decide)
                    have q371 : Frm [7000, 7100, 7200, 7300, 7400, 7500, 7600, 7700, 7800, 7900, 8000, 8100] X X2 := by rw [hX2]; exact Frm.set q370 (show 7600 ∈ [7000, 7100, 7200, 7300, 7400, 7500, 7600, 7700, 7800, 7900, 8000, 8100] by decide)
                    have q372 : Frm [7000, 7100, 7200, 7300, 7400, 7500, 7600, 7700, 7800, 7900, 8000, 8100] X X12 := Frm.tr q371 (Frm.mono hG13 (by decide))
                    have q373 : Frm [7000, 7100, 7200, 7300, 7400, 7500, 7600, 7700, 7800, 7900, 8000, 8100] X Xa := Frm.tr q372 (Frm.mono hGXa (by decide))
                    have q374 : Frm [7000, 7100, 7200, 7300, 7400, 7500, 7600, 7700, 7800, 7900, 8000, 8100] X X35 := by rw [hX35]; exact Frm.set q373 (show 7100 ∈ [7000, 7100, 7200, 7300, 7400, 7500, 7600, 7700, 7800, 7900, 8000, 8100] by decide)
                    have q375 : Frm [7000, 7100, 7200, 7300, 7400, 7500, 7600, 7700, 7800, 7900, 8000, 8100] X X38 := by rw [hX38]; exact Frm.set q374 (show 7200 ∈ [7000, 7100, 7200, 7300, 7400, 7500, 7600, 7700, 7800, 7900, 8000, 8100] by decide)
                    have q376 : Frm [7000, 7100, 7200, 7300, 7400, 7500, 7600, 7700, 7800, 7900, 8000, 8100] X Xb := Frm.tr q375 (Frm.mono hGXb (by decide))
                    have q377 : Frm [7000, 7100, 7200, 7300, 7400, 7500, 7600, 7700, 7800, 7900, 8000, 8100] X X75 := by rw [hX75]; exact Frm.set q376 (show 7300 ∈ [7000, 7100, 7200, 7300, 7400, 7500, 7600, 7700, 7800, 7900, 8000, 8100] by decide)
                    have q378 : Frm [7000, 7100, 7200, 7300, 7400, 7500, 7600, 7700, 7800, 7900, 8000, 8100] X X78 := by rw [hX78]; exact Frm.set q377 (show 7400 ∈ [7000, 7100, 7200, 7300, 7400, 7500, 7600, 7700, 7800, 7900, 8000, 8100] by decide)
                    have q379 : Frm [7000, 7100, 7200, 7300, 7400, 7500, 7600, 7700, 7800, 7900, 8000, 8100] X X336 := by rw [hX336]; exact Frm.set q378 (show 7500 ∈ [7000, 7100, 7200, 7300, 7400, 7500, 7600, 7700, 7800, 7900, 8000, 8100] by decide)
                    have hms369 : mSt X X336 := mSt.of (L := [7000, 7100, 7200, 7300, 7400, 7500, 7600, 7700, 7800, 7900, 8000, 8100]) q379 (by decide)
                    have q380 : Frm [7000, 7100, 7200, 7300, 7400, 7500, 7600, 7700, 7800, 7900, 8000, 8100] X X1 := by rw [hX1]; exact Frm.set Frm.rf (show 7000 ∈ [7000, 7100, 7200, 7300, 7400, 7500, 7600, 7700, 7800, 7900, 8000, 8100] by decide)
                    have q381 : Frm [7000, 7100, 7200, 7300, 7400, 7500, 7600, 7700, 7800, 7900, 8000, 8100] X X2 := by rw [hX2]; exact Frm.set q380 (show 7600 ∈ [7000, 7100, 7200, 7300, 7400, 7500, 7600, 7700, 7800, 7900, 8000, 8100] by decide)
                    have q382 : Frm [7000, 7100, 7200, 7300, 7400, 7500, 7600, 7700, 7800, 7900, 8000, 8100] X X12 := Frm.tr q381 (Frm.mono hG13 (by decide))
                    have q383 : Frm [7000, 7100, 7200, 7300, 7400, 7500, 7600, 7700, 7800, 7900, 8000, 8100] X Xa := Frm.tr q382 (Frm.mono hGXa (by decide))
                    have q384 : Frm [7000, 7100, 7200, 7300, 7400, 7500, 7600, 7700, 7800, 7900, 8000, 8100] X X35 := by rw [hX35]; exact Frm.set q383 (show 7100 ∈ [7000, 7100, 7200, 7300, 7400, 7500, 7600, 7700, 7800, 7900, 8000, 8100] by decide)
                    have q385 : Frm [7000, 7100, 7200, 7300, 7400, 7500, 7600, 7700, 7800, 7900, 8000, 8100] X X38 := by rw [hX38]; exact Frm.set q384 (show 7200 ∈ [7000, 7100, 7200, 7300, 7400, 7500, 7600, 7700, 7800, 7900, 8000, 8100] by decide)
                    have q386 : Frm [7000, 7100, 7200, 7300, 7400, 7500, 7600, 7700, 7800, 7900, 8000, 8100] X Xb := Frm.tr q385 (Frm.mono hGXb (by decide))
                    have q387 : Frm [7300, 7400, 7500] Xb X75 := by rw [hX75]; exact Frm.set Frm.rf (show 7300 ∈ [7300, 7400, 7500] by decide)
                    have q388 : Frm [7300, 7400, 7500] Xb X78 := by rw [hX78]; exact Frm.set q387 (show 7400 ∈ [7300, 7400, 7500] by decide)
                    have q389 : Frm [7300, 7400, 7500] Xb X336 := by rw [hX336]; exact Frm.set q388 (show 7500 ∈ [7300, 7400, 7500] by decide)
                    have q390 : Frm [7300, 7400, 7500] Xb X75 := by rw [hX75]; exact Frm.set Frm.rf (show 7300 ∈ [7300, 7400, 7500] by decide)
                    have q391 : Frm [7300, 7400, 7500] Xb X78 := by rw [hX78]; exact Frm.set q390 (show 7400 ∈ [7300, 7400, 7500] by decide)
                    have q392 : Frm [7300, 7400, 7500] Xb X336 := by rw [hX336]; exact Frm.set q391 (show 7500 ∈ [7300, 7400, 7500] by decide)
                    have q393 : S5 X38 Xb := S5.tr S5.rf h5Xb
                    have q394 : S5 X38 X75 := by rw [hX75]; exact S5.set q393 ⟨by omega, by omega, by omega, by omega, by omega⟩
                    have q395 : S5 X38 X78 := by rw [hX78]; exact S5.set q394 ⟨by omega, by omega, by omega, by omega, by omega⟩
                    have q396 : S5 X38 X336 := by rw [hX336]; exact S5.set q395 ⟨by omega, by omega, by omega, by omega, by omega⟩
                    exact ih80 (k + 1) X336 _ _ _ (by omega) hRX336 q340 (by first | omega | (simp only [e341, e342]; omega)) (hO346) (q350) (by first | omega | (simp only [e341, e342]; omega)) (by first | omega | (simp only [e341, e342]; omega)) (hcq354) ((by rw [hX336, u3_k _ _ _ _ (by decide), hX78, u3_k _ _ _ _ (by decide), hX75, u3_k _ _ _ _ (by decide)]; exact h71)) ((by rw [hX336, u3_k _ _ _ _ (by decide), hX78, u3_k _ _ _ _ (by decide), hX75, u3_k _ _ _ _ (by decide)]; exact h72)) ((by rw [recK_s (by omega)]; exact rmT.of hst357.1 (by rw [hX336, u3_k _ _ _ _ (by decide)]) (Frm.arr q364 80 (by decide +kernel) (by decide)) rfl rfl)) ((by rw [recK_s (by omega)]; exact rmR.of hst357.2.1 (by rw [hX336, u3_k _ _ _ _ (by decide)]) (fun q9 hq9 => by simp only [List.mem_cons, List.not_mem_nil, or_false] at hq9; rcases hq9 with rfl | rfl | rfl | rfl | rfl | rfl | rfl | rfl <;> exact Frm.arr q365 _ (by decide +kernel) (by decide)) rfl rfl rfl)) ((by rw [recK_s (by omega)]; exact rmV.push hVb (mSt.of (L := [7300, 7400, 7500]) q368 (by decide)) ⟨by omega, by omega⟩ (by omega) (fun t => by rw [(Frm.arr q386 44 (by decide +kernel) (by decide))]; exact hf55 t) (Frm.arr q389 71 (by decide +kernel) (by decide)) (Frm.arr q392 72 (by decide +kernel) (by decide)) (fun j hj => (by rw [hX336, u3_k _ _ _ _ (by decide), hX78, u3_k _ _ _ _ (by decide), hX75, u3_j _ _ _ _ hj])) (fun j hj => (by rw [hX336, u3_k _ _ _ _ (by decide), hX78, u3_j _ _ _ _ hj, hX75, u3_k _ _ _ _ (by decide)])) (fun j hj => (by rw [hX336, u3_j _ _ _ _ hj, hX78, u3_k _ _ _ _ (by decide), hX75, u3_k _ _ _ _ (by decide)])) (fun q a b => recP_o ⟨a, by omega⟩) (fun q hq => recP_5 hq) ⟨(by rw [recP_o ⟨by omega, by omega⟩, recK_o _ ⟨by omega, by omega⟩, ← hyo, hms369.2.1, hms369.2.2.2]; exact (by rw [hX336, u3_k _ _ _ _ (by decide), hX78, u3_k _ _ _ _ (by decide)]; rw [hVX75])), (by rw [recP_o ⟨by omega, by omega⟩, recK_o _ ⟨by omega, by omega⟩, ← hyo]; unfold lnM; rw [hms369.2.2.1, hms369.2.2.2]; exact (by rw [hX336, u3_k _ _ _ _ (by decide)]; rw [hVX78])), (by rw [hVX336]; exact hst357.2.2)⟩)) ((by rw [hX336, u3_k _ _ _ _ (by decide), hX78, u3_k _ _ _ _ (by decide), hX75, u3_k _ _ _ _ (by decide)]; exact h71b)) (by first | omega | (simp only [e341, e342]; omega)) (fun h9 k' a b => if hk9 : k' = k then (by rw [hk9]; omega) else hnk h9 k' a (by omega)) (q396) hw hS (lv_sub hl [3, 4, 5, 6, 7, 8, 0] rfl)
              · refine lv_iload_n hx hb dX9_saves_107 rfl (lv_at hl 2 rfl) ?_
                refine x_if_eq (tgt := 132) hx hb (by omega) dX9_saves_108 (by decide) (fun c397 => ?_) (fun c397 => ?_)
                · refine lv_iconst (v := jI 5) hx hb dX9_saves_132 rfl ?_
                  refine lv_bipush (v := jI 120) hx hb dX9_saves_133 (by decide) ?_
                  refine lv_iload_n hx hb dX9_saves_135 rfl (lv_at hl 3 rfl) ?_
                  refine x_iadd hx hb dX9_saves_136 ?_
                  refine x_imul hx hb dX9_saves_137 ?_
                  refine lv_iload hx hb dX9_saves_138 (lv_at hl 6 rfl) ?_
                  refine x_iadd hx hb dX9_saves_140 ?_
                  refine lv_istore (lv' := [(7, .int (jI ((5 * (120 + r)) + k))), (0, .ref (ad 40 0)), (1, .int (jI x)), (2, .int (jI shut)), (3, .int (jI r)), (4, .int (jI (Xa 80 0 r))), (5, .int (jI (X 55 0 (Xa 80 0 r)))), (6, .int (jI k))]) hx hb dX9_saves_141 hl (by decide) rfl (fun ls hl => ?_)
                  refine lv_aload_n hx hb dX9_saves_143 rfl (lv_at hl 1 rfl) ?_
                  refine x_geto hx hb hf9 hw (by first | exact Int.le_refl 0 | omega) (by first | exact zlt hc40 | omega) sl_40_15 lk48 dX9_saves_144 ?_
                  refine lv_iconst (v := jI 5) hx hb dX9_saves_147 rfl ?_
                  refine lv_iload hx hb dX9_saves_148 (lv_at hl 5 rfl) ?_
                  refine x_imul hx hb dX9_saves_150 ?_
                  refine lv_iload hx hb dX9_saves_151 (lv_at hl 7 rfl) ?_
                  refine x_iadd hx hb dX9_saves_153 ?_
                  obtain ⟨hy1, hy2, hy3⟩ := hMI.1 (Xa 80 0 r) k (by omega) (by omega) (by omega) (by omega)
                  refine x_lald hx hb hK.1 hw (by first | exact Int.le_refl 0 | omega) (by first | exact zlt hc56 | omega) ar_56 (len_E ar_56 (by decide)) (by omega) (by omega) (by omega) dX9_saves_154 ?_
                  have e398 : ∀ p9 q9 : Int, Xb 56 p9 q9 = X 56 p9 q9 := fun p9 q9 => by rw [hGXb 56 p9 q9 (show 5600 ∉ [7100, 7200, 7300, 7400, 7500, 8000, 7000, 8100, 7700, 7800, 7900, 7600] by decide), hX38, u3_k _ _ _ _ (by decide), hX35, u3_k _ _ _ _ (by decide), hGXa 56 p9 q9 (show 5600 ∉ [7100, 7200, 7300, 7400, 7500, 8000, 7000, 8100, 7700, 7800, 7900, 7600] by decide), hG13 56 p9 q9 (show 5600 ∉ [8000, 7000] by decide), hX2, u3_k _ _ _ _ (by decide), hX1, u3_k _ _ _ _ (by decide)]
                  rw [e398 0 ((5 * (Xa 80 0 r)) + k)]
                  have f399 : (-9223372036854775808) ≤ X 56 0 ((5 * (Xa 80 0 r)) + k) ∧ X 56 0 ((5 * (Xa 80 0 r)) + k) ≤ 9223372036854775807 := hR 56 0 ((5 * (Xa 80 0 r)) + k)
                  refine lv_lstore (lv' := [(8, .long (jL (X 56 0 ((5 * (Xa 80 0 r)) + k)))), (7, .int (jI ((5 * (120 + r)) + k))), (0, .ref (ad 40 0)), (1, .int (jI x)), (2, .int (jI shut)), (3, .int (jI r)), (4, .int (jI (Xa 80 0 r))), (5, .int (jI (X 55 0 (Xa 80 0 r)))), (6, .int (jI k))]) hx hb dX9_saves_155 hl (by decide) rfl (fun ls hl => ?_)
                  refine lv_aload_n hx hb dX9_saves_157 rfl (lv_at hl 2 rfl) ?_
                  refine x_geto hx hb hf9 hw (by first | exact Int.le_refl 0 | omega) (by first | exact zlt hc40 | omega) sl_40_32 lk90 dX9_saves_158 ?_
                  refine lv_iload hx hb dX9_saves_161 (lv_at hl 1 rfl) ?_
                  refine lv_aload_n hx hb dX9_saves_163 rfl (lv_at hl 2 rfl) ?_
                  refine x_geto hx hb hf9 hw (by first | exact Int.le_refl 0 | omega) (by first | exact zlt hc40 | omega) sl_40_4 lk17 dX9_saves_164 ?_
                  refine lv_iconst (v := jI 5) hx hb dX9_saves_167 rfl ?_
                  refine lv_iload hx hb dX9_saves_168 (lv_at hl 7 rfl) ?_
                  refine x_imul hx hb dX9_saves_170 ?_
                  refine lv_iload hx hb dX9_saves_171 (lv_at hl 8 rfl) ?_
                  refine x_iadd hx hb dX9_saves_173 ?_
                  refine x_iald hx hb hK.1 hw (by first | exact Int.le_refl 0 | omega) (by first | exact zlt hc45 | omega) ar_45 (len_E ar_45 (by decide)) (by omega) (by omega) (by omega) dX9_saves_174 ?_
                  have e400 : ∀ p9 q9 : Int, Xb 45 p9 q9 = X 45 p9 q9 := fun p9 q9 => by rw [hGXb 45 p9 q9 (show 4500 ∉ [7100, 7200, 7300, 7400, 7500, 8000, 7000, 8100, 7700, 7800, 7900, 7600] by decide), hX38, u3_k _ _ _ _ (by decide), hX35, u3_k _ _ _ _ (by decide), hGXa 45 p9 q9 (show 4500 ∉ [7100, 7200, 7300, 7400, 7500, 8000, 7000, 8100, 7700, 7800, 7900, 7600] by decide), hG13 45 p9 q9 (show 4500 ∉ [8000, 7000] by decide), hX2, u3_k _ _ _ _ (by decide), hX1, u3_k _ _ _ _ (by decide)]
                  rw [e400 0 ((5 * (X 55 0 (Xa 80 0 r))) + k)]
                  have f401 : 0 ≤ X 45 0 ((5 * (X 55 0 (Xa 80 0 r))) + k) ∧ X 45 0 ((5 * (X 55 0 (Xa 80 0 r))) + k) ≤ 19 := hR 45 0 ((5 * (X 55 0 (Xa 80 0 r))) + k)
                  refine x_iast hx hb hK.1 hw hS (by first | exact Int.le_refl 0 | omega) (by first | exact zlt hc73 | omega) ar_73 (len_E ar_73 (by decide)) (by omega) (by omega) (by omega) dX9_saves_175 (fun H locs hw hS => ?_)
                  obtain ⟨X402, hX402⟩ : ∃ Xq, Xq = u3 Xb 73 0 ((5 * (120 + r)) + k) (X 45 0 ((5 * (X 55 0 (Xa 80 0 r))) + k)) := ⟨_, rfl⟩
                  rw [← hX402] at hw
                  have hRX402 : Rng X402 := by rw [hX402]; exact rng_set hRXb (show 0 ≤ (X 45 0 ((5 * (X 55 0 (Xa 80 0 r))) + k)) ∧ (X 45 0 ((5 * (X 55 0 (Xa 80 0 r))) + k)) ≤ 19 by omega)
                  have hVX402 : X402 73 0 ((5 * (120 + r)) + k) = (X 45 0 ((5 * (X 55 0 (Xa 80 0 r))) + k)) := by rw [hX402]; exact u3_s _ _ _ _ _
                  have hFX402 : Frm [7100, 7200, 7300, 7400, 7500, 8000, 7000, 8100, 7700, 7800, 7900, 7600, 4042, 4043, 4044] X X402 := by rw [hX402]; exact Frm.set hFXb (show 7300 ∈ [7100, 7200, 7300, 7400, 7500, 8000, 7000, 8100, 7700, 7800, 7900, 7600, 4042, 4043, 4044] by decide)
                  refine lv_aload_n hx hb dX9_saves_176 rfl (lv_at hl 2 rfl) ?_
                  refine x_geto hx hb hf9 hw (by first | exact Int.le_refl 0 | omega) (by first | exact zlt hc40 | omega) sl_40_33 lk93 dX9_saves_177 ?_
                  refine lv_iload hx hb dX9_saves_180 (lv_at hl 1 rfl) ?_
                  refine lv_aload_n hx hb dX9_saves_182 rfl (lv_at hl 2 rfl) ?_
                  refine x_geto hx hb hf9 hw (by first | exact Int.le_refl 0 | omega) (by first | exact zlt hc40 | omega) sl_40_5 lk20 dX9_saves_183 ?_
                  refine lv_iconst (v := jI 5) hx hb dX9_saves_186 rfl ?_
                  refine lv_iload hx hb dX9_saves_187 (lv_at hl 7 rfl) ?_
                  refine x_imul hx hb dX9_saves_189 ?_
                  refine lv_iload hx hb dX9_saves_190 (lv_at hl 8 rfl) ?_
                  refine x_iadd hx hb dX9_saves_192 ?_
                  refine x_iald hx hb hK.1 hw (by first | exact Int.le_refl 0 | omega) (by first | exact zlt hc46 | omega) ar_46 (len_E ar_46 (by decide)) (by omega) (by omega) (by omega) dX9_saves_193 ?_
                  have e403 : ∀ p9 q9 : Int, X402 46 p9 q9 = X 46 p9 q9 := fun p9 q9 => by rw [hX402, u3_k _ _ _ _ (by decide), hGXb 46 p9 q9 (show 4600 ∉ [7100, 7200, 7300, 7400, 7500, 8000, 7000, 8100, 7700, 7800, 7900, 7600] by decide), hX38, u3_k _ _ _ _ (by decide), hX35, u3_k _ _ _ _ (by decide), hGXa 46 p9 q9 (show 4600 ∉ [7100, 7200, 7300, 7400, 7500, 8000, 7000, 8100, 7700, 7800, 7900, 7600] by decide), hG13 46 p9 q9 (show 4600 ∉ [8000, 7000] by decide), hX2, u3_k _ _ _ _ (by decide), hX1, u3_k _ _ _ _ (by decide)]
                  rw [e403 0 ((5 * (X 55 0 (Xa 80 0 r))) + k)]
                  have f404 : 0 ≤ X 46 0 ((5 * (X 55 0 (Xa 80 0 r))) + k) ∧ X 46 0 ((5 * (X 55 0 (Xa 80 0 r))) + k) ≤ 5 := hR 46 0 ((5 * (X 55 0 (Xa 80 0 r))) + k)
                  refine x_iast hx hb hK.1 hw hS (by first | exact Int.le_refl 0 | omega) (by first | exact zlt hc74 | omega) ar_74 (len_E ar_74 (by decide)) (by omega) (by omega) (by omega) dX9_saves_194 (fun H locs hw hS => ?_)
                  obtain ⟨X405, hX405⟩ : ∃ Xq, Xq = u3 X402 74 0 ((5 * (120 + r)) + k) (X 46 0 ((5 * (X 55 0 (Xa 80 0 r))) + k)) := ⟨_, rfl⟩
                  rw [← hX405] at hw
                  have hRX405 : Rng X405 := by rw [hX405]; exact rng_set hRX402 (show 0 ≤ (X 46 0 ((5 * (X 55 0 (Xa 80 0 r))) + k)) ∧ (X 46 0 ((5 * (X 55 0 (Xa 80 0 r))) + k)) ≤ 5 by omega)
                  have hVX405 : X405 74 0 ((5 * (120 + r)) + k) = (X 46 0 ((5 * (X 55 0 (Xa 80 0 r))) + k)) := by rw [hX405]; exact u3_s _ _ _ _ _
                  have hFX405 : Frm [7100, 7200, 7300, 7400, 7500, 8000, 7000, 8100, 7700, 7800, 7900, 7600, 4042, 4043, 4044] X X405 := by rw [hX405]; exact Frm.set hFX402 (show 7400 ∈ [7100, 7200, 7300, 7400, 7500, 8000, 7000, 8100, 7700, 7800, 7900, 7600, 4042, 4043, 4044] by decide)
                  refine lv_aload_n hx hb dX9_saves_195 rfl (lv_at hl 2 rfl) ?_
                  refine x_geto hx hb hf9 hw (by first | exact Int.le_refl 0 | omega) (by first | exact zlt hc40 | omega) sl_40_34 lk96 dX9_saves_196 ?_
                  refine lv_iload hx hb dX9_saves_199 (lv_at hl 1 rfl) ?_
                  refine lv_aload_n hx hb dX9_saves_201 rfl (lv_at hl 2 rfl) ?_
                  refine x_geto hx hb hf9 hw (by first | exact Int.le_refl 0 | omega) (by first | exact zlt hc40 | omega) sl_40_33 lk93 dX9_saves_202 ?_
                  refine lv_iload hx hb dX9_saves_205 (lv_at hl 1 rfl) ?_
                  refine x_iald hx hb hK.1 hw (by first | exact Int.le_refl 0 | omega) (by first | exact zlt hc74 | omega) ar_74 (len_E ar_74 (by decide)) (by omega) (by omega) (by omega) dX9_saves_207 ?_
                  rw [hVX405]
                  refine lv_iconst (v := jI 2) hx hb dX9_saves_208 rfl ?_
                  refine x_icmp_lt (tgt := 219) hx hb (by omega) (by omega) dX9_saves_209 (by decide) (fun c406 => ?_) (fun c406 => ?_)
                  · refine lv_lload hx hb dX9_saves_219 (lv_at hl 0 rfl) ?_
                    refine lv_goto (tgt := 256) hx hb dX9_saves_221 (by decide) ?_
                    refine x_last hx hb hK.1 hw hS (by first | exact Int.le_refl 0 | omega) (by first | exact zlt hc75 | omega) ar_75 (len_E ar_75 (by decide)) (by omega) (by omega) (by omega) dX9_saves_256 (fun H locs hw hS => ?_)
                    obtain ⟨X407, hX407⟩ : ∃ Xq, Xq = u3 X405 75 0 ((5 * (120 + r)) + k) (X 56 0 ((5 * (Xa 80 0 r)) + k)) := ⟨_, rfl⟩
                    rw [← hX407] at hw
                    have hRX407 : Rng X407 := by rw [hX407]; exact rng_set hRX405 (show (-9223372036854775808) ≤ (X 56 0 ((5 * (Xa 80 0 r)) + k)) ∧ (X 56 0 ((5 * (Xa 80 0 r)) + k)) ≤ 9223372036854775807 by omega)
                    have hVX407 : X407 75 0 ((5 * (120 + r)) + k) = (X 56 0 ((5 * (Xa 80 0 r)) + k)) := by rw [hX407]; exact u3_s _ _ _ _ _
                    have hFX407 : Frm [7100, 7200, 7300, 7400, 7500, 8000, 7000, 8100, 7700, 7800, 7900, 7600, 4042, 4043, 4044] X X407 := by rw [hX407]; exact Frm.set hFX405 (show 7500 ∈ [7100, 7200, 7300, 7400, 7500, 8000, 7000, 8100, 7700, 7800, 7900, 7600, 4042, 4043, 4044] by decide)
                    refine lv_iinc (v := jI (k + 1)) (lv' := [(6, .int (jI (k + 1))), (8, .long (jL (X 56 0 ((5 * (Xa 80 0 r)) + k)))), (7, .int (jI ((5 * (120 + r)) + k))), (0, .ref (ad 40 0)), (1, .int (jI x)), (2, .int (jI shut)), (3, .int (jI r)), (4, .int (jI (Xa 80 0 r))), (5, .int (jI (X 55 0 (Xa 80 0 r))))]) hx hb dX9_saves_257 hl (k := 8) rfl (jI_add _ _) (by decide) rfl (fun ls hl => ?_)
                    refine lv_goto (tgt := 80) hx hb dX9_saves_260 (by decide) ?_
                    have q408 : Frm [7100, 7200, 7300, 7400, 7500, 8000, 7000, 8100, 7700, 7800, 7900, 7600] X38 Xb := Frm.tr Frm.rf (Frm.mono hGXb (by decide))
                    have q409 : Frm [7100, 7200, 7300, 7400, 7500, 8000, 7000, 8100, 7700, 7800, 7900, 7600] X38 X402 := by rw [hX402]; exact Frm.set q408 (show 7300 ∈ [7100, 7200, 7300, 7400, 7500, 8000, 7000, 8100, 7700, 7800, 7900, 7600] by decide)
                    have q410 : Frm [7100, 7200, 7300, 7400, 7500, 8000, 7000, 8100, 7700, 7800, 7900, 7600] X38 X405 := by rw [hX405]; exact Frm.set q409 (show 7400 ∈ [7100, 7200, 7300, 7400, 7500, 8000, 7000, 8100, 7700, 7800, 7900, 7600] by decide)
                    have q411 : Frm [7100, 7200, 7300, 7400, 7500, 8000, 7000, 8100, 7700, 7800, 7900, 7600] X38 X407 := by rw [hX407]; exact Frm.set q410 (show 7500 ∈ [7100, 7200, 7300, 7400, 7500, 8000, 7000, 8100, 7700, 7800, 7900, 7600] by decide)
                    have e412 : X407 76 0 4 = Xb 76 0 4 := by rw [hX407, u3_k _ _ _ _ (by decide), hX405, u3_k _ _ _ _ (by decide), hX402, u3_k _ _ _ _ (by decide)]
                    have e413 : X407 70 0 4 = Xb 70 0 4 := by rw [hX407, u3_k _ _ _ _ (by decide), hX405, u3_k _ _ _ _ (by decide), hX402, u3_k _ _ _ _ (by decide)]
                    have q414 : Frm [7300, 7400, 7500] Xb X402 := by rw [hX402]; exact Frm.set Frm.rf (show 7300 ∈ [7300, 7400, 7500] by decide)
                    have q415 : Frm [7300, 7400, 7500] Xb X405 := by rw [hX405]; exact Frm.set q414 (show 7400 ∈ [7300, 7400, 7500] by decide)
                    have q416 : Frm [7300, 7400, 7500] Xb X407 := by rw [hX407]; exact Frm.set q415 (show 7500 ∈ [7300, 7400, 7500] by decide)
                    have hO417 : ordOK X407 := ordOK.of hOb q416 (by decide)
                    have q418 : S4 X38 Xb := S4.tr S4.rf h4Xb
                    have q419 : S4 X38 X402 := by rw [hX402]; exact S4.set q418 ⟨by omega, by omega, by omega, by omega, by omega⟩
                    have q420 : S4 X38 X405 := by rw [hX405]; exact S4.set q419 ⟨by omega, by omega, by omega, by omega, by omega⟩
                    have q421 : S4 X38 X407 := by rw [hX407]; exact S4.set q420 ⟨by omega, by omega, by omega, by omega, by omega⟩
                    have e422 : X407 70 0 4 = Xb 70 0 4 := (by rw [hX407, u3_k _ _ _ _ (by decide), hX405, u3_k _ _ _ _ (by decide), hX402, u3_k _ _ _ _ (by decide)])
                    have f423 : 0 ≤ X407 70 0 4 ∧ X407 70 0 4 ≤ 30 := hRX407 70 0 4
                    have e424 : X407 74 0 (5 * (120 + r) + k) = (X 46 0 ((5 * (X 55 0 (Xa 80 0 r))) + k)) := (by rw [hX407, u3_k _ _ _ _ (by decide)]; exact hVX405)
                    have hcq425 : cOK X407 r (k + 1) := cOK.push (cOK.of hcO (by omega) hRX407 (by rw [show X407 40 0 2 = Xb 40 0 2 from (by rw [hX407, u3_k _ _ _ _ (by decide), hX405, u3_k _ _ _ _ (by decide), hX402, u3_k _ _ _ _ (by decide)])]; exact Int.le_refl _) (by omega) (fun r1 a b => ⟨(by rw [hX407, u3_k _ _ _ _ (by decide), hX405, u3_k _ _ _ _ (by decide), hX402, u3_k _ _ _ _ (by decide)]), (by rw [hX407, u3_k _ _ _ _ (by decide), hX405, u3_k _ _ _ _ (by decide), hX402, u3_k _ _ _ _ (by decide)])⟩) (fun j hj => ⟨(by rw [hX407, u3_k _ _ _ _ (by decide), hX405, u3_j _ _ _ _ (by omega), hX402, u3_k _ _ _ _ (by decide)]), (by rw [hX407, u3_j _ _ _ _ (by omega), hX405, u3_k _ _ _ _ (by decide), hX402, u3_k _ _ _ _ (by decide)])⟩) (by omega)) (by unfold ty4; rw [e424, hVX407]; exact ⟨fun _ => by omega, fun _ => by omega, fun _ => by omega⟩)
                    have hla426 : lnM X (recR (fcM X) (lnM X) (mRid X) (mRid X) x r.toNat 1 r) k = X 46 0 (5 * X 55 0 (Xa 80 0 r) + k) := by rw [← hyo]; rfl
                    have hvl427 : mRid X (recR (fcM X) (lnM X) (mRid X) (mRid X) x r.toNat 1 r) k = X 56 0 (5 * Xa 80 0 r + k) := by rw [← hyo]; rfl
                    have q430 : Frm [7300, 7400] Xb X402 := by rw [hX402]; exact Frm.set Frm.rf (show 7300 ∈ [7300, 7400] by decide)
                    have q431 : Frm [7300, 7400] Xb X405 := by rw [hX405]; exact Frm.set q430 (show 7400 ∈ [7300, 7400] by decide)
                    have hT429 : rmT X405 (recK (lnM X) (mRid X) (mRid X) (recR (fcM X) (lnM X) (mRid X) (mRid X) x r.toNat) r k.toNat) := rmT.of hTb (by rw [hX405, u3_k _ _ _ _ (by decide), hX402, u3_k _ _ _ _ (by decide)]) (Frm.arr q431 80 (by decide +kernel) (by decide)) rfl rfl
                    have q433 : Frm [7300, 7400] Xb X402 := by rw [hX402]; exact Frm.set Frm.rf (show 7300 ∈ [7300, 7400] by decide)
                    have q434 : Frm [7300, 7400] Xb X405 := by rw [hX405]; exact Frm.set q433 (show 7400 ∈ [7300, 7400] by decide)
                    have hR9432 : rmR X405 (recK (lnM X) (mRid X) (mRid X) (recR (fcM X) (lnM X) (mRid X) (mRid X) x r.toNat) r k.toNat) := rmR.of hRb9 (by rw [hX405, u3_k _ _ _ _ (by decide), hX402, u3_k _ _ _ _ (by decide)]) (fun q9 hq9 => by simp only [List.mem_cons, List.not_mem_nil, or_false] at hq9; rcases hq9 with rfl | rfl | rfl | rfl | rfl | rfl | rfl | rfl <;> exact Frm.arr q434 _ (by decide +kernel) (by decide)) rfl rfl rfl
                    have hst428 : mStp (lnM X) (mRid X) (mRid X) (recR (fcM X) (lnM X) (mRid X) (mRid X) x r.toNat 1 r) k (5 * r + k) X405 (recK (lnM X) (mRid X) (mRid X) (recR (fcM X) (lnM X) (mRid X) (mRid X) x r.toNat) r k.toNat) (X 56 0 ((5 * (Xa 80 0 r)) + k)) := by first | exact mStp_v hT429 hR9432 (by rw [recP_1 (by rw [hla426]; omega), hvl427]) | (rw [show ((X 56 0 ((5 * (Xa 80 0 r)) + k)) : Int) = -1 by omega]; rcases (show X 46 0 (5 * X 55 0 (Xa 80 0 r) + k) = 2 ∨ 3 ≤ X 46 0 (5 * X 55 0 (Xa 80 0 r) + k) by omega) with h2 | h2; exact mStp_v hT429 hR9432 (recP_2n (by rw [hla426]; exact h2) (by rw [hvl427]; omega)); exact mStp_v hT429 hR9432 (recP_3n (by rw [hla426]; exact h2) (by rw [hvl427]; omega)))
                    have q435 : Frm [7500] X405 X407 := by rw [hX407]; exact Frm.set Frm.rf (show 7500 ∈ [7500] by decide)
                    have q436 : Frm [7500] X405 X407 := by rw [hX407]; exact Frm.set Frm.rf (show 7500 ∈ [7500] by decide)
                    have q437 : Frm [7300, 7400, 7500] Xb X402 := by rw [hX402]; exact Frm.set Frm.rf (show 7300 ∈ [7300, 7400, 7500] by decide)
                    have q438 : Frm [7300, 7400, 7500] Xb X405 := by rw [hX405]; exact Frm.set q437 (show 7400 ∈ [7300, 7400, 7500] by decide)
                    have q439 : Frm [7300, 7400, 7500] Xb X407 := by rw [hX407]; exact Frm.set q438 (show 7500 ∈ [7300, 7400, 7500] by decide)
                    have q441 : Frm [7000, 7100, 7200, 7300, 7400, 7500, 7600, 7700, 7800, 7900, 8000, 8100] X X1 := by rw [hX1]; exact Frm.set Frm.rf (show 7000 ∈ [7000, 7100, 7200, 7300, 7400, 7500, 7600, 7700, 7800, 7900, 8000, 8100] by decide)
                    have q442 : Frm [7000, 7100, 7200, 7300, 7400, 7500, 7600, 7700, 7800, 7900, 8000, 8100] X X2 := by rw [hX2]; exact Frm.set q441 (show 7600 ∈ [7000, 7100, 7200, 7300, 7400, 7500, 7600, 7700, 7800, 7900, 8000, 8100] by decide)
                    have q443 : Frm [7000, 7100, 7200, 7300, 7400, 7500, 7600, 7700, 7800, 7900, 8000, 8100] X X12 := Frm.tr q442 (Frm.mono hG13 (by decide))
                    have q444 : Frm [7000, 7100, 7200, 7300, 7400, 7500, 7600, 7700, 7800, 7900, 8000, 8100] X Xa := Frm.tr q443 (Frm.mono hGXa (by decide))
                    have q445 : Frm [7000, 7100, 7200, 7300, 7400, 7500, 7600, 7700, 7800, 7900, 8000, 8100] X X35 := by rw [hX35]; exact Frm.set q444 (show 7100 ∈ [7000, 7100, 7200, 7300, 7400, 7500, 7600, 7700, 7800, 7900, 8000, 8100] by decide)
                    have q446 : Frm [7000, 7100, 7200, 7300, 7400, 7500, 7600, 7700, 7800, 7900, 8000, 8100] X X38 := by rw [hX38]; exact Frm.set q445 (show 7200 ∈ [7000, 7100, 7200, 7300, 7400, 7500, 7600, 7700, 7800, 7900, 8000, 8100] by decide)
                    have q447 : Frm [7000, 7100, 7200, 7300, 7400, 7500, 7600, 7700, 7800, 7900, 8000, 8100] X Xb := Frm.tr q446 (Frm.mono hGXb (by decide))
                    have q448 : Frm [7000, 7100, 7200, 7300, 7400, 7500, 7600, 7700, 7800, 7900, 8000, 8100] X X402 := by rw [hX402]; exact Frm.set q447 (show 7300 ∈ [7000, 7100, 7200, 7300, 7400, 7500, 7600, 7700, 7800, 7900, 8000, 8100] by decide)
                    have q449 : Frm [7000, 7100, 7200, 7300, 7400, 7500, 7600, 7700, 7800, 7900, 8000, 8100] X X405 := by rw [hX405]; exact Frm.set q448 (show 7400 ∈ [7000, 7100, 7200, 7300, 7400, 7500, 7600, 7700, 7800, 7900, 8000, 8100] by decide)
                    have q450 : Frm [7000, 7100, 7200, 7300, 7400, 7500, 7600, 7700, 7800, 7900, 8000, 8100] X X407 := by rw [hX407]; exact Frm.set q449 (show 7500 ∈ [7000, 7100, 7200, 7300, 7400, 7500, 7600, 7700, 7800, 7900, 8000, 8100] by decide)
                    have hms440 : mSt X X407 := mSt.of (L := [7000, 7100, 7200, 7300, 7400, 7500, 7600, 7700, 7800, 7900, 8000, 8100]) q450 (by decide)
                    have q451 : Frm [7000, 7100, 7200, 7300, 7400, 7500, 7600, 7700, 7800, 7900, 8000, 8100] X X1 := by rw [hX1]; exact Frm.set Frm.rf (show 7000 ∈ [7000, 7100, 7200, 7300, 7400, 7500, 7600, 7700, 7800, 7900, 8000, 8100] by decide)
                    have q452 : Frm [7000, 7100, 7200, 7300, 7400, 7500, 7600, 7700, 7800, 7900, 8000, 8100] X X2 := by rw [hX2]; exact Frm.set q451 (show 7600 ∈ [7000, 7100, 7200, 7300, 7400, 7500, 7600, 7700, 7800, 7900, 8000, 8100] by decide)
                    have q453 : Frm [7000, 7100, 7200, 7300, 7400, 7500, 7600, 7700, 7800, 7900, 8000, 8100] X X12 := Frm.tr q452 (Frm.mono hG13 (by decide))
                    have q454 : Frm [7000, 7100, 7200, 7300, 7400, 7500, 7600, 7700, 7800, 7900, 8000, 8100] X Xa := Frm.tr q453 (Frm.mono hGXa (by decide))
                    have q455 : Frm [7000, 7100, 7200, 7300, 7400, 7500, 7600, 7700, 7800, 7900, 8000, 8100] X X35 := by rw [hX35]; exact Frm.set q454 (show 7100 ∈ [7000, 7100, 7200, 7300, 7400, 7500, 7600, 7700, 7800, 7900, 8000, 8100] by decide)
                    have q456 : Frm [7000, 7100, 7200, 7300, 7400, 7500, 7600, 7700, 7800, 7900, 8000, 8100] X X38 := by rw [hX38]; exact Frm.set q455 (show 7200 ∈ [7000, 7100, 7200, 7300, 7400, 7500, 7600, 7700, 7800, 7900, 8000, 8100] by decide)
                    have q457 : Frm [7000, 7100, 7200, 7300, 7400, 7500, 7600, 7700, 7800, 7900, 8000, 8100] X Xb := Frm.tr q456 (Frm.mono hGXb (by decide))
                    have q458 : Frm [7300, 7400, 7500] Xb X402 := by rw [hX402]; exact Frm.set Frm.rf (show 7300 ∈ [7300, 7400, 7500] by decide)
                    have q459 : Frm [7300, 7400, 7500] Xb X405 := by rw [hX405]; exact Frm.set q458 (show 7400 ∈ [7300, 7400, 7500] by decide)
                    have q460 : Frm [7300, 7400, 7500] Xb X407 := by rw [hX407]; exact Frm.set q459 (show 7500 ∈ [7300, 7400, 7500] by decide)
                    have q461 : Frm [7300, 7400, 7500] Xb X402 := by rw [hX402]; exact Frm.set Frm.rf (show 7300 ∈ [7300, 7400, 7500] by decide)
                    have q462 : Frm [7300, 7400, 7500] Xb X405 := by rw [hX405]; exact Frm.set q461 (show 7400 ∈ [7300, 7400, 7500] by decide)
                    have q463 : Frm [7300, 7400, 7500] Xb X407 := by rw [hX407]; exact Frm.set q462 (show 7500 ∈ [7300, 7400, 7500] by decide)
                    have q464 : S5 X38 Xb := S5.tr S5.rf h5Xb
                    have q465 : S5 X38 X402 := by rw [hX402]; exact S5.set q464 ⟨by omega, by omega, by omega, by omega, by omega⟩
                    have q466 : S5 X38 X405 := by rw [hX405]; exact S5.set q465 ⟨by omega, by omega, by omega, by omega, by omega⟩
                    have q467 : S5 X38 X407 := by rw [hX407]; exact S5.set q466 ⟨by omega, by omega, by omega, by omega, by omega⟩
                    exact ih80 (k + 1) X407 _ _ _ (by omega) hRX407 q411 (by first | omega | (simp only [e412, e413]; omega)) (hO417) (q421) (by first | omega | (simp only [e412, e413]; omega)) (by first | omega | (simp only [e412, e413]; omega)) (hcq425) ((by rw [hX407, u3_k _ _ _ _ (by decide), hX405, u3_k _ _ _ _ (by decide), hX402, u3_k _ _ _ _ (by decide)]; exact h71)) ((by rw [hX407, u3_k _ _ _ _ (by decide), hX405, u3_k _ _ _ _ (by decide), hX402, u3_k _ _ _ _ (by decide)]; exact h72)) ((by rw [recK_s (by omega)]; exact rmT.of hst428.1 (by rw [hX407, u3_k _ _ _ _ (by decide)]) (Frm.arr q435 80 (by decide +kernel) (by decide)) rfl rfl)) ((by rw [recK_s (by omega)]; exact rmR.of hst428.2.1 (by rw [hX407, u3_k _ _ _ _ (by decide)]) (fun q9 hq9 => by simp only [List.mem_cons, List.not_mem_nil, or_false] at hq9; rcases hq9 with rfl | rfl | rfl | rfl | rfl | rfl | rfl | rfl <;> exact Frm.arr q436 _ (by decide +kernel) (by decide)) rfl rfl rfl)) ((by rw [recK_s (by omega)]; exact rmV.push hVb (mSt.of (L := [7300, 7400, 7500]) q439 (by decide)) ⟨by omega, by omega⟩ (by omega) (fun t => by rw [(Frm.arr q457 44 (by decide +kernel) (by decide))]; exact hf55 t) (Frm.arr q460 71 (by decide +kernel) (by decide)) (Frm.arr q463 72 (by decide +kernel) (by decide)) (fun j hj => (by rw [hX407, u3_k _ _ _ _ (by decide), hX405, u3_k _ _ _ _ (by decide), hX402, u3_j _ _ _ _ hj])) (fun j hj => (by rw [hX407, u3_k _ _ _ _ (by decide), hX405, u3_j _ _ _ _ hj, hX402, u3_k _ _ _ _ (by decide)])) (fun j hj => (by rw [hX407, u3_j _ _ _ _ hj, hX405, u3_k _ _ _ _ (by decide), hX402, u3_k _ _ _ _ (by decide)])) (fun q a b => recP_o ⟨a, by omega⟩) (fun q hq => recP_5 hq) ⟨(by rw [recP_o ⟨by omega, by omega⟩, recK_o _ ⟨by omega, by omega⟩, ← hyo, hms440.2.1, hms440.2.2.2]; exact (by rw [hX407, u3_k _ _ _ _ (by decide), hX405, u3_k _ _ _ _ (by decide)]; rw [hVX402])), (by rw [recP_o ⟨by omega, by omega⟩, recK_o _ ⟨by omega, by omega⟩, ← hyo]; unfold lnM; rw [hms440.2.2.1, hms440.2.2.2]; exact (by rw [hX407, u3_k _ _ _ _ (by decide)]; rw [hVX405])), (by rw [hVX407]; exact hst428.2.2)⟩)) ((by rw [hX407, u3_k _ _ _ _ (by decide), hX405, u3_k _ _ _ _ (by decide), hX402, u3_k _ _ _ _ (by decide)]; exact h71b)) (by first | omega | (simp only [e412, e413]; omega)) (fun h9 k' a b => if hk9 : k' = k then (by rw [hk9]; omega) else hnk h9 k' a (by omega)) (q467) hw hS (lv_sub hl [3, 4, 5, 6, 7, 8, 0] rfl)
                  · refine lv_lload hx hb dX9_saves_212 (lv_at hl 0 rfl) ?_
                    refine lv_lconst (v := jL 0) hx hb dX9_saves_214 (by decide) ?_
                    refine x_lcmp hx hb (by omega) (by omega) dX9_saves_215 ?_
                    obtain ⟨z468, ez468⟩ : ∃ y : Int, y = cmpZ (X 56 0 ((5 * (Xa 80 0 r)) + k)) 0 := ⟨_, rfl⟩
                    rw [← ez468]
                    have gz468 : (z468 < 0 ↔ ((X 56 0 ((5 * (Xa 80 0 r)) + k)) : Int) < 0) ∧ (z468 = 0 ↔ ((X 56 0 ((5 * (Xa 80 0 r)) + k)) : Int) = 0) ∧ -1 ≤ z468 ∧ z468 ≤ 1 := by rw [ez468]; exact ⟨cmpZ_lt, cmpZ_eq, (cmpZ_r _ _).1, (cmpZ_r _ _).2⟩
                    clear ez468
                    refine x_if_ge (tgt := 224) hx hb (by omega) dX9_saves_216 (by decide) (fun c469 => ?_) (fun c469 => ?_)
                    · refine lv_aload_n hx hb dX9_saves_224 rfl (lv_at hl 2 rfl) ?_
                      refine x_geto hx hb hf9 hw (by first | exact Int.le_refl 0 | omega) (by first | exact zlt hc40 | omega) sl_40_33 lk93 dX9_saves_225 ?_
                      refine lv_iload hx hb dX9_saves_228 (lv_at hl 1 rfl) ?_
                      refine x_iald hx hb hK.1 hw (by first | exact Int.le_refl 0 | omega) (by first | exact zlt hc74 | omega) ar_74 (len_E ar_74 (by decide)) (by omega) (by omega) (by omega) dX9_saves_230 ?_
                      rw [hVX405]
                      refine lv_iconst (v := jI 2) hx hb dX9_saves_231 rfl ?_
                      refine x_icmp_ne (tgt := 247) hx hb (by omega) (by omega) dX9_saves_232 (by decide) (fun c470 => ?_) (fun c470 => ?_)
                      · refine lv_aload_n hx hb dX9_saves_247 rfl (lv_at hl 2 rfl) ?_
                        refine lv_iconst (v := jI 4) hx hb dX9_saves_248 rfl ?_
                        refine lv_lload hx hb dX9_saves_249 (lv_at hl 0 rfl) ?_
                        refine x_l2i hx hb dX9_saves_251 ?_
                        have q471 : S4 X X1 := by rw [hX1]; exact S4.set S4.rf ⟨by omega, by omega, by omega, by omega, by omega⟩
                        have q472 : S4 X X2 := by rw [hX2]; exact S4.set q471 ⟨by omega, by omega, by omega, by omega, by omega⟩
                        have q473 : S4 X X12 := S4.tr q472 h4X12
                        have q474 : S4 X Xa := S4.tr q473 h4Xa
                        have q475 : S4 X X35 := by rw [hX35]; exact S4.set q474 ⟨by omega, by omega, by omega, by omega, by omega⟩
                        have q476 : S4 X X38 := by rw [hX38]; exact S4.set q475 ⟨by omega, by omega, by omega, by omega, by omega⟩
                        have q477 : S4 X Xb := S4.tr q476 h4Xb
                        have q478 : S4 X X402 := by rw [hX402]; exact S4.set q477 ⟨by omega, by omega, by omega, by omega, by omega⟩
                        have q479 : S4 X X405 := by rw [hX405]; exact S4.set q478 ⟨by omega, by omega, by omega, by omega, by omega⟩
                        have hMq480 : MInv X405 := minv_s4 hMI hRX405 hFX405 q479 (by decide)
                        have e481 : X405 76 0 4 = Xb 76 0 4 := by rw [hX405, u3_k _ _ _ _ (by decide), hX402, u3_k _ _ _ _ (by decide)]
                        have q483 : Frm [7300, 7400] Xb X402 := by rw [hX402]; exact Frm.set Frm.rf (show 7300 ∈ [7300, 7400] by decide)
                        have q484 : Frm [7300, 7400] Xb X405 := by rw [hX405]; exact Frm.set q483 (show 7400 ∈ [7300, 7400] by decide)
                        have hR9482 : rmR X405 (recK (lnM X) (mRid X) (mRid X) (recR (fcM X) (lnM X) (mRid X) (mRid X) x r.toNat) r k.toNat) := rmR.of hRb9 (by rw [hX405, u3_k _ _ _ _ (by decide), hX402, u3_k _ _ _ _ (by decide)]) (fun q9 hq9 => by simp only [List.mem_cons, List.not_mem_nil, or_false] at hq9; rcases hq9 with rfl | rfl | rfl | rfl | rfl | rfl | rfl | rfl <;> exact Frm.arr q484 _ (by decide +kernel) (by decide)) rfl rfl rfl
                        have q485 : Frm [7000, 7100, 7200, 7300, 7400, 7500, 7600, 7700, 7800, 7900, 8000, 8100] X X1 := by rw [hX1]; exact Frm.set Frm.rf (show 7000 ∈ [7000, 7100, 7200, 7300, 7400, 7500, 7600, 7700, 7800, 7900, 8000, 8100] by decide)
                        have q486 : Frm [7000, 7100, 7200, 7300, 7400, 7500, 7600, 7700, 7800, 7900, 8000, 8100] X X2 := by rw [hX2]; exact Frm.set q485 (show 7600 ∈ [7000, 7100, 7200, 7300, 7400, 7500, 7600, 7700, 7800, 7900, 8000, 8100] by decide)
                        have q487 : Frm [7000, 7100, 7200, 7300, 7400, 7500, 7600, 7700, 7800, 7900, 8000, 8100] X X12 := Frm.tr q486 (Frm.mono hG13 (by decide))
                        have q488 : Frm [7000, 7100, 7200, 7300, 7400, 7500, 7600, 7700, 7800, 7900, 8000, 8100] X Xa := Frm.tr q487 (Frm.mono hGXa (by decide))
                        have q489 : Frm [7000, 7100, 7200, 7300, 7400, 7500, 7600, 7700, 7800, 7900, 8000, 8100] X X35 := by rw [hX35]; exact Frm.set q488 (show 7100 ∈ [7000, 7100, 7200, 7300, 7400, 7500, 7600, 7700, 7800, 7900, 8000, 8100] by decide)
                        have q490 : Frm [7000, 7100, 7200, 7300, 7400, 7500, 7600, 7700, 7800, 7900, 8000, 8100] X X38 := by rw [hX38]; exact Frm.set q489 (show 7200 ∈ [7000, 7100, 7200, 7300, 7400, 7500, 7600, 7700, 7800, 7900, 8000, 8100] by decide)
                        have q491 : Frm [7000, 7100, 7200, 7300, 7400, 7500, 7600, 7700, 7800, 7900, 8000, 8100] X Xb := Frm.tr q490 (Frm.mono hGXb (by decide))
                        have q492 : Frm [7000, 7100, 7200, 7300, 7400, 7500, 7600, 7700, 7800, 7900, 8000, 8100] X X402 := by rw [hX402]; exact Frm.set q491 (show 7300 ∈ [7000, 7100, 7200, 7300, 7400, 7500, 7600, 7700, 7800, 7900, 8000, 8100] by decide)
                        have q493 : Frm [7000, 7100, 7200, 7300, 7400, 7500, 7600, 7700, 7800, 7900, 8000, 8100] X X405 := by rw [hX405]; exact Frm.set q492 (show 7400 ∈ [7000, 7100, 7200, 7300, 7400, 7500, 7600, 7700, 7800, 7900, 8000, 8100] by decide)
                        refine gos_i (run_V (As := [.int (jI 4), .int (jI (X 56 0 ((5 * (Xa 80 0 r)) + k)))]) (rest := [.int (jI ((5 * (120 + r)) + k)), .ref (ad 75 0)]) hx hb hml hown hts (c_X9_rowOf l D tc base ad cnt X405 Y ln hRX405 hFx hMq480 (X 56 0 ((5 * (Xa 80 0 r)) + k)) (by omega) (by simp only [e481]; omega) (recK (lnM X) (mRid X) (mRid X) (recR (fcM X) (lnM X) (mRid X) (mRid X) x r.toNat) r k.toNat) hR9482 (Xa 80 0 r) k (by unfold mRid; rw [(Frm.arr q493 56 (by decide +kernel) (by decide))])) (cwV 2 hts gX9_saves_X9_rowOf rfl rfl rfl (by first | exact hd_X9_rowOf | decide +kernel) ⟨Nat.le_of_ble_eq_true rfl, Nat.le_of_ble_eq_true rfl⟩) hK hw (by first | exact Int.le_refl 0 | omega) (by first | exact zlt hc40 | omega) sl_40_0 rfl rfl hl.1 rfl (Nat.le_of_ble_eq_true rfl) dX9_saves_252 ⟨Nat.le_of_ble_eq_true rfl, Nat.le_of_ble_eq_true rfl⟩) hS (fun z494 u495 H locs p496 hw hS => ?_)
                        obtain ⟨X497, eu495, hRX497, hG498, hMIX497, p496, hnrX497, hzrX497, hRrX497, h5X497⟩ := p496
                        subst eu495
                        have hFX497 : Frm [7100, 7200, 7300, 7400, 7500, 8000, 7000, 8100, 7700, 7800, 7900, 7600, 4042, 4043, 4044] X X497 := Frm.tr hFX405 (Frm.mono hG498 (by decide))
                        refine x_i2l hx hb (by omega) dX9_saves_255 ?_
                        refine x_last hx hb hK.1 hw hS (by first | exact Int.le_refl 0 | omega) (by first | exact zlt hc75 | omega) ar_75 (len_E ar_75 (by decide)) (by omega) (by omega) (by omega) dX9_saves_256 (fun H locs hw hS => ?_)
                        obtain ⟨X499, hX499⟩ : ∃ Xq, Xq = u3 X497 75 0 ((5 * (120 + r)) + k) z494 := ⟨_, rfl⟩
                        rw [← hX499] at hw
                        have hRX499 : Rng X499 := by rw [hX499]; exact rng_set hRX497 (show (-9223372036854775808) ≤ z494 ∧ z494 ≤ 9223372036854775807 by omega)
                        have hVX499 : X499 75 0 ((5 * (120 + r)) + k) = z494 := by rw [hX499]; exact u3_s _ _ _ _ _
                        have hFX499 : Frm [7100, 7200, 7300, 7400, 7500, 8000, 7000, 8100, 7700, 7800, 7900, 7600, 4042, 4043, 4044] X X499 := by rw [hX499]; exact Frm.set hFX497 (show 7500 ∈ [7100, 7200, 7300, 7400, 7500, 8000, 7000, 8100, 7700, 7800, 7900, 7600, 4042, 4043, 4044] by decide)
                        refine lv_iinc (v := jI (k + 1)) (lv' := [(6, .int (jI (k + 1))), (8, .long (jL (X 56 0 ((5 * (Xa 80 0 r)) + k)))), (7, .int (jI ((5 * (120 + r)) + k))), (0, .ref (ad 40 0)), (1, .int (jI x)), (2, .int (jI shut)), (3, .int (jI r)), (4, .int (jI (Xa 80 0 r))), (5, .int (jI (X 55 0 (Xa 80 0 r))))]) hx hb dX9_saves_257 hl (k := 8) rfl (jI_add _ _) (by decide) rfl (fun ls hl => ?_)
                        refine lv_goto (tgt := 80) hx hb dX9_saves_260 (by decide) ?_
                        have q500 : Frm [7100, 7200, 7300, 7400, 7500, 8000, 7000, 8100, 7700, 7800, 7900, 7600] X38 Xb := Frm.tr Frm.rf (Frm.mono hGXb (by decide))
                        have q501 : Frm [7100, 7200, 7300, 7400, 7500, 8000, 7000, 8100, 7700, 7800, 7900, 7600] X38 X402 := by rw [hX402]; exact Frm.set q500 (show 7300 ∈ [7100, 7200, 7300, 7400, 7500, 8000, 7000, 8100, 7700, 7800, 7900, 7600] by decide)
                        have q502 : Frm [7100, 7200, 7300, 7400, 7500, 8000, 7000, 8100, 7700, 7800, 7900, 7600] X38 X405 := by rw [hX405]; exact Frm.set q501 (show 7400 ∈ [7100, 7200, 7300, 7400, 7500, 8000, 7000, 8100, 7700, 7800, 7900, 7600] by decide)
                        have q503 : Frm [7100, 7200, 7300, 7400, 7500, 8000, 7000, 8100, 7700, 7800, 7900, 7600] X38 X497 := Frm.tr q502 (Frm.mono hG498 (by decide))
                        have q504 : Frm [7100, 7200, 7300, 7400, 7500, 8000, 7000, 8100, 7700, 7800, 7900, 7600] X38 X499 := by rw [hX499]; exact Frm.set q503 (show 7500 ∈ [7100, 7200, 7300, 7400, 7500, 8000, 7000, 8100, 7700, 7800, 7900, 7600] by decide)
                        have e505 : X499 76 0 4 = X497 76 0 4 := by rw [hX499, u3_k _ _ _ _ (by decide)]
                        have e506 : X499 70 0 4 = Xb 70 0 4 := by rw [hX499, u3_k _ _ _ _ (by decide), hG498 70 0 4 (show 7000 ∉ [8100, 7700, 7800, 7900, 7600] by decide), hX405, u3_k _ _ _ _ (by decide), hX402, u3_k _ _ _ _ (by decide)]
                        have q507 : Frm [7300, 7400, 7500, 7600, 7700, 7800, 7900, 8100] Xb X402 := by rw [hX402]; exact Frm.set Frm.rf (show 7300 ∈ [7300, 7400, 7500, 7600, 7700, 7800, 7900, 8100] by decide)
                        have q508 : Frm [7300, 7400, 7500, 7600, 7700, 7800, 7900, 8100] Xb X405 := by rw [hX405]; exact Frm.set q507 (show 7400 ∈ [7300, 7400, 7500, 7600, 7700, 7800, 7900, 8100] by decide)
                        have q509 : Frm [7300, 7400, 7500, 7600, 7700, 7800, 7900, 8100] Xb X497 := Frm.tr q508 (Frm.mono hG498 (by decide))
                        have q510 : Frm [7300, 7400, 7500, 7600, 7700, 7800, 7900, 8100] Xb X499 := by rw [hX499]; exact Frm.set q509 (show 7500 ∈ [7300, 7400, 7500, 7600, 7700, 7800, 7900, 8100] by decide)
                        have hO511 : ordOK X499 := ordOK.of hOb q510 (by decide)
                        have q512 : S4 X38 Xb := S4.tr S4.rf h4Xb
                        have q513 : S4 X38 X402 := by rw [hX402]; exact S4.set q512 ⟨by omega, by omega, by omega, by omega, by omega⟩
                        have q514 : S4 X38 X405 := by rw [hX405]; exact S4.set q513 ⟨by omega, by omega, by omega, by omega, by omega⟩
                        have q515 : S4 X38 X497 := S4.tr q514 (S4.frm hG498 (by decide))
                        have q516 : S4 X38 X499 := by rw [hX499]; exact S4.set q515 ⟨by omega, by omega, by omega, by omega, by omega⟩
                        have e517 : X499 70 0 4 = Xb 70 0 4 := (by rw [hX499, u3_k _ _ _ _ (by decide), hG498 70 0 4 (show 7000 ∉ [8100, 7700, 7800, 7900, 7600] by decide), hX405, u3_k _ _ _ _ (by decide), hX402, u3_k _ _ _ _ (by decide)])
                        have f518 : 0 ≤ X499 70 0 4 ∧ X499 70 0 4 ≤ 30 := hRX499 70 0 4
                        have e519 : X499 74 0 (5 * (120 + r) + k) = (X 46 0 ((5 * (X 55 0 (Xa 80 0 r))) + k)) := (by rw [hX499, u3_k _ _ _ _ (by decide), hG498 74 0 (5 * (120 + r) + k) (show 7400 ∉ [8100, 7700, 7800, 7900, 7600] by decide)]; exact hVX405)
                        have hcq520 : cOK X499 r (k + 1) := cOK.push (cOK.of hcO (by omega) hRX499 (by rw [show X499 40 0 2 = Xb 40 0 2 from (by rw [hX499, u3_k _ _ _ _ (by decide), hG498 40 0 2 (show 4003 ∉ [8100, 7700, 7800, 7900, 7600] by decide), hX405, u3_k _ _ _ _ (by decide), hX402, u3_k _ _ _ _ (by decide)])]; exact Int.le_refl _) (by omega) (fun r1 a b => ⟨(by rw [hX499, u3_k _ _ _ _ (by decide), hG498 71 0 (120 + r1) (show 7100 ∉ [8100, 7700, 7800, 7900, 7600] by decide), hX405, u3_k _ _ _ _ (by decide), hX402, u3_k _ _ _ _ (by decide)]), (by rw [hX499, u3_k _ _ _ _ (by decide), hG498 72 0 (120 + r1) (show 7200 ∉ [8100, 7700, 7800, 7900, 7600] by decide), hX405, u3_k _ _ _ _ (by decide), hX402, u3_k _ _ _ _ (by decide)])⟩) (fun j hj => ⟨(by rw [hX499, u3_k _ _ _ _ (by decide), hG498 74 0 j (show 7400 ∉ [8100, 7700, 7800, 7900, 7600] by decide), hX405, u3_j _ _ _ _ (by omega), hX402, u3_k _ _ _ _ (by decide)]), (by rw [hX499, u3_j _ _ _ _ (by omega), hG498 75 0 j (show 7500 ∉ [8100, 7700, 7800, 7900, 7600] by decide), hX405, u3_k _ _ _ _ (by decide), hX402, u3_k _ _ _ _ (by decide)])⟩) (by omega)) (by unfold ty4; rw [e519, hVX499]; exact ⟨fun _ => by omega, fun _ => by omega, fun _ => by omega⟩)
                        have hla521 : lnM X (recR (fcM X) (lnM X) (mRid X) (mRid X) x r.toNat 1 r) k = X 46 0 (5 * X 55 0 (Xa 80 0 r) + k) := by rw [← hyo]; rfl
                        have hvl522 : mRid X (recR (fcM X) (lnM X) (mRid X) (mRid X) x r.toNat 1 r) k = X 56 0 (5 * Xa 80 0 r + k) := by rw [← hyo]; rfl
                        have q525 : Frm [7300, 7400, 7600, 7700, 7800, 7900, 8100] Xb X402 := by rw [hX402]; exact Frm.set Frm.rf (show 7300 ∈ [7300, 7400, 7600, 7700, 7800, 7900, 8100] by decide)
                        have q526 : Frm [7300, 7400, 7600, 7700, 7800, 7900, 8100] Xb X405 := by rw [hX405]; exact Frm.set q525 (show 7400 ∈ [7300, 7400, 7600, 7700, 7800, 7900, 8100] by decide)
                        have q527 : Frm [7300, 7400, 7600, 7700, 7800, 7900, 8100] Xb X497 := Frm.tr q526 (Frm.mono hG498 (by decide))
                        have hT524 : rmT X497 (recK (lnM X) (mRid X) (mRid X) (recR (fcM X) (lnM X) (mRid X) (mRid X) x r.toNat) r k.toNat) := rmT.of hTb (by rw [hG498 70 0 4 (show 7000 ∉ [8100, 7700, 7800, 7900, 7600] by decide), hX405, u3_k _ _ _ _ (by decide), hX402, u3_k _ _ _ _ (by decide)]) (Frm.arr q527 80 (by decide +kernel) (by decide)) rfl rfl
                        have q529 : Frm [7000, 7100, 7200, 7300, 7400, 7500, 7600, 7700, 7800, 7900, 8000, 8100] X X1 := by rw [hX1]; exact Frm.set Frm.rf (show 7000 ∈ [7000, 7100, 7200, 7300, 7400, 7500, 7600, 7700, 7800, 7900, 8000, 8100] by decide)
                        have q530 : Frm [7000, 7100, 7200, 7300, 7400, 7500, 7600, 7700, 7800, 7900, 8000, 8100] X X2 := by rw [hX2]; exact Frm.set q529 (show 7600 ∈ [7000, 7100, 7200, 7300, 7400, 7500, 7600, 7700, 7800, 7900, 8000, 8100] by decide)
                        have q531 : Frm [7000, 7100, 7200, 7300, 7400, 7500, 7600, 7700, 7800, 7900, 8000, 8100] X X12 := Frm.tr q530 (Frm.mono hG13 (by decide))
                        have q532 : Frm [7000, 7100, 7200, 7300, 7400, 7500, 7600, 7700, 7800, 7900, 8000, 8100] X Xa := Frm.tr q531 (Frm.mono hGXa (by decide))
                        have q533 : Frm [7000, 7100, 7200, 7300, 7400, 7500, 7600, 7700, 7800, 7900, 8000, 8100] X X35 := by rw [hX35]; exact Frm.set q532 (show 7100 ∈ [7000, 7100, 7200, 7300, 7400, 7500, 7600, 7700, 7800, 7900, 8000, 8100] by decide)
                        have q534 : Frm [7000, 7100, 7200, 7300, 7400, 7500, 7600, 7700, 7800, 7900, 8000, 8100] X X38 := by rw [hX38]; exact Frm.set q533 (show 7200 ∈ [7000, 7100, 7200, 7300, 7400, 7500, 7600, 7700, 7800, 7900, 8000, 8100] by decide)
                        have q535 : Frm [7000, 7100, 7200, 7300, 7400, 7500, 7600, 7700, 7800, 7900, 8000, 8100] X Xb := Frm.tr q534 (Frm.mono hGXb (by decide))
                        have q536 : Frm [7000, 7100, 7200, 7300, 7400, 7500, 7600, 7700, 7800, 7900, 8000, 8100] X X402 := by rw [hX402]; exact Frm.set q535 (show 7300 ∈ [7000, 7100, 7200, 7300, 7400, 7500, 7600, 7700, 7800, 7900, 8000, 8100] by decide)
                        have q537 : Frm [7000, 7100, 7200, 7300, 7400, 7500, 7600, 7700, 7800, 7900, 8000, 8100] X X405 := by rw [hX405]; exact Frm.set q536 (show 7400 ∈ [7000, 7100, 7200, 7300, 7400, 7500, 7600, 7700, 7800, 7900, 8000, 8100] by decide)
                        have hmr528 : mRid X405 = mRid X := by funext a9 b9; unfold mRid; rw [(Frm.arr q537 56 (by decide +kernel) (by decide))]
                        have hst523 : mStp (lnM X) (mRid X) (mRid X) (recR (fcM X) (lnM X) (mRid X) (mRid X) x r.toNat 1 r) k (5 * r + k) X497 (recK (lnM X) (mRid X) (mRid X) (recR (fcM X) (lnM X) (mRid X) (mRid X) x r.toNat) r k.toNat) z494 := by have h8 := hRrX497; have h9 := hzrX497; rw [hmr528, hyo] at h8 h9; exact mStp_r (by rw [hla521]; omega) (by rw [hvl522]; omega) hT524 h8 h9
                        have q538 : Frm [7500] X497 X499 := by rw [hX499]; exact Frm.set Frm.rf (show 7500 ∈ [7500] by decide)
                        have q539 : Frm [7500] X497 X499 := by rw [hX499]; exact Frm.set Frm.rf (show 7500 ∈ [7500] by decide)
                        have q540 : Frm [7300, 7400, 7500, 7600, 7700, 7800, 7900, 8100] Xb X402 := by rw [hX402]; exact Frm.set Frm.rf (show 7300 ∈ [7300, 7400, 7500, 7600, 7700, 7800, 7900, 8100] by decide)
                        have q541 : Frm [7300, 7400, 7500, 7600, 7700, 7800, 7900, 8100] Xb X405 := by rw [hX405]; exact Frm.set q540 (show 7400 ∈ [7300, 7400, 7500, 7600, 7700, 7800, 7900, 8100] by decide)
                        have q542 : Frm [7300, 7400, 7500, 7600, 7700, 7800, 7900, 8100] Xb X497 := Frm.tr q541 (Frm.mono hG498 (by decide))
                        have q543 : Frm [7300, 7400, 7500, 7600, 7700, 7800, 7900, 8100] Xb X499 := by rw [hX499]; exact Frm.set q542 (show 7500 ∈ [7300, 7400, 7500, 7600, 7700, 7800, 7900, 8100] by decide)
                        have q545 : Frm [7000, 7100, 7200, 7300, 7400, 7500, 7600, 7700, 7800, 7900, 8000, 8100] X X1 := by rw [hX1]; exact Frm.set Frm.rf (show 7000 ∈ [7000, 7100, 7200, 7300, 7400, 7500, 7600, 7700, 7800, 7900, 8000, 8100] by decide)
                        have q546 : Frm [7000, 7100, 7200, 7300, 7400, 7500, 7600, 7700, 7800, 7900, 8000, 8100] X X2 := by rw [hX2]; exact Frm.set q545 (show 7600 ∈ [7000, 7100, 7200, 7300, 7400, 7500, 7600, 7700, 7800, 7900, 8000, 8100] by decide)
                        have q547 : Frm [7000, 7100, 7200, 7300, 7400, 7500, 7600, 7700, 7800, 7900, 8000, 8100] X X12 := Frm.tr q546 (Frm.mono hG13 (by decide))
                        have q548 : Frm [7000, 7100, 7200, 7300, 7400, 7500, 7600, 7700, 7800, 7900, 8000, 8100] X Xa := Frm.tr q547 (Frm.mono hGXa (by decide))
                        have q549 : Frm [7000, 7100, 7200, 7300, 7400, 7500, 7600, 7700, 7800, 7900, 8000, 8100] X X35 := by rw [hX35]; exact Frm.set q548 (show 7100 ∈ [7000, 7100, 7200, 7300, 7400, 7500, 7600, 7700, 7800, 7900, 8000, 8100] by decide)
                        have q550 : Frm [7000, 7100, 7200, 7300, 7400, 7500, 7600, 7700, 7800, 7900, 8000, 8100] X X38 := by rw [hX38]; exact Frm.set q549 (show 7200 ∈ [7000, 7100, 7200, 7300, 7400, 7500, 7600, 7700, 7800, 7900, 8000, 8100] by decide)
                        have q551 : Frm [7000, 7100, 7200, 7300, 7400, 7500, 7600, 7700, 7800, 7900, 8000, 8100] X Xb := Frm.tr q550 (Frm.mono hGXb (by decide))
                        have q552 : Frm [7000, 7100, 7200, 7300, 7400, 7500, 7600, 7700, 7800, 7900, 8000, 8100] X X402 := by rw [hX402]; exact Frm.set q551 (show 7300 ∈ [7000, 7100, 7200, 7300, 7400, 7500, 7600, 7700, 7800, 7900, 8000, 8100] by decide)
                        have q553 : Frm [7000, 7100, 7200, 7300, 7400, 7500, 7600, 7700, 7800, 7900, 8000, 8100] X X405 := by rw [hX405]; exact Frm.set q552 (show 7400 ∈ [7000, 7100, 7200, 7300, 7400, 7500, 7600, 7700, 7800, 7900, 8000, 8100] by decide)
                        have q554 : Frm [7000, 7100, 7200, 7300, 7400, 7500, 7600, 7700, 7800, 7900, 8000, 8100] X X497 := Frm.tr q553 (Frm.mono hG498 (by decide))
                        have q555 : Frm [7000, 7100, 7200, 7300, 7400, 7500, 7600, 7700, 7800, 7900, 8000, 8100] X X499 := by rw [hX499]; exact Frm.set q554 (show 7500 ∈ [7000, 7100, 7200, 7300, 7400, 7500, 7600, 7700, 7800, 7900, 8000, 8100] by decide)
                        have hms544 : mSt X X499 := mSt.of (L := [7000, 7100, 7200, 7300, 7400, 7500, 7600, 7700, 7800, 7900, 8000, 8100]) q555 (by decide)
                        have q556 : Frm [7000, 7100, 7200, 7300, 7400, 7500, 7600, 7700, 7800, 7900, 8000, 8100] X X1 := by rw [hX1]; exact Frm.set Frm.rf (show 7000 ∈ [7000, 7100, 7200, 7300, 7400, 7500, 7600, 7700, 7800, 7900, 8000, 8100] by decide)
                        have q557 : Frm [7000, 7100, 7200, 7300, 7400, 7500, 7600, 7700, 7800, 7900, 8000, 8100] X X2 := by rw [hX2]; exact Frm.set q556 (show 7600 ∈ [7000, 7100, 7200, 7300, 7400, 7500, 7600, 7700, 7800, 7900, 8000, 8100] by decide)
                        have q558 : Frm [7000, 7100, 7200, 7300, 7400, 7500, 7600, 7700, 7800, 7900, 8000, 8100] X X12 := Frm.tr q557 (Frm.mono hG13 (by decide))
                        have q559 : Frm [7000, 7100, 7200, 7300, 7400, 7500, 7600, 7700, 7800, 7900, 8000, 8100] X Xa := Frm.tr q558 (Frm.mono hGXa (by decide))
                        have q560 : Frm [7000, 7100, 7200, 7300, 7400, 7500, 7600, 7700, 7800, 7900, 8000, 8100] X X35 := by rw [hX35]; exact Frm.set q559 (show 7100 ∈ [7000, 7100, 7200, 7300, 7400, 7500, 7600, 7700, 7800, 7900, 8000, 8100] by decide)
                        have q561 : Frm [7000, 7100, 7200, 7300, 7400, 7500, 7600, 7700, 7800, 7900, 8000, 8100] X X38 := by rw [hX38]; exact Frm.set q560 (show 7200 ∈ [7000, 7100, 7200, 7300, 7400, 7500, 7600, 7700, 7800, 7900, 8000, 8100] by decide)
                        have q562 : Frm [7000, 7100, 7200, 7300, 7400, 7500, 7600, 7700, 7800, 7900, 8000, 8100] X Xb := Frm.tr q561 (Frm.mono hGXb (by decide))
                        have q563 : Frm [7300, 7400, 7500, 7600, 7700, 7800, 7900, 8100] Xb X402 := by rw [hX402]; exact Frm.set Frm.rf (show 7300 ∈ [7300, 7400, 7500, 7600, 7700, 7800, 7900, 8100] by decide)
                        have q564 : Frm [7300, 7400, 7500, 7600, 7700, 7800, 7900, 8100] Xb X405 := by rw [hX405]; exact Frm.set q563 (show 7400 ∈ [7300, 7400, 7500, 7600, 7700, 7800, 7900, 8100] by decide)
                        have q565 : Frm [7300, 7400, 7500, 7600, 7700, 7800, 7900, 8100] Xb X497 := Frm.tr q564 (Frm.mono hG498 (by decide))
                        have q566 : Frm [7300, 7400, 7500, 7600, 7700, 7800, 7900, 8100] Xb X499 := by rw [hX499]; exact Frm.set q565 (show 7500 ∈ [7300, 7400, 7500, 7600, 7700, 7800, 7900, 8100] by decide)
                        have q567 : Frm [7300, 7400, 7500, 7600, 7700, 7800, 7900, 8100] Xb X402 := by rw [hX402]; exact Frm.set Frm.rf (show 7300 ∈ [7300, 7400, 7500, 7600, 7700, 7800, 7900, 8100] by decide)
                        have q568 : Frm [7300, 7400, 7500, 7600, 7700, 7800, 7900, 8100] Xb X405 := by rw [hX405]; exact Frm.set q567 (show 7400 ∈ [7300, 7400, 7500, 7600, 7700, 7800, 7900, 8100] by decide)
                        have q569 : Frm [7300, 7400, 7500, 7600, 7700, 7800, 7900, 8100] Xb X497 := Frm.tr q568 (Frm.mono hG498 (by decide))
                        have q570 : Frm [7300, 7400, 7500, 7600, 7700, 7800, 7900, 8100] Xb X499 := by rw [hX499]; exact Frm.set q569 (show 7500 ∈ [7300, 7400, 7500, 7600, 7700, 7800, 7900, 8100] by decide)
                        have q571 : S5 X38 Xb := S5.tr S5.rf h5Xb
                        have q572 : S5 X38 X402 := by rw [hX402]; exact S5.set q571 ⟨by omega, by omega, by omega, by omega, by omega⟩
                        have q573 : S5 X38 X405 := by rw [hX405]; exact S5.set q572 ⟨by omega, by omega, by omega, by omega, by omega⟩
                        have q574 : S5 X38 X497 := S5.tr q573 h5X497
                        have q575 : S5 X38 X499 := by rw [hX499]; exact S5.set q574 ⟨by omega, by omega, by omega, by omega, by omega⟩
                        exact ih80 (k + 1) X499 _ _ _ (by omega) hRX499 q504 (by first | omega | (simp only [e505, e506]; omega)) (hO511) (q516) (by first | omega | (simp only [e505, e506]; omega)) (by first | omega | (simp only [e505, e506]; omega)) (hcq520) ((by rw [hX499, u3_k _ _ _ _ (by decide), hG498 71 0 (120 + r) (show 7100 ∉ [8100, 7700, 7800, 7900, 7600] by decide), hX405, u3_k _ _ _ _ (by decide), hX402, u3_k _ _ _ _ (by decide)]; exact h71)) ((by rw [hX499, u3_k _ _ _ _ (by decide), hG498 72 0 (120 + r) (show 7200 ∉ [8100, 7700, 7800, 7900, 7600] by decide), hX405, u3_k _ _ _ _ (by decide), hX402, u3_k _ _ _ _ (by decide)]; exact h72)) ((by rw [recK_s (by omega)]; exact rmT.of hst523.1 (by rw [hX499, u3_k _ _ _ _ (by decide)]) (Frm.arr q538 80 (by decide +kernel) (by decide)) rfl rfl)) ((by rw [recK_s (by omega)]; exact rmR.of hst523.2.1 (by rw [hX499, u3_k _ _ _ _ (by decide)]) (fun q9 hq9 => by simp only [List.mem_cons, List.not_mem_nil, or_false] at hq9; rcases hq9 with rfl | rfl | rfl | rfl | rfl | rfl | rfl | rfl <;> exact Frm.arr q539 _ (by decide +kernel) (by decide)) rfl rfl rfl)) ((by rw [recK_s (by omega)]; exact rmV.push hVb (mSt.of (L := [7300, 7400, 7500, 7600, 7700, 7800, 7900, 8100]) q543 (by decide)) ⟨by omega, by omega⟩ (by omega) (fun t => by rw [(Frm.arr q562 44 (by decide +kernel) (by decide))]; exact hf55 t) (Frm.arr q566 71 (by decide +kernel) (by decide)) (Frm.arr q570 72 (by decide +kernel) (by decide)) (fun j hj => (by rw [hX499, u3_k _ _ _ _ (by decide), hG498 73 0 j (show 7300 ∉ [8100, 7700, 7800, 7900, 7600] by decide), hX405, u3_k _ _ _ _ (by decide), hX402, u3_j _ _ _ _ hj])) (fun j hj => (by rw [hX499, u3_k _ _ _ _ (by decide), hG498 74 0 j (show 7400 ∉ [8100, 7700, 7800, 7900, 7600] by decide), hX405, u3_j _ _ _ _ hj, hX402, u3_k _ _ _ _ (by decide)])) (fun j hj => (by rw [hX499, u3_j _ _ _ _ hj, hG498 75 0 j (show 7500 ∉ [8100, 7700, 7800, 7900, 7600] by decide), hX405, u3_k _ _ _ _ (by decide), hX402, u3_k _ _ _ _ (by decide)])) (fun q a b => recP_o ⟨a, by omega⟩) (fun q hq => recP_5 hq) ⟨(by rw [recP_o ⟨by omega, by omega⟩, recK_o _ ⟨by omega, by omega⟩, ← hyo, hms544.2.1, hms544.2.2.2]; exact (by rw [hX499, u3_k _ _ _ _ (by decide), hG498 73 0 (5 * (120 + r) + k) (show 7300 ∉ [8100, 7700, 7800, 7900, 7600] by decide), hX405, u3_k _ _ _ _ (by decide)]; rw [hVX402])), (by rw [recP_o ⟨by omega, by omega⟩, recK_o _ ⟨by omega, by omega⟩, ← hyo]; unfold lnM; rw [hms544.2.2.1, hms544.2.2.2]; exact (by rw [hX499, u3_k _ _ _ _ (by decide), hG498 74 0 (5 * (120 + r) + k) (show 7400 ∉ [8100, 7700, 7800, 7900, 7600] by decide)]; rw [hVX405])), (by rw [hVX499]; exact hst523.2.2)⟩)) ((by rw [hX499, u3_k _ _ _ _ (by decide), hG498 71 0 (120 + r) (show 7100 ∉ [8100, 7700, 7800, 7900, 7600] by decide), hX405, u3_k _ _ _ _ (by decide), hX402, u3_k _ _ _ _ (by decide)]; exact h71b)) (by first | omega | (simp only [e505, e506]; omega)) (fun h9 k' a b => if hk9 : k' = k then (by rw [hk9]; omega) else hnk h9 k' a (by omega)) (q575) hw hS (lv_sub hl [3, 4, 5, 6, 7, 8, 0] rfl)
                      · refine lv_aload_n hx hb dX9_saves_235 rfl (lv_at hl 2 rfl) ?_
                        refine lv_iconst (v := jI 4) hx hb dX9_saves_236 rfl ?_
                        refine lv_lload hx hb dX9_saves_237 (lv_at hl 0 rfl) ?_
                        refine x_l2i hx hb dX9_saves_239 ?_
                        have q576 : S4 X X1 := by rw [hX1]; exact S4.set S4.rf ⟨by omega, by omega, by omega, by omega, by omega⟩
                        have q577 : S4 X X2 := by rw [hX2]; exact S4.set q576 ⟨by omega, by omega, by omega, by omega, by omega⟩
                        have q578 : S4 X X12 := S4.tr q577 h4X12
                        have q579 : S4 X Xa := S4.tr q578 h4Xa
                        have q580 : S4 X X35 := by rw [hX35]; exact S4.set q579 ⟨by omega, by omega, by omega, by omega, by omega⟩
                        have q581 : S4 X X38 := by rw [hX38]; exact S4.set q580 ⟨by omega, by omega, by omega, by omega, by omega⟩
                        have q582 : S4 X Xb := S4.tr q581 h4Xb
                        have q583 : S4 X X402 := by rw [hX402]; exact S4.set q582 ⟨by omega, by omega, by omega, by omega, by omega⟩
                        have q584 : S4 X X405 := by rw [hX405]; exact S4.set q583 ⟨by omega, by omega, by omega, by omega, by omega⟩
                        have hMq585 : MInv X405 := minv_s4 hMI hRX405 hFX405 q584 (by decide)
                        have q586 : Frm [7300, 7400] Xb X402 := by rw [hX402]; exact Frm.set Frm.rf (show 7300 ∈ [7300, 7400] by decide)
                        have q587 : Frm [7300, 7400] Xb X405 := by rw [hX405]; exact Frm.set q586 (show 7400 ∈ [7300, 7400] by decide)
                        have hO588 : ordOK X405 := ordOK.of hOb q587 (by decide)
                        have e589 : X405 40 0 13 = X 40 0 13 := by rw [hX405, u3_k _ _ _ _ (by decide), hX402, u3_k _ _ _ _ (by decide), hGXb 40 0 13 (show 4014 ∉ [7100, 7200, 7300, 7400, 7500, 8000, 7000, 8100, 7700, 7800, 7900, 7600] by decide), hX38, u3_k _ _ _ _ (by decide), hX35, u3_k _ _ _ _ (by decide), hGXa 40 0 13 (show 4014 ∉ [7100, 7200, 7300, 7400, 7500, 8000, 7000, 8100, 7700, 7800, 7900, 7600] by decide), hG13 40 0 13 (show 4014 ∉ [8000, 7000] by decide), hX2, u3_k _ _ _ _ (by decide), hX1, u3_k _ _ _ _ (by decide)]
                        have q591 : Frm [7300, 7400] Xb X402 := by rw [hX402]; exact Frm.set Frm.rf (show 7300 ∈ [7300, 7400] by decide)
                        have q592 : Frm [7300, 7400] Xb X405 := by rw [hX405]; exact Frm.set q591 (show 7400 ∈ [7300, 7400] by decide)
                        have hT590 : rmT X405 (recK (lnM X) (mRid X) (mRid X) (recR (fcM X) (lnM X) (mRid X) (mRid X) x r.toNat) r k.toNat) := rmT.of hTb (by rw [hX405, u3_k _ _ _ _ (by decide), hX402, u3_k _ _ _ _ (by decide)]) (Frm.arr q592 80 (by decide +kernel) (by decide)) rfl rfl
                        refine gos_i (run_V (As := [.int (jI 4), .int (jI (X 56 0 ((5 * (Xa 80 0 r)) + k)))]) (rest := [.int (jI ((5 * (120 + r)) + k)), .ref (ad 75 0)]) hx hb hml hown hts (c_X9_recordOf l D tc base ad cnt X405 Y ln hRX405 hFx hMq585 (X 56 0 ((5 * (Xa 80 0 r)) + k)) (by omega) (by simp only [e589]; omega) hO588 (recK (lnM X) (mRid X) (mRid X) (recR (fcM X) (lnM X) (mRid X) (mRid X) x r.toNat) r k.toNat) hT590) (cwV 2 hts gX9_saves_X9_recordOf rfl rfl rfl (by first | exact hd_X9_recordOf | decide +kernel) ⟨Nat.le_of_ble_eq_true rfl, Nat.le_of_ble_eq_true rfl⟩) hK hw (by first | exact Int.le_refl 0 | omega) (by first | exact zlt hc40 | omega) sl_40_0 rfl rfl hl.1 rfl (Nat.le_of_ble_eq_true rfl) dX9_saves_240 ⟨Nat.le_of_ble_eq_true rfl, Nat.le_of_ble_eq_true rfl⟩) hS (fun z593 u594 H locs p595 hw hS => ?_)
                        have e596 : X405 70 0 4 = Xb 70 0 4 := by rw [hX405, u3_k _ _ _ _ (by decide), hX402, u3_k _ _ _ _ (by decide)]
                        obtain ⟨X597, eu594, hRX597, hG598, hMIX597, p595, h4X597, hOX597, hleX597, hzrX597, hTrX597⟩ := p595
                        subst eu594
                        have hFX597 : Frm [7100, 7200, 7300, 7400, 7500, 8000, 7000, 8100, 7700, 7800, 7900, 7600, 4042, 4043, 4044] X X597 := Frm.tr hFX405 (Frm.mono hG598 (by decide))
                        simp only [e596] at hleX597
                        refine x_i2l hx hb (by omega) dX9_saves_243 ?_
                        refine lv_goto (tgt := 256) hx hb dX9_saves_244 (by decide) ?_
                        refine x_last hx hb hK.1 hw hS (by first | exact Int.le_refl 0 | omega) (by first | exact zlt hc75 | omega) ar_75 (len_E ar_75 (by decide)) (by omega) (by omega) (by omega) dX9_saves_256 (fun H locs hw hS => ?_)
                        obtain ⟨X599, hX599⟩ : ∃ Xq, Xq = u3 X597 75 0 ((5 * (120 + r)) + k) z593 := ⟨_, rfl⟩
                        rw [← hX599] at hw
                        have hRX599 : Rng X599 := by rw [hX599]; exact rng_set hRX597 (show (-9223372036854775808) ≤ z593 ∧ z593 ≤ 9223372036854775807 by omega)
                        have hVX599 : X599 75 0 ((5 * (120 + r)) + k) = z593 := by rw [hX599]; exact u3_s _ _ _ _ _
                        have hFX599 : Frm [7100, 7200, 7300, 7400, 7500, 8000, 7000, 8100, 7700, 7800, 7900, 7600, 4042, 4043, 4044] X X599 := by rw [hX599]; exact Frm.set hFX597 (show 7500 ∈ [7100, 7200, 7300, 7400, 7500, 8000, 7000, 8100, 7700, 7800, 7900, 7600, 4042, 4043, 4044] by decide)
                        refine lv_iinc (v := jI (k + 1)) (lv' := [(6, .int (jI (k + 1))), (8, .long (jL (X 56 0 ((5 * (Xa 80 0 r)) + k)))), (7, .int (jI ((5 * (120 + r)) + k))), (0, .ref (ad 40 0)), (1, .int (jI x)), (2, .int (jI shut)), (3, .int (jI r)), (4, .int (jI (Xa 80 0 r))), (5, .int (jI (X 55 0 (Xa 80 0 r))))]) hx hb dX9_saves_257 hl (k := 8) rfl (jI_add _ _) (by decide) rfl (fun ls hl => ?_)
                        refine lv_goto (tgt := 80) hx hb dX9_saves_260 (by decide) ?_
                        have q600 : Frm [7100, 7200, 7300, 7400, 7500, 8000, 7000, 8100, 7700, 7800, 7900, 7600] X38 Xb := Frm.tr Frm.rf (Frm.mono hGXb (by decide))
                        have q601 : Frm [7100, 7200, 7300, 7400, 7500, 8000, 7000, 8100, 7700, 7800, 7900, 7600] X38 X402 := by rw [hX402]; exact Frm.set q600 (show 7300 ∈ [7100, 7200, 7300, 7400, 7500, 8000, 7000, 8100, 7700, 7800, 7900, 7600] by decide)
                        have q602 : Frm [7100, 7200, 7300, 7400, 7500, 8000, 7000, 8100, 7700, 7800, 7900, 7600] X38 X405 := by rw [hX405]; exact Frm.set q601 (show 7400 ∈ [7100, 7200, 7300, 7400, 7500, 8000, 7000, 8100, 7700, 7800, 7900, 7600] by decide)
                        have q603 : Frm [7100, 7200, 7300, 7400, 7500, 8000, 7000, 8100, 7700, 7800, 7900, 7600] X38 X597 := Frm.tr q602 (Frm.mono hG598 (by decide))
                        have q604 : Frm [7100, 7200, 7300, 7400, 7500, 8000, 7000, 8100, 7700, 7800, 7900, 7600] X38 X599 := by rw [hX599]; exact Frm.set q603 (show 7500 ∈ [7100, 7200, 7300, 7400, 7500, 8000, 7000, 8100, 7700, 7800, 7900, 7600] by decide)
                        have e605 : X599 76 0 4 = Xb 76 0 4 := by rw [hX599, u3_k _ _ _ _ (by decide), hG598 76 0 4 (show 7600 ∉ [8000, 7000] by decide), hX405, u3_k _ _ _ _ (by decide), hX402, u3_k _ _ _ _ (by decide)]
                        have e606 : X599 70 0 4 = X597 70 0 4 := by rw [hX599, u3_k _ _ _ _ (by decide)]
                        have q607 : Frm [7500] X597 X599 := by rw [hX599]; exact Frm.set Frm.rf (show 7500 ∈ [7500] by decide)
                        have hO608 : ordOK X599 := ordOK.of hOX597 q607 (by decide)
                        have q609 : S4 X38 Xb := S4.tr S4.rf h4Xb
                        have q610 : S4 X38 X402 := by rw [hX402]; exact S4.set q609 ⟨by omega, by omega, by omega, by omega, by omega⟩
                        have q611 : S4 X38 X405 := by rw [hX405]; exact S4.set q610 ⟨by omega, by omega, by omega, by omega, by omega⟩
                        have q612 : S4 X38 X597 := S4.tr q611 h4X597
                        have q613 : S4 X38 X599 := by rw [hX599]; exact S4.set q612 ⟨by omega, by omega, by omega, by omega, by omega⟩
                        have e614 : X599 70 0 4 = X597 70 0 4 := (by rw [hX599, u3_k _ _ _ _ (by decide)])
                        have f615 : 0 ≤ X599 70 0 4 ∧ X599 70 0 4 ≤ 30 := hRX599 70 0 4
                        have e616 : X599 74 0 (5 * (120 + r) + k) = (X 46 0 ((5 * (X 55 0 (Xa 80 0 r))) + k)) := (by rw [hX599, u3_k _ _ _ _ (by decide), hG598 74 0 (5 * (120 + r) + k) (show 7400 ∉ [8000, 7000] by decide)]; exact hVX405)
                        have hcq617 : cOK X599 r (k + 1) := cOK.push (cOK.of hcO (by omega) hRX599 (by rw [show X599 40 0 2 = Xb 40 0 2 from (by rw [hX599, u3_k _ _ _ _ (by decide), hG598 40 0 2 (show 4003 ∉ [8000, 7000] by decide), hX405, u3_k _ _ _ _ (by decide), hX402, u3_k _ _ _ _ (by decide)])]; exact Int.le_refl _) (by omega) (fun r1 a b => ⟨(by rw [hX599, u3_k _ _ _ _ (by decide), hG598 71 0 (120 + r1) (show 7100 ∉ [8000, 7000] by decide), hX405, u3_k _ _ _ _ (by decide), hX402, u3_k _ _ _ _ (by decide)]), (by rw [hX599, u3_k _ _ _ _ (by decide), hG598 72 0 (120 + r1) (show 7200 ∉ [8000, 7000] by decide), hX405, u3_k _ _ _ _ (by decide), hX402, u3_k _ _ _ _ (by decide)])⟩) (fun j hj => ⟨(by rw [hX599, u3_k _ _ _ _ (by decide), hG598 74 0 j (show 7400 ∉ [8000, 7000] by decide), hX405, u3_j _ _ _ _ (by omega), hX402, u3_k _ _ _ _ (by decide)]), (by rw [hX599, u3_j _ _ _ _ (by omega), hG598 75 0 j (show 7500 ∉ [8000, 7000] by decide), hX405, u3_k _ _ _ _ (by decide), hX402, u3_k _ _ _ _ (by decide)])⟩) (by omega)) (by unfold ty4; rw [e616, hVX599]; exact ⟨fun _ => by omega, fun _ => by omega, fun _ => by omega⟩)
                        have hla618 : lnM X (recR (fcM X) (lnM X) (mRid X) (mRid X) x r.toNat 1 r) k = X 46 0 (5 * X 55 0 (Xa 80 0 r) + k) := by rw [← hyo]; rfl
                        have hvl619 : mRid X (recR (fcM X) (lnM X) (mRid X) (mRid X) x r.toNat 1 r) k = X 56 0 (5 * Xa 80 0 r + k) := by rw [← hyo]; rfl
                        have q622 : Frm [7000, 7300, 7400, 8000] Xb X402 := by rw [hX402]; exact Frm.set Frm.rf (show 7300 ∈ [7000, 7300, 7400, 8000] by decide)
                        have q623 : Frm [7000, 7300, 7400, 8000] Xb X405 := by rw [hX405]; exact Frm.set q622 (show 7400 ∈ [7000, 7300, 7400, 8000] by decide)
                        have q624 : Frm [7000, 7300, 7400, 8000] Xb X597 := Frm.tr q623 (Frm.mono hG598 (by decide))
                        have hR9621 : rmR X597 (recK (lnM X) (mRid X) (mRid X) (recR (fcM X) (lnM X) (mRid X) (mRid X) x r.toNat) r k.toNat) := rmR.of hRb9 (by rw [hG598 76 0 4 (show 7600 ∉ [8000, 7000] by decide), hX405, u3_k _ _ _ _ (by decide), hX402, u3_k _ _ _ _ (by decide)]) (fun q9 hq9 => by simp only [List.mem_cons, List.not_mem_nil, or_false] at hq9; rcases hq9 with rfl | rfl | rfl | rfl | rfl | rfl | rfl | rfl <;> exact Frm.arr q624 _ (by decide +kernel) (by decide)) rfl rfl rfl
                        have hst620 : mStp (lnM X) (mRid X) (mRid X) (recR (fcM X) (lnM X) (mRid X) (mRid X) x r.toNat 1 r) k (5 * r + k) X597 (recK (lnM X) (mRid X) (mRid X) (recR (fcM X) (lnM X) (mRid X) (mRid X) x r.toNat) r k.toNat) z593 := by have h8 := hTrX597; have h9 := hzrX597; rw [hyo] at h8 h9; exact mStp_t (by rw [hla618]; omega) (by rw [hvl619]; omega) h8 hR9621 h9
                        have q625 : Frm [7500] X597 X599 := by rw [hX599]; exact Frm.set Frm.rf (show 7500 ∈ [7500] by decide)
                        have q626 : Frm [7500] X597 X599 := by rw [hX599]; exact Frm.set Frm.rf (show 7500 ∈ [7500] by decide)
                        have q627 : Frm [7000, 7300, 7400, 7500, 8000] Xb X402 := by rw [hX402]; exact Frm.set Frm.rf (show 7300 ∈ [7000, 7300, 7400, 7500, 8000] by decide)
                        have q628 : Frm [7000, 7300, 7400, 7500, 8000] Xb X405 := by rw [hX405]; exact Frm.set q627 (show 7400 ∈ [7000, 7300, 7400, 7500, 8000] by decide)
                        have q629 : Frm [7000, 7300, 7400, 7500, 8000] Xb X597 := Frm.tr q628 (Frm.mono hG598 (by decide))
                        have q630 : Frm [7000, 7300, 7400, 7500, 8000] Xb X599 := by rw [hX599]; exact Frm.set q629 (show 7500 ∈ [7000, 7300, 7400, 7500, 8000] by decide)
                        have q632 : Frm [7000, 7100, 7200, 7300, 7400, 7500, 7600, 7700, 7800, 7900, 8000, 8100] X X1 := by rw [hX1]; exact Frm.set Frm.rf (show 7000 ∈ [7000, 7100, 7200, 7300, 7400, 7500, 7600, 7700, 7800, 7900, 8000, 8100] by decide)
                        have q633 : Frm [7000, 7100, 7200, 7300, 7400, 7500, 7600, 7700, 7800, 7900, 8000, 8100] X X2 := by rw [hX2]; exact Frm.set q632 (show 7600 ∈ [7000, 7100, 7200, 7300, 7400, 7500, 7600, 7700, 7800, 7900, 8000, 8100] by decide)
                        have q634 : Frm [7000, 7100, 7200, 7300, 7400, 7500, 7600, 7700, 7800, 7900, 8000, 8100] X X12 := Frm.tr q633 (Frm.mono hG13 (by decide))
                        have q635 : Frm [7000, 7100, 7200, 7300, 7400, 7500, 7600, 7700, 7800, 7900, 8000, 8100] X Xa := Frm.tr q634 (Frm.mono hGXa (by decide))
                        have q636 : Frm [7000, 7100, 7200, 7300, 7400, 7500, 7600, 7700, 7800, 7900, 8000, 8100] X X35 := by rw [hX35]; exact Frm.set q635 (show 7100 ∈ [7000, 7100, 7200, 7300, 7400, 7500, 7600, 7700, 7800, 7900, 8000, 8100] by decide)
                        have q637 : Frm [7000, 7100, 7200, 7300, 7400, 7500, 7600, 7700, 7800, 7900, 8000, 8100] X X38 := by rw [hX38]; exact Frm.set q636 (show 7200 ∈ [7000, 7100, 7200, 7300, 7400, 7500, 7600, 7700, 7800, 7900, 8000, 8100] by decide)
                        have q638 : Frm [7000, 7100, 7200, 7300, 7400, 7500, 7600, 7700, 7800, 7900, 8000, 8100] X Xb := Frm.tr q637 (Frm.mono hGXb (by decide))
                        have q639 : Frm [7000, 7100, 7200, 7300, 7400, 7500, 7600, 7700, 7800, 7900, 8000, 8100] X X402 := by rw [hX402]; exact Frm.set q638 (show 7300 ∈ [7000, 7100, 7200, 7300, 7400, 7500, 7600, 7700, 7800, 7900, 8000, 8100] by decide)
                        have q640 : Frm [7000, 7100, 7200, 7300, 7400, 7500, 7600, 7700, 7800, 7900, 8000, 8100] X X405 := by rw [hX405]; exact Frm.set q639 (show 7400 ∈ [7000, 7100, 7200, 7300, 7400, 7500, 7600, 7700, 7800, 7900, 8000, 8100] by decide)
                        have q641 : Frm [7000, 7100, 7200, 7300, 7400, 7500, 7600, 7700, 7800, 7900, 8000, 8100] X X597 := Frm.tr q640 (Frm.mono hG598 (by decide))
                        have q642 : Frm [7000, 7100, 7200, 7300, 7400, 7500, 7600, 7700, 7800, 7900, 8000, 8100] X X599 := by rw [hX599]; exact Frm.set q641 (show 7500 ∈ [7000, 7100, 7200, 7300, 7400, 7500, 7600, 7700, 7800, 7900, 8000, 8100] by decide)
                        have hms631 : mSt X X599 := mSt.of (L := [7000, 7100, 7200, 7300, 7400, 7500, 7600, 7700, 7800, 7900, 8000, 8100]) q642 (by decide)
                        have q643 : Frm [7000, 7100, 7200, 7300, 7400, 7500, 7600, 7700, 7800, 7900, 8000, 8100] X X1 := by rw [hX1]; exact Frm.set Frm.rf (show 7000 ∈ [7000, 7100, 7200, 7300, 7400, 7500, 7600, 7700, 7800, 7900, 8000, 8100] by decide)
                        have q644 : Frm [7000, 7100, 7200, 7300, 7400, 7500, 7600, 7700, 7800, 7900, 8000, 8100] X X2 := by rw [hX2]; exact Frm.set q643 (show 7600 ∈ [7000, 7100, 7200, 7300, 7400, 7500, 7600, 7700, 7800, 7900, 8000, 8100] by decide)
                        have q645 : Frm [7000, 7100, 7200, 7300, 7400, 7500, 7600, 7700, 7800, 7900, 8000, 8100] X X12 := Frm.tr q644 (Frm.mono hG13 (by decide))
                        have q646 : Frm [7000, 7100, 7200, 7300, 7400, 7500, 7600, 7700, 7800, 7900, 8000, 8100] X Xa := Frm.tr q645 (Frm.mono hGXa (by decide))
                        have q647 : Frm [7000, 7100, 7200, 7300, 7400, 7500, 7600, 7700, 7800, 7900, 8000, 8100] X X35 := by rw [hX35]; exact Frm.set q646 (show 7100 ∈ [7000, 7100, 7200, 7300, 7400, 7500, 7600, 7700, 7800, 7900, 8000, 8100] by decide)
                        have q648 : Frm [7000, 7100, 7200, 7300, 7400, 7500, 7600, 7700, 7800, 7900, 8000, 8100] X X38 := by rw [hX38]; exact Frm.set q647 (show 7200 ∈ [7000, 7100, 7200, 7300, 7400, 7500, 7600, 7700, 7800, 7900, 8000, 8100] by decide)
                        have q649 : Frm [7000, 7100, 7200, 7300, 7400, 7500, 7600, 7700, 7800, 7900, 8000, 8100] X Xb := Frm.tr q648 (Frm.mono hGXb (by decide))
                        have q650 : Frm [7000, 7300, 7400, 7500, 8000] Xb X402 := by rw [hX402]; exact Frm.set Frm.rf (show 7300 ∈ [7000, 7300, 7400, 7500, 8000] by decide)
                        have q651 : Frm [7000, 7300, 7400, 7500, 8000] Xb X405 := by rw [hX405]; exact Frm.set q650 (show 7400 ∈ [7000, 7300, 7400, 7500, 8000] by decide)
                        have q652 : Frm [7000, 7300, 7400, 7500, 8000] Xb X597 := Frm.tr q651 (Frm.mono hG598 (by decide))
                        have q653 : Frm [7000, 7300, 7400, 7500, 8000] Xb X599 := by rw [hX599]; exact Frm.set q652 (show 7500 ∈ [7000, 7300, 7400, 7500, 8000] by decide)
                        have q654 : Frm [7000, 7300, 7400, 7500, 8000] Xb X402 := by rw [hX402]; exact Frm.set Frm.rf (show 7300 ∈ [7000, 7300, 7400, 7500, 8000] by decide)
                        have q655 : Frm [7000, 7300, 7400, 7500, 8000] Xb X405 := by rw [hX405]; exact Frm.set q654 (show 7400 ∈ [7000, 7300, 7400, 7500, 8000] by decide)
                        have q656 : Frm [7000, 7300, 7400, 7500, 8000] Xb X597 := Frm.tr q655 (Frm.mono hG598 (by decide))
                        have q657 : Frm [7000, 7300, 7400, 7500, 8000] Xb X599 := by rw [hX599]; exact Frm.set q656 (show 7500 ∈ [7000, 7300, 7400, 7500, 8000] by decide)
                        have q658 : S5 X38 Xb := S5.tr S5.rf h5Xb
                        have q659 : S5 X38 X402 := by rw [hX402]; exact S5.set q658 ⟨by omega, by omega, by omega, by omega, by omega⟩
                        have q660 : S5 X38 X405 := by rw [hX405]; exact S5.set q659 ⟨by omega, by omega, by omega, by omega, by omega⟩
                        have q661 : S5 X38 X597 := S5.tr q660 (S5.frm hG598 (by decide))
                        have q662 : S5 X38 X599 := by rw [hX599]; exact S5.set q661 ⟨by omega, by omega, by omega, by omega, by omega⟩
                        exact ih80 (k + 1) X599 _ _ _ (by omega) hRX599 q604 (by first | omega | (simp only [e605, e606]; omega)) (hO608) (q613) (by first | omega | (simp only [e605, e606]; omega)) (by first | omega | (simp only [e605, e606]; omega)) (hcq617) ((by rw [hX599, u3_k _ _ _ _ (by decide), hG598 71 0 (120 + r) (show 7100 ∉ [8000, 7000] by decide), hX405, u3_k _ _ _ _ (by decide), hX402, u3_k _ _ _ _ (by decide)]; exact h71)) ((by rw [hX599, u3_k _ _ _ _ (by decide), hG598 72 0 (120 + r) (show 7200 ∉ [8000, 7000] by decide), hX405, u3_k _ _ _ _ (by decide), hX402, u3_k _ _ _ _ (by decide)]; exact h72)) ((by rw [recK_s (by omega)]; exact rmT.of hst620.1 (by rw [hX599, u3_k _ _ _ _ (by decide)]) (Frm.arr q625 80 (by decide +kernel) (by decide)) rfl rfl)) ((by rw [recK_s (by omega)]; exact rmR.of hst620.2.1 (by rw [hX599, u3_k _ _ _ _ (by decide)]) (fun q9 hq9 => by simp only [List.mem_cons, List.not_mem_nil, or_false] at hq9; rcases hq9 with rfl | rfl | rfl | rfl | rfl | rfl | rfl | rfl <;> exact Frm.arr q626 _ (by decide +kernel) (by decide)) rfl rfl rfl)) ((by rw [recK_s (by omega)]; exact rmV.push hVb (mSt.of (L := [7000, 7300, 7400, 7500, 8000]) q630 (by decide)) ⟨by omega, by omega⟩ (by omega) (fun t => by rw [(Frm.arr q649 44 (by decide +kernel) (by decide))]; exact hf55 t) (Frm.arr q653 71 (by decide +kernel) (by decide)) (Frm.arr q657 72 (by decide +kernel) (by decide)) (fun j hj => (by rw [hX599, u3_k _ _ _ _ (by decide), hG598 73 0 j (show 7300 ∉ [8000, 7000] by decide), hX405, u3_k _ _ _ _ (by decide), hX402, u3_j _ _ _ _ hj])) (fun j hj => (by rw [hX599, u3_k _ _ _ _ (by decide), hG598 74 0 j (show 7400 ∉ [8000, 7000] by decide), hX405, u3_j _ _ _ _ hj, hX402, u3_k _ _ _ _ (by decide)])) (fun j hj => (by rw [hX599, u3_j _ _ _ _ hj, hG598 75 0 j (show 7500 ∉ [8000, 7000] by decide), hX405, u3_k _ _ _ _ (by decide), hX402, u3_k _ _ _ _ (by decide)])) (fun q a b => recP_o ⟨a, by omega⟩) (fun q hq => recP_5 hq) ⟨(by rw [recP_o ⟨by omega, by omega⟩, recK_o _ ⟨by omega, by omega⟩, ← hyo, hms631.2.1, hms631.2.2.2]; exact (by rw [hX599, u3_k _ _ _ _ (by decide), hG598 73 0 (5 * (120 + r) + k) (show 7300 ∉ [8000, 7000] by decide), hX405, u3_k _ _ _ _ (by decide)]; rw [hVX402])), (by rw [recP_o ⟨by omega, by omega⟩, recK_o _ ⟨by omega, by omega⟩, ← hyo]; unfold lnM; rw [hms631.2.2.1, hms631.2.2.2]; exact (by rw [hX599, u3_k _ _ _ _ (by decide), hG598 74 0 (5 * (120 + r) + k) (show 7400 ∉ [8000, 7000] by decide)]; rw [hVX405])), (by rw [hVX599]; exact hst620.2.2)⟩)) ((by rw [hX599, u3_k _ _ _ _ (by decide), hG598 71 0 (120 + r) (show 7100 ∉ [8000, 7000] by decide), hX405, u3_k _ _ _ _ (by decide), hX402, u3_k _ _ _ _ (by decide)]; exact h71b)) (by first | omega | (simp only [e605, e606]; omega)) (fun h9 k' a b => if hk9 : k' = k then (by rw [hk9]; omega) else hnk h9 k' a (by omega)) (q662) hw hS (lv_sub hl [3, 4, 5, 6, 7, 8, 0] rfl)
                    · refine lv_lload hx hb dX9_saves_219 (lv_at hl 0 rfl) ?_
                      refine lv_goto (tgt := 256) hx hb dX9_saves_221 (by decide) ?_
                      refine x_last hx hb hK.1 hw hS (by first | exact Int.le_refl 0 | omega) (by first | exact zlt hc75 | omega) ar_75 (len_E ar_75 (by decide)) (by omega) (by omega) (by omega) dX9_saves_256 (fun H locs hw hS => ?_)
                      obtain ⟨X663, hX663⟩ : ∃ Xq, Xq = u3 X405 75 0 ((5 * (120 + r)) + k) (X 56 0 ((5 * (Xa 80 0 r)) + k)) := ⟨_, rfl⟩
                      rw [← hX663] at hw
                      have hRX663 : Rng X663 := by rw [hX663]; exact rng_set hRX405 (show (-9223372036854775808) ≤ (X 56 0 ((5 * (Xa 80 0 r)) + k)) ∧ (X 56 0 ((5 * (Xa 80 0 r)) + k)) ≤ 9223372036854775807 by omega)
                      have hVX663 : X663 75 0 ((5 * (120 + r)) + k) = (X 56 0 ((5 * (Xa 80 0 r)) + k)) := by rw [hX663]; exact u3_s _ _ _ _ _
                      have hFX663 : Frm [7100, 7200, 7300, 7400, 7500, 8000, 7000, 8100, 7700, 7800, 7900, 7600, 4042, 4043, 4044] X X663 := by rw [hX663]; exact Frm.set hFX405 (show 7500 ∈ [7100, 7200, 7300, 7400, 7500, 8000, 7000, 8100, 7700, 7800, 7900, 7600, 4042, 4043, 4044] by decide)
                      refine lv_iinc (v := jI (k + 1)) (lv' := [(6, .int (jI (k + 1))), (8, .long (jL (X 56 0 ((5 * (Xa 80 0 r)) + k)))), (7, .int (jI ((5 * (120 + r)) + k))), (0, .ref (ad 40 0)), (1, .int (jI x)), (2, .int (jI shut)), (3, .int (jI r)), (4, .int (jI (Xa 80 0 r))), (5, .int (jI (X 55 0 (Xa 80 0 r))))]) hx hb dX9_saves_257 hl (k := 8) rfl (jI_add _ _) (by decide) rfl (fun ls hl => ?_)
                      refine lv_goto (tgt := 80) hx hb dX9_saves_260 (by decide) ?_
                      have q664 : Frm [7100, 7200, 7300, 7400, 7500, 8000, 7000, 8100, 7700, 7800, 7900, 7600] X38 Xb := Frm.tr Frm.rf (Frm.mono hGXb (by decide))
                      have q665 : Frm [7100, 7200, 7300, 7400, 7500, 8000, 7000, 8100, 7700, 7800, 7900, 7600] X38 X402 := by rw [hX402]; exact Frm.set q664 (show 7300 ∈ [7100, 7200, 7300, 7400, 7500, 8000, 7000, 8100, 7700, 7800, 7900, 7600] by decide)
                      have q666 : Frm [7100, 7200, 7300, 7400, 7500, 8000, 7000, 8100, 7700, 7800, 7900, 7600] X38 X405 := by rw [hX405]; exact Frm.set q665 (show 7400 ∈ [7100, 7200, 7300, 7400, 7500, 8000, 7000, 8100, 7700, 7800, 7900, 7600] by decide)
                      have q667 : Frm [7100, 7200, 7300, 7400, 7500, 8000, 7000, 8100, 7700, 7800, 7900, 7600] X38 X663 := by rw [hX663]; exact Frm.set q666 (show 7500 ∈ [7100, 7200, 7300, 7400, 7500, 8000, 7000, 8100, 7700, 7800, 7900, 7600] by decide)
                      have e668 : X663 76 0 4 = Xb 76 0 4 := by rw [hX663, u3_k _ _ _ _ (by decide), hX405, u3_k _ _ _ _ (by decide), hX402, u3_k _ _ _ _ (by decide)]
                      have e669 : X663 70 0 4 = Xb 70 0 4 := by rw [hX663, u3_k _ _ _ _ (by decide), hX405, u3_k _ _ _ _ (by decide), hX402, u3_k _ _ _ _ (by decide)]
                      have q670 : Frm [7300, 7400, 7500] Xb X402 := by rw [hX402]; exact Frm.set Frm.rf (show 7300 ∈ [7300, 7400, 7500] by decide)
                      have q671 : Frm [7300, 7400, 7500] Xb X405 := by rw [hX405]; exact Frm.set q670 (show 7400 ∈ [7300, 7400, 7500] by decide)
                      have q672 : Frm [7300, 7400, 7500] Xb X663 := by rw [hX663]; exact Frm.set q671 (show 7500 ∈ [7300, 7400, 7500] by decide)
                      have hO673 : ordOK X663 := ordOK.of hOb q672 (by decide)
                      have q674 : S4 X38 Xb := S4.tr S4.rf h4Xb
                      have q675 : S4 X38 X402 := by rw [hX402]; exact S4.set q674 ⟨by omega, by omega, by omega, by omega, by omega⟩
                      have q676 : S4 X38 X405 := by rw [hX405]; exact S4.set q675 ⟨by omega, by omega, by omega, by omega, by omega⟩
                      have q677 : S4 X38 X663 := by rw [hX663]; exact S4.set q676 ⟨by omega, by omega, by omega, by omega, by omega⟩
                      have e678 : X663 70 0 4 = Xb 70 0 4 := (by rw [hX663, u3_k _ _ _ _ (by decide), hX405, u3_k _ _ _ _ (by decide), hX402, u3_k _ _ _ _ (by decide)])
                      have f679 : 0 ≤ X663 70 0 4 ∧ X663 70 0 4 ≤ 30 := hRX663 70 0 4
                      have e680 : X663 74 0 (5 * (120 + r) + k) = (X 46 0 ((5 * (X 55 0 (Xa 80 0 r))) + k)) := (by rw [hX663, u3_k _ _ _ _ (by decide)]; exact hVX405)
                      have hcq681 : cOK X663 r (k + 1) := cOK.push (cOK.of hcO (by omega) hRX663 (by rw [show X663 40 0 2 = Xb 40 0 2 from (by rw [hX663, u3_k _ _ _ _ (by decide), hX405, u3_k _ _ _ _ (by decide), hX402, u3_k _ _ _ _ (by decide)])]; exact Int.le_refl _) (by omega) (fun r1 a b => ⟨(by rw [hX663, u3_k _ _ _ _ (by decide), hX405, u3_k _ _ _ _ (by decide), hX402, u3_k _ _ _ _ (by decide)]), (by rw [hX663, u3_k _ _ _ _ (by decide), hX405, u3_k _ _ _ _ (by decide), hX402, u3_k _ _ _ _ (by decide)])⟩) (fun j hj => ⟨(by rw [hX663, u3_k _ _ _ _ (by decide), hX405, u3_j _ _ _ _ (by omega), hX402, u3_k _ _ _ _ (by decide)]), (by rw [hX663, u3_j _ _ _ _ (by omega), hX405, u3_k _ _ _ _ (by decide), hX402, u3_k _ _ _ _ (by decide)])⟩) (by omega)) (by unfold ty4; rw [e680, hVX663]; exact ⟨fun _ => by omega, fun _ => by omega, fun _ => by omega⟩)
                      have hla682 : lnM X (recR (fcM X) (lnM X) (mRid X) (mRid X) x r.toNat 1 r) k = X 46 0 (5 * X 55 0 (Xa 80 0 r) + k) := by rw [← hyo]; rfl
                      have hvl683 : mRid X (recR (fcM X) (lnM X) (mRid X) (mRid X) x r.toNat 1 r) k = X 56 0 (5 * Xa 80 0 r + k) := by rw [← hyo]; rfl
                      have q686 : Frm [7300, 7400] Xb X402 := by rw [hX402]; exact Frm.set Frm.rf (show 7300 ∈ [7300, 7400] by decide)
                      have q687 : Frm [7300, 7400] Xb X405 := by rw [hX405]; exact Frm.set q686 (show 7400 ∈ [7300, 7400] by decide)
                      have hT685 : rmT X405 (recK (lnM X) (mRid X) (mRid X) (recR (fcM X) (lnM X) (mRid X) (mRid X) x r.toNat) r k.toNat) := rmT.of hTb (by rw [hX405, u3_k _ _ _ _ (by decide), hX402, u3_k _ _ _ _ (by decide)]) (Frm.arr q687 80 (by decide +kernel) (by decide)) rfl rfl
                      have q689 : Frm [7300, 7400] Xb X402 := by rw [hX402]; exact Frm.set Frm.rf (show 7300 ∈ [7300, 7400] by decide)
                      have q690 : Frm [7300, 7400] Xb X405 := by rw [hX405]; exact Frm.set q689 (show 7400 ∈ [7300, 7400] by decide)
                      have hR9688 : rmR X405 (recK (lnM X) (mRid X) (mRid X) (recR (fcM X) (lnM X) (mRid X) (mRid X) x r.toNat) r k.toNat) := rmR.of hRb9 (by rw [hX405, u3_k _ _ _ _ (by decide), hX402, u3_k _ _ _ _ (by decide)]) (fun q9 hq9 => by simp only [List.mem_cons, List.not_mem_nil, or_false] at hq9; rcases hq9 with rfl | rfl | rfl | rfl | rfl | rfl | rfl | rfl <;> exact Frm.arr q690 _ (by decide +kernel) (by decide)) rfl rfl rfl
                      have hst684 : mStp (lnM X) (mRid X) (mRid X) (recR (fcM X) (lnM X) (mRid X) (mRid X) x r.toNat 1 r) k (5 * r + k) X405 (recK (lnM X) (mRid X) (mRid X) (recR (fcM X) (lnM X) (mRid X) (mRid X) x r.toNat) r k.toNat) (X 56 0 ((5 * (Xa 80 0 r)) + k)) := by first | exact mStp_v hT685 hR9688 (by rw [recP_1 (by rw [hla682]; omega), hvl683]) | (rw [show ((X 56 0 ((5 * (Xa 80 0 r)) + k)) : Int) = -1 by omega]; rcases (show X 46 0 (5 * X 55 0 (Xa 80 0 r) + k) = 2 ∨ 3 ≤ X 46 0 (5 * X 55 0 (Xa 80 0 r) + k) by omega) with h2 | h2; exact mStp_v hT685 hR9688 (recP_2n (by rw [hla682]; exact h2) (by rw [hvl683]; omega)); exact mStp_v hT685 hR9688 (recP_3n (by rw [hla682]; exact h2) (by rw [hvl683]; omega)))
                      have q691 : Frm [7500] X405 X663 := by rw [hX663]; exact Frm.set Frm.rf (show 7500 ∈ [7500] by decide)
                      have q692 : Frm [7500] X405 X663 := by rw [hX663]; exact Frm.set Frm.rf (show 7500 ∈ [7500] by decide)
                      have q693 : Frm [7300, 7400, 7500] Xb X402 := by rw [hX402]; exact Frm.set Frm.rf (show 7300 ∈ [7300, 7400, 7500] by decide)
                      have q694 : Frm [7300, 7400, 7500] Xb X405 := by rw [hX405]; exact Frm.set q693 (show 7400 ∈ [7300, 7400, 7500] by decide)
                      have q695 : Frm [7300, 7400, 7500] Xb X663 := by rw [hX663]; exact Frm.set q694 (show 7500 ∈ [7300, 7400, 7500] by decide)
                      have q697 : Frm [7000, 7100, 7200, 7300, 7400, 7500, 7600, 7700, 7800, 7900, 8000, 8100] X X1 := by rw [hX1]; exact Frm.set Frm.rf (show 7000 ∈ [7000, 7100, 7200, 7300, 7400, 7500, 7600, 7700, 7800, 7900, 8000, 8100] by decide)
                      have q698 : Frm [7000, 7100, 7200, 7300, 7400, 7500, 7600, 7700, 7800, 7900, 8000, 8100] X X2 := by rw [hX2]; exact Frm.set q697 (show 7600 ∈ [7000, 7100, 7200, 7300, 7400, 7500, 7600, 7700, 7800, 7900, 8000, 8100] by decide)
                      have q699 : Frm [7000, 7100, 7200, 7300, 7400, 7500, 7600, 7700, 7800, 7900, 8000, 8100] X X12 := Frm.tr q698 (Frm.mono hG13 (by decide))
                      have q700 : Frm [7000, 7100, 7200, 7300, 7400, 7500, 7600, 7700, 7800, 7900, 8000, 8100] X Xa := Frm.tr q699 (Frm.mono hGXa (by decide))
                      have q701 : Frm [7000, 7100, 7200, 7300, 7400, 7500, 7600, 7700, 7800, 7900, 8000, 8100] X X35 := by rw [hX35]; exact Frm.set q700 (show 7100 ∈ [7000, 7100, 7200, 7300, 7400, 7500, 7600, 7700, 7800, 7900, 8000, 8100] by decide)
                      have q702 : Frm [7000, 7100, 7200, 7300, 7400, 7500, 7600, 7700, 7800, 7900, 8000, 8100] X X38 := by rw [hX38]; exact Frm.set q701 (show 7200 ∈ [7000, 7100, 7200, 7300, 7400, 7500, 7600, 7700, 7800, 7900, 8000, 8100] by decide)
                      have q703 : Frm [7000, 7100, 7200, 7300, 7400, 7500, 7600, 7700, 7800, 7900, 8000, 8100] X Xb := Frm.tr q702 (Frm.mono hGXb (by decide))
                      have q704 : Frm [7000, 7100, 7200, 7300, 7400, 7500, 7600, 7700, 7800, 7900, 8000, 8100] X X402 := by rw [hX402]; exact Frm.set q703 (show 7300 ∈ [7000, 7100, 7200, 7300, 7400, 7500, 7600, 7700, 7800, 7900, 8000, 8100] by decide)
                      have q705 : Frm [7000, 7100, 7200, 7300, 7400, 7500, 7600, 7700, 7800, 7900, 8000, 8100] X X405 := by rw [hX405]; exact Frm.set q704 (show 7400 ∈ [7000, 7100, 7200, 7300, 7400, 7500, 7600, 7700, 7800, 7900, 8000, 8100] by decide)
                      have q706 : Frm [7000, 7100, 7200, 7300, 7400, 7500, 7600, 7700, 7800, 7900, 8000, 8100] X X663 := by rw [hX663]; exact Frm.set q705 (show 7500 ∈ [7000, 7100, 7200, 7300, 7400, 7500, 7600, 7700, 7800, 7900, 8000, 8100] by decide)
                      have hms696 : mSt X X663 := mSt.of (L := [7000, 7100, 7200, 7300, 7400, 7500, 7600, 7700, 7800, 7900, 8000, 8100]) q706 (by decide)
                      have q707 : Frm [7000, 7100, 7200, 7300, 7400, 7500, 7600, 7700, 7800, 7900, 8000, 8100] X X1 := by rw [hX1]; exact Frm.set Frm.rf (show 7000 ∈ [7000, 7100, 7200, 7300, 7400, 7500, 7600, 7700, 7800, 7900, 8000, 8100] by decide)
                      have q708 : Frm [7000, 7100, 7200, 7300, 7400, 7500, 7600, 7700, 7800, 7900, 8000, 8100] X X2 := by rw [hX2]; exact Frm.set q707 (show 7600 ∈ [7000, 7100, 7200, 7300, 7400, 7500, 7600, 7700, 7800, 7900, 8000, 8100] by decide)
                      have q709 : Frm [7000, 7100, 7200, 7300, 7400, 7500, 7600, 7700, 7800, 7900, 8000, 8100] X X12 := Frm.tr q708 (Frm.mono hG13 (by decide))
                      have q710 : Frm [7000, 7100, 7200, 7300, 7400, 7500, 7600, 7700, 7800, 7900, 8000, 8100] X Xa := Frm.tr q709 (Frm.mono hGXa (by decide))
                      have q711 : Frm [7000, 7100, 7200, 7300, 7400, 7500, 7600, 7700, 7800, 7900, 8000, 8100] X X35 := by rw [hX35]; exact Frm.set q710 (show 7100 ∈ [7000, 7100, 7200, 7300, 7400, 7500, 7600, 7700, 7800, 7900, 8000, 8100] by decide)
                      have q712 : Frm [7000, 7100, 7200, 7300, 7400, 7500, 7600, 7700, 7800, 7900, 8000, 8100] X X38 := by rw [hX38]; exact Frm.set q711 (show 7200 ∈ [7000, 7100, 7200, 7300, 7400, 7500, 7600, 7700, 7800, 7900, 8000, 8100] by decide)
                      have q713 : Frm [7000, 7100, 7200, 7300, 7400, 7500, 7600, 7700, 7800, 7900, 8000, 8100] X Xb := Frm.tr q712 (Frm.mono hGXb (by decide))
                      have q714 : Frm [7300, 7400, 7500] Xb X402 := by rw [hX402]; exact Frm.set Frm.rf (show 7300 ∈ [7300, 7400, 7500] by decide)
                      have q715 : Frm [7300, 7400, 7500] Xb X405 := by rw [hX405]; exact Frm.set q714 (show 7400 ∈ [7300, 7400, 7500] by decide)
                      have q716 : Frm [7300, 7400, 7500] Xb X663 := by rw [hX663]; exact Frm.set q715 (show 7500 ∈ [7300, 7400, 7500] by decide)
                      have q717 : Frm [7300, 7400, 7500] Xb X402 := by rw [hX402]; exact Frm.set Frm.rf (show 7300 ∈ [7300, 7400, 7500] by decide)
                      have q718 : Frm [7300, 7400, 7500] Xb X405 := by rw [hX405]; exact Frm.set q717 (show 7400 ∈ [7300, 7400, 7500] by decide)
                      have q719 : Frm [7300, 7400, 7500] Xb X663 := by rw [hX663]; exact Frm.set q718 (show 7500 ∈ [7300, 7400, 7500] by decide)
                      have q720 : S5 X38 Xb := S5.tr S5.rf h5Xb
                      have q721 : S5 X38 X402 := by rw [hX402]; exact S5.set q720 ⟨by omega, by omega, by omega, by omega, by omega⟩
                      have q722 : S5 X38 X405 := by rw [hX405]; exact S5.set q721 ⟨by omega, by omega, by omega, by omega, by omega⟩
                      have q723 : S5 X38 X663 := by rw [hX663]; exact S5.set q722 ⟨by omega, by omega, by omega, by omega, by omega⟩
                      exact ih80 (k + 1) X663 _ _ _ (by omega) hRX663 q667 (by first | omega | (simp only [e668, e669]; omega)) (hO673) (q677) (by first | omega | (simp only [e668, e669]; omega)) (by first | omega | (simp only [e668, e669]; omega)) (hcq681) ((by rw [hX663, u3_k _ _ _ _ (by decide), hX405, u3_k _ _ _ _ (by decide), hX402, u3_k _ _ _ _ (by decide)]; exact h71)) ((by rw [hX663, u3_k _ _ _ _ (by decide), hX405, u3_k _ _ _ _ (by decide), hX402, u3_k _ _ _ _ (by decide)]; exact h72)) ((by rw [recK_s (by omega)]; exact rmT.of hst684.1 (by rw [hX663, u3_k _ _ _ _ (by decide)]) (Frm.arr q691 80 (by decide +kernel) (by decide)) rfl rfl)) ((by rw [recK_s (by omega)]; exact rmR.of hst684.2.1 (by rw [hX663, u3_k _ _ _ _ (by decide)]) (fun q9 hq9 => by simp only [List.mem_cons, List.not_mem_nil, or_false] at hq9; rcases hq9 with rfl | rfl | rfl | rfl | rfl | rfl | rfl | rfl <;> exact Frm.arr q692 _ (by decide +kernel) (by decide)) rfl rfl rfl)) ((by rw [recK_s (by omega)]; exact rmV.push hVb (mSt.of (L := [7300, 7400, 7500]) q695 (by decide)) ⟨by omega, by omega⟩ (by omega) (fun t => by rw [(Frm.arr q713 44 (by decide +kernel) (by decide))]; exact hf55 t) (Frm.arr q716 71 (by decide +kernel) (by decide)) (Frm.arr q719 72 (by decide +kernel) (by decide)) (fun j hj => (by rw [hX663, u3_k _ _ _ _ (by decide), hX405, u3_k _ _ _ _ (by decide), hX402, u3_j _ _ _ _ hj])) (fun j hj => (by rw [hX663, u3_k _ _ _ _ (by decide), hX405, u3_j _ _ _ _ hj, hX402, u3_k _ _ _ _ (by decide)])) (fun j hj => (by rw [hX663, u3_j _ _ _ _ hj, hX405, u3_k _ _ _ _ (by decide), hX402, u3_k _ _ _ _ (by decide)])) (fun q a b => recP_o ⟨a, by omega⟩) (fun q hq => recP_5 hq) ⟨(by rw [recP_o ⟨by omega, by omega⟩, recK_o _ ⟨by omega, by omega⟩, ← hyo, hms696.2.1, hms696.2.2.2]; exact (by rw [hX663, u3_k _ _ _ _ (by decide), hX405, u3_k _ _ _ _ (by decide)]; rw [hVX402])), (by rw [recP_o ⟨by omega, by omega⟩, recK_o _ ⟨by omega, by omega⟩, ← hyo]; unfold lnM; rw [hms696.2.2.1, hms696.2.2.2]; exact (by rw [hX663, u3_k _ _ _ _ (by decide)]; rw [hVX405])), (by rw [hVX663]; exact hst684.2.2)⟩)) ((by rw [hX663, u3_k _ _ _ _ (by decide), hX405, u3_k _ _ _ _ (by decide), hX402, u3_k _ _ _ _ (by decide)]; exact h71b)) (by first | omega | (simp only [e668, e669]; omega)) (fun h9 k' a b => if hk9 : k' = k then (by rw [hk9]; omega) else hnk h9 k' a (by omega)) (q723) hw hS (lv_sub hl [3, 4, 5, 6, 7, 8, 0] rfl)
                · refine lv_aload_n hx hb dX9_saves_111 rfl (lv_at hl 0 rfl) ?_
                  refine lv_bipush (v := jI 10) hx hb dX9_saves_112 (by decide) ?_
                  refine lv_iload_n hx hb dX9_saves_114 rfl (lv_at hl 3 rfl) ?_
                  refine lv_aload_n hx hb dX9_saves_115 rfl (lv_at hl 0 rfl) ?_
                  refine x_geto hx hb hf9 hw (by first | exact Int.le_refl 0 | omega) (by first | exact zlt hc40 | omega) sl_40_4 lk17 dX9_saves_116 ?_
                  refine lv_iconst (v := jI 5) hx hb dX9_saves_119 rfl ?_
                  refine lv_iload hx hb dX9_saves_120 (lv_at hl 5 rfl) ?_
                  refine x_imul hx hb dX9_saves_122 ?_
                  refine lv_iload hx hb dX9_saves_123 (lv_at hl 6 rfl) ?_
                  refine x_iadd hx hb dX9_saves_125 ?_
                  refine x_iald hx hb hK.1 hw (by first | exact Int.le_refl 0 | omega) (by first | exact zlt hc45 | omega) ar_45 (len_E ar_45 (by decide)) (by omega) (by omega) (by omega) dX9_saves_126 ?_
                  have e724 : ∀ p9 q9 : Int, Xb 45 p9 q9 = X 45 p9 q9 := fun p9 q9 => by rw [hGXb 45 p9 q9 (show 4500 ∉ [7100, 7200, 7300, 7400, 7500, 8000, 7000, 8100, 7700, 7800, 7900, 7600] by decide), hX38, u3_k _ _ _ _ (by decide), hX35, u3_k _ _ _ _ (by decide), hGXa 45 p9 q9 (show 4500 ∉ [7100, 7200, 7300, 7400, 7500, 8000, 7000, 8100, 7700, 7800, 7900, 7600] by decide), hG13 45 p9 q9 (show 4500 ∉ [8000, 7000] by decide), hX2, u3_k _ _ _ _ (by decide), hX1, u3_k _ _ _ _ (by decide)]
                  rw [e724 0 ((5 * (X 55 0 (Xa 80 0 r))) + k)]
                  have f725 : 0 ≤ X 45 0 ((5 * (X 55 0 (Xa 80 0 r))) + k) ∧ X 45 0 ((5 * (X 55 0 (Xa 80 0 r))) + k) ≤ 19 := hR 45 0 ((5 * (X 55 0 (Xa 80 0 r))) + k)
                  refine lv_iconst (v := jI (-1)) hx hb dX9_saves_127 rfl ?_
                  have q726 : S4 X X1 := by rw [hX1]; exact S4.set S4.rf ⟨by omega, by omega, by omega, by omega, by omega⟩
                  have q727 : S4 X X2 := by rw [hX2]; exact S4.set q726 ⟨by omega, by omega, by omega, by omega, by omega⟩
                  have q728 : S4 X X12 := S4.tr q727 h4X12
                  have q729 : S4 X Xa := S4.tr q728 h4Xa
                  have q730 : S4 X X35 := by rw [hX35]; exact S4.set q729 ⟨by omega, by omega, by omega, by omega, by omega⟩
                  have q731 : S4 X X38 := by rw [hX38]; exact S4.set q730 ⟨by omega, by omega, by omega, by omega, by omega⟩
                  have q732 : S4 X Xb := S4.tr q731 h4Xb
                  have hMq733 : MInv Xb := minv_s4 hMI hRXb hFXb q732 (by decide)
                  refine gos_i (run_V (As := [.int (jI 10), .int (jI r), .int (jI (X 45 0 ((5 * (X 55 0 (Xa 80 0 r))) + k))), .int (jI (-1))]) (rest := []) hx hb hml hown hts (c_X9_faulty l D tc base ad cnt Xb Y ln hRXb hFx hMq733 10 r (X 45 0 ((5 * (X 55 0 (Xa 80 0 r))) + k)) (-1) (by omega) (by omega) (by omega) (by omega)) (cwV 4 hts gX9_saves_X9_faulty rfl rfl rfl (by first | exact hd_X9_faulty | decide +kernel) ⟨Nat.le_of_ble_eq_true rfl, Nat.le_of_ble_eq_true rfl⟩) hK hw (by first | exact Int.le_refl 0 | omega) (by first | exact zlt hc40 | omega) sl_40_0 rfl rfl hl.1 rfl (Nat.le_of_ble_eq_true rfl) dX9_saves_128 ⟨Nat.le_of_ble_eq_true rfl, Nat.le_of_ble_eq_true rfl⟩) hS (fun z734 u735 H locs p736 hw hS => ?_)
                  obtain ⟨X737, eu735, hRX737, hG738, hMIX737, p736⟩ := p736
                  subst eu735
                  have hFX737 : Frm [7100, 7200, 7300, 7400, 7500, 8000, 7000, 8100, 7700, 7800, 7900, 7600, 4042, 4043, 4044] X X737 := Frm.tr hFXb (Frm.mono hG738 (by decide))
                  rw [hQ9]
                  refine ret_i (mc := 0) (ms := 0) hx hb hr hlocks hw hS (by first | exact Nat.le_of_ble_eq_true rfl | omega) (by first | exact Nat.le_of_ble_eq_true rfl | omega) dX9_saves_131 ?_
                  have q739 : S4 X X1 := by rw [hX1]; exact S4.set S4.rf ⟨by omega, by omega, by omega, by omega, by omega⟩
                  have q740 : S4 X X2 := by rw [hX2]; exact S4.set q739 ⟨by omega, by omega, by omega, by omega, by omega⟩
                  have q741 : S4 X X12 := S4.tr q740 h4X12
                  have q742 : S4 X Xa := S4.tr q741 h4Xa
                  have q743 : S4 X X35 := by rw [hX35]; exact S4.set q742 ⟨by omega, by omega, by omega, by omega, by omega⟩
                  have q744 : S4 X X38 := by rw [hX38]; exact S4.set q743 ⟨by omega, by omega, by omega, by omega, by omega⟩
                  have q745 : S4 X Xb := S4.tr q744 h4Xb
                  have q746 : S4 X X737 := S4.tr q745 (S4.frm hG738 (by decide))
                  have q747 : S5 X X1 := by rw [hX1]; exact S5.set S5.rf ⟨by omega, by omega, by omega, by omega, by omega⟩
                  have q748 : S5 X X2 := by rw [hX2]; exact S5.set q747 ⟨by omega, by omega, by omega, by omega, by omega⟩
                  have q749 : S5 X X12 := S5.tr q748 (S5.frm hG13 (by decide))
                  have q750 : S5 X Xa := S5.tr q749 h5Xa
                  have q751 : S5 X X35 := by rw [hX35]; exact S5.set q750 ⟨by omega, by omega, by omega, by omega, by omega⟩
                  have q752 : S5 X X38 := by rw [hX38]; exact S5.set q751 ⟨by omega, by omega, by omega, by omega, by omega⟩
                  have q753 : S5 X Xb := S5.tr q752 h5Xb
                  have q754 : S5 X X737 := S5.tr q753 (S5.frm hG738 (by decide))
                  exact ⟨X737, rfl, hRX737, hFX737, hMIX737, by omega, q746, fun h => absurd h (by omega), Or.inl ⟨by omega, by omega, r, k, by omega, (recR_at (fc := fcM X) (la := lnM X) (vl := mRid X) (rid := mRid X) (x := x) (r := r) (q := r) ⟨by omega, by omega⟩ ⟨by omega, by omega⟩).2, by omega, (by rw [(recR_at (fc := fcM X) (la := lnM X) (vl := mRid X) (rid := mRid X) (x := x) (r := r) (q := r) ⟨by omega, by omega⟩ ⟨by omega, by omega⟩).1, ← hyo]; unfold fcM; omega), (by rw [(recR_at (fc := fcM X) (la := lnM X) (vl := mRid X) (rid := mRid X) (x := x) (r := r) (q := r) ⟨by omega, by omega⟩ ⟨by omega, by omega⟩).1, ← hyo]; omega)⟩, q754, fun q => by omega⟩
        have e755 : X38 76 0 4 = Xa 76 0 4 := by rw [hX38, u3_k _ _ _ _ (by decide), hX35, u3_k _ _ _ _ (by decide)]
        have e756 : X38 70 0 4 = Xa 70 0 4 := by rw [hX38, u3_k _ _ _ _ (by decide), hX35, u3_k _ _ _ _ (by decide)]
        have q757 : Frm [7100, 7200] Xa X35 := by rw [hX35]; exact Frm.set Frm.rf (show 7100 ∈ [7100, 7200] by decide)
        have q758 : Frm [7100, 7200] Xa X38 := by rw [hX38]; exact Frm.set q757 (show 7200 ∈ [7100, 7200] by decide)
        have hO759 : ordOK X38 := ordOK.of hOa q758 (by decide)
        have q761 : Frm [7100, 7200] Xa X35 := by rw [hX35]; exact Frm.set Frm.rf (show 7100 ∈ [7100, 7200] by decide)
        have q762 : Frm [7100, 7200] Xa X38 := by rw [hX38]; exact Frm.set q761 (show 7200 ∈ [7100, 7200] by decide)
        have hT760 : rmT X38 (recR (fcM X) (lnM X) (mRid X) (mRid X) x r.toNat) := rmT.of hTa (by rw [hX38, u3_k _ _ _ _ (by decide), hX35, u3_k _ _ _ _ (by decide)]) (Frm.arr q762 80 (by decide +kernel) (by decide)) rfl rfl
        have q764 : Frm [7100, 7200] Xa X35 := by rw [hX35]; exact Frm.set Frm.rf (show 7100 ∈ [7100, 7200] by decide)
        have q765 : Frm [7100, 7200] Xa X38 := by rw [hX38]; exact Frm.set q764 (show 7200 ∈ [7100, 7200] by decide)
        have hR9763 : rmR X38 (recR (fcM X) (lnM X) (mRid X) (mRid X) x r.toNat) := rmR.of hRa9 (by rw [hX38, u3_k _ _ _ _ (by decide), hX35, u3_k _ _ _ _ (by decide)]) (fun q9 hq9 => by simp only [List.mem_cons, List.not_mem_nil, or_false] at hq9; rcases hq9 with rfl | rfl | rfl | rfl | rfl | rfl | rfl | rfl <;> exact Frm.arr q765 _ (by decide +kernel) (by decide)) rfl rfl rfl
        have q766 : Frm [7000, 7100, 7200, 7300, 7400, 7500, 7600, 7700, 7800, 7900, 8000, 8100] X X1 := by rw [hX1]; exact Frm.set Frm.rf (show 7000 ∈ [7000, 7100, 7200, 7300, 7400, 7500, 7600, 7700, 7800, 7900, 8000, 8100] by decide)
        have q767 : Frm [7000, 7100, 7200, 7300, 7400, 7500, 7600, 7700, 7800, 7900, 8000, 8100] X X2 := by rw [hX2]; exact Frm.set q766 (show 7600 ∈ [7000, 7100, 7200, 7300, 7400, 7500, 7600, 7700, 7800, 7900, 8000, 8100] by decide)
        have q768 : Frm [7000, 7100, 7200, 7300, 7400, 7500, 7600, 7700, 7800, 7900, 8000, 8100] X X12 := Frm.tr q767 (Frm.mono hG13 (by decide))
        have q769 : Frm [7000, 7100, 7200, 7300, 7400, 7500, 7600, 7700, 7800, 7900, 8000, 8100] X Xa := Frm.tr q768 (Frm.mono hGXa (by decide))
        have q770 : Frm [7100, 7200] Xa X35 := by rw [hX35]; exact Frm.set Frm.rf (show 7100 ∈ [7100, 7200] by decide)
        have q771 : Frm [7100, 7200] Xa X38 := by rw [hX38]; exact Frm.set q770 (show 7200 ∈ [7100, 7200] by decide)
        have q772 : Frm [7100, 7200] Xa X35 := by rw [hX35]; exact Frm.set Frm.rf (show 7100 ∈ [7100, 7200] by decide)
        have q773 : Frm [7100, 7200] Xa X38 := by rw [hX38]; exact Frm.set q772 (show 7200 ∈ [7100, 7200] by decide)
        have q774 : Frm [7100, 7200] Xa X35 := by rw [hX35]; exact Frm.set Frm.rf (show 7100 ∈ [7100, 7200] by decide)
        have q775 : Frm [7100, 7200] Xa X38 := by rw [hX38]; exact Frm.set q774 (show 7200 ∈ [7100, 7200] by decide)
        have q776 : Frm [7100, 7200] Xa X35 := by rw [hX35]; exact Frm.set Frm.rf (show 7100 ∈ [7100, 7200] by decide)
        have q777 : Frm [7100, 7200] Xa X38 := by rw [hX38]; exact Frm.set q776 (show 7200 ∈ [7100, 7200] by decide)
        exact lp80 (5 - 0 : Int).toNat.succ 0 X38 _ _ _ (by omega) hRX38 Frm.rf (by first | omega | (simp only [e755, e756]; omega)) (hO759) (S4.rf) (by first | omega | (simp only [e755, e756]; omega)) (by first | omega | (simp only [e755, e756]; omega)) ((by rw [hX38, hX35]; exact cOK.of hcOa (by omega) (by rw [← hX35, ← hX38]; exact hRX38) (by rw [u3_k _ _ _ _ (by decide), u3_k _ _ _ _ (by decide)]; exact Int.le_refl _) (by rw [u3_k _ _ _ _ (by decide), u3_k _ _ _ _ (by decide)]; exact Int.le_refl _) (fun r1 a b => ⟨by rw [u3_k _ _ _ _ (by decide), u3_j _ _ _ _ (by omega)], by rw [u3_j _ _ _ _ (by omega), u3_k _ _ _ _ (by decide)]⟩) (fun j hj => ⟨by rw [u3_k _ _ _ _ (by decide), u3_k _ _ _ _ (by decide)], by rw [u3_k _ _ _ _ (by decide), u3_k _ _ _ _ (by decide)]⟩) (by omega))) ((by rw [hX38, u3_k _ _ _ _ (by decide)]; rw [hVX35]; exact hyf)) (hVX38) (hT760) (hR9763) (rmV.in_ hVa (mSt.of (L := [7100, 7200]) q771 (by decide)) (by omega) (fun t => by rw [(Frm.arr q769 44 (by decide +kernel) (by decide))]; exact hf55 t) (fun j hj => (by rw [hX38, u3_k _ _ _ _ (by decide), hX35, u3_j _ _ _ _ hj])) (fun j hj => (by rw [hX38, u3_j _ _ _ _ hj, hX35, u3_k _ _ _ _ (by decide)])) (Frm.arr q773 73 (by decide +kernel) (by decide)) (Frm.arr q775 74 (by decide +kernel) (by decide)) (Frm.arr q777 75 (by decide +kernel) (by decide))) ((by rw [hX38, u3_k _ _ _ _ (by decide)]; exact hVX35)) (by first | omega | (simp only [e755, e756]; omega)) (fun _ k' a b => by omega) (S5.rf) hw hS (lv_sub hl [3, 4, 5, 6, 2, 1, 0] rfl)
  have e778 : X12 76 0 4 = X2 76 0 4 := by rw [hG13 76 0 4 (show 7600 ∉ [8000, 7000] by decide)]
  exact lp23 (30 - 0 : Int).toNat.succ 0 X12 _ _ _ (by omega) hRX12 Frm.rf (by first | omega | (simp only [e778]; omega)) (hOX12) (S4.rf) (by first | omega | (simp only [e778]; omega)) (cOK.nil) (rmT.init hTrX12) (rmR.init (by rw [hG13 76 0 4 (show 7600 ∉ [8000, 7000] by decide)]; exact hVX2)) (⟨fun r' a b => by omega, fun k' a b => by omega⟩) (fun _ r' k' a b => by omega) (S5.rf) hw hS (lv_sub hl [1, 2, 3, 0] rfl)

