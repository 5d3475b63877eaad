set_option maxHeartbeats 4000000 in
set_option maxRecDepth 100000 in
theorem c_X9_becomes (l : Launch) (D : va_G) (tc : Nat → ClassId) (base : Nat) (ad : Nat → Int → Nat) (cnt : Nat → Int) (X : Nat → Int → Int → Int) (Y : Nat → Int → Int → Option Int) (ln : Int → Int) (hR : Rng X) (hFx : Fx cnt) (hMI : MInv X) (x k v : Int) (hx0 : 0 ≤ x ∧ x ≤ 29) (hk0 : 0 ≤ k ∧ k ≤ 4) (hv : -9223372036854775808 ≤ v ∧ v ≤ 9223372036854775807) (hxt : x < X 40 0 13) (hkf : k < X 44 0 (X 55 0 x)) (htv : tyv (X 40 0 13) (X 46 0 (5 * X 55 0 x + k)) v) (hfu : X 40 0 20 = 0 ∨ X 40 0 22 ≤ 79) : KV l D tc base yX9_becomes wsX9_becomes ({ frames := 1, cells := 0, slots := 0, locals := 22 } : Room) [.ref (ad 40 0), .int (jI x), .int (jI k), .long (jL v)] (ad, cnt, X, Y, ln) 0 0 (fun u => ∃ X1 : Nat → Int → Int → Int, u = (ad, cnt, X1, Y, ln) ∧ Rng X1 ∧ Frm [6400, 6500, 6700, 6800, 6600, 4023, 5600] X X1 ∧ MInv X1 ∧ (0 : Int) ≤ 0 ∧ eNoteM X X1 x k (if 3 ≤ X 46 0 (5 * X 55 0 x + k) then X 56 0 (5 * x + k) else -1) (-1) (X 56 0 (5 * x + k)) ∧ X1 56 0 (5 * x + k) = v ∧ ∀ y, y ≠ 5 * x + k → X1 56 0 y = X 56 0 y) := by
  refine K_of (cc := cX9_becomes) (maxL := 5) (ret := none) (by decide) rfl (Nat.le_of_ble_eq_true rfl) ?_
  intro p e s m below meth c ls hx hb hr hml hown hts hlocks hl hK hw hS
  have hown : s.vm.findClass RX9 = some m.cls := hown
  obtain ⟨av9, hav9⟩ : ∃ a9 : Array Value, a9 = ([.ref (ad 40 0), .int (jI x), .int (jI k), .long (jL v)] : List Value).toArray := ⟨_, rfl⟩
  rw [← hav9] at hts ⊢
  obtain ⟨Q9, hQ9⟩ : ∃ q9Q : State → Prop, q9Q = MQ below (QV D tc base (fun u => ∃ X1 : Nat → Int → Int → Int, u = (ad, cnt, X1, Y, ln) ∧ Rng X1 ∧ Frm [6400, 6500, 6700, 6800, 6600, 4023, 5600] X X1 ∧ MInv X1 ∧ (0 : Int) ≤ 0 ∧ eNoteM X X1 x k (if 3 ≤ X 46 0 (5 * X 55 0 x + k) then X 56 0 (5 * x + k) else -1) (-1) (X 56 0 (5 * x + k)) ∧ X1 56 0 (5 * x + k) = v ∧ ∀ y, y ≠ 5 * x + k → X1 56 0 y = X 56 0 y)) av9 s 0 0 (frA base) := ⟨_, rfl⟩
  rw [← hQ9]
  have hi9 : ∀ w ∈ wsX90, w ∈ wsX9_becomes := fun w h => List.mem_cons_of_mem _ (List.mem_append_right _ h)
  have hf9 : fctx s m _ RX9 wsX9_becomes D tc RX9 TX9 51 9 := ⟨hts, hi9, hown, hK.1, rfl⟩
  have lk48 := hts (.fieldLink RX9 48 (TX9 15).1 (TX9 15).2.1 (TX9 15).2.2.1) (gj_X9_becomes_0 _ (gp_4 (gp_1 (gp_1 gp_h))))
  have lk66 := hts (.fieldLink RX9 66 (TX9 23).1 (TX9 23).2.1 (TX9 23).2.2.1) (gj_X9_becomes_0 _ (gp_1 gp_h))
  have lk69 := hts (.fieldLink RX9 69 (TX9 24).1 (TX9 24).2.1 (TX9 24).2.2.1) (gj_X9_becomes_0 _ (gp_1 (gp_1 (gp_1 gp_h))))
  have lk72 := hts (.fieldLink RX9 72 (TX9 25).1 (TX9 25).2.1 (TX9 25).2.2.1) (gj_X9_becomes_0 _ (gp_4 (gp_1 (gp_1 (gp_1 gp_h)))))
  have lk75 := hts (.fieldLink RX9 75 (TX9 26).1 (TX9 26).2.1 (TX9 26).2.2.1) (gj_X9_becomes_0 _ (gp_4 gp_h))
  have lk78 := hts (.fieldLink RX9 78 (TX9 27).1 (TX9 27).2.1 (TX9 27).2.2.1) (gj_X9_becomes_0 _ (gp_4 (gp_1 gp_h)))
  have lk165 := hts (.fieldLink RX9 165 (TX9 20).1 (TX9 20).2.1 (TX9 20).2.2.1) (gj_X9_becomes_0 _ (gp_h))
  have lk173 := hts (.fieldLink RX9 173 (TX9 22).1 (TX9 22).2.1 (TX9 22).2.2.1) (gj_X9_becomes_0 _ (gp_1 (gp_1 gp_h)))
  have hc40 : cnt 40 = 1 := hFx.at 40 1 (by decide)
  have hc56 : cnt 56 = 1 := hFx.at 56 1 (by decide)
  have hc64 : cnt 64 = 1 := hFx.at 64 1 (by decide)
  have hc65 : cnt 65 = 1 := hFx.at 65 1 (by decide)
  have hc66 : cnt 66 = 1 := hFx.at 66 1 (by decide)
  have hc67 : cnt 67 = 1 := hFx.at 67 1 (by decide)
  have hc68 : cnt 68 = 1 := hFx.at 68 1 (by decide)
  have hl : lv_has ls 5 [(0, .ref (ad 40 0)), (1, .int (jI x)), (2, .int (jI k)), (3, .long (jL v))] := hl
  have fstypes : 0 ≤ X 40 0 2 ∧ X 40 0 2 ≤ 8 := hR 40 0 2
  have fsthings : 0 ≤ X 40 0 13 ∧ X 40 0 13 ≤ 30 := hR 40 0 13
  have fsmarks : 0 ≤ X 40 0 20 ∧ X 40 0 20 ≤ 4 := hR 40 0 20
  have fsnotes : 0 ≤ X 40 0 22 ∧ X 40 0 22 ≤ 80 := hR 40 0 22
  obtain ⟨hy1, hy2, hy3⟩ := hMI.1 x k (by omega) (by omega) (by omega) (by omega)
  refine lv_aload_n hx hb dX9_becomes_0 rfl (lv_at hl 0 rfl) ?_
  refine x_geti (jz := 20) hx hb hf9 hw (by first | exact Int.le_refl 0 | omega) (by first | exact zlt hc40 | omega) sl_40_20 rfl lk165 dX9_becomes_1 ?_
  have f1 : 0 ≤ X 40 0 20 ∧ X 40 0 20 ≤ 4 := hR 40 0 20
  refine x_if_le (tgt := 100) hx hb (by omega) dX9_becomes_4 (by decide) (fun c2 => ?_) (fun c2 => ?_)
  · refine lv_aload_n hx hb dX9_becomes_100 rfl (lv_at hl 0 rfl) ?_
    refine x_geto hx hb hf9 hw (by first | exact Int.le_refl 0 | omega) (by first | exact zlt hc40 | omega) sl_40_15 lk48 dX9_becomes_101 ?_
    refine lv_iconst (v := jI 5) hx hb dX9_becomes_104 rfl ?_
    refine lv_iload_n hx hb dX9_becomes_105 rfl (lv_at hl 1 rfl) ?_
    refine x_imul hx hb dX9_becomes_106 ?_
    refine lv_iload_n hx hb dX9_becomes_107 rfl (lv_at hl 2 rfl) ?_
    refine x_iadd hx hb dX9_becomes_108 ?_
    refine lv_lload_n hx hb dX9_becomes_109 rfl (lv_at hl 3 rfl) ?_
    refine x_last hx hb hK.1 hw hS (by first | exact Int.le_refl 0 | omega) (by first | exact zlt hc56 | omega) ar_56 (len_E ar_56 (by decide)) (by omega) (by omega) (by omega) dX9_becomes_110 (fun H locs hw hS => ?_)
    obtain ⟨X3, hX3⟩ : ∃ Xq, Xq = u3 X 56 0 ((5 * x) + k) v := ⟨_, rfl⟩
    rw [← hX3] at hw
    have hRX3 : Rng X3 := by rw [hX3]; exact rng_set hR (show (-9223372036854775808) ≤ v ∧ v ≤ 9223372036854775807 by omega)
    have hVX3 : X3 56 0 ((5 * x) + k) = v := by rw [hX3]; exact u3_s _ _ _ _ _
    have hFX3 : Frm [6400, 6500, 6700, 6800, 6600, 4023, 5600] X X3 := by rw [hX3]; exact Frm.set Frm.rf (show 5600 ∈ [6400, 6500, 6700, 6800, 6600, 4023, 5600] by decide)
    rw [hQ9]
    refine ret_v (mc := 0) (ms := 0) hx hb hr hlocks hw hS (by first | exact Nat.le_of_ble_eq_true rfl | omega) (by first | exact Nat.le_of_ble_eq_true rfl | omega) dX9_becomes_111 ?_
    exact ⟨X3, rfl, hRX3, hFX3, by rw [hX3]; exact minv_xval hMI hR (by omega) (by omega) (by omega) (by omega) htv, by omega, Or.inl ⟨by omega, (by rw [hX3, u3_k _ _ _ _ (by decide)]), fun y => ⟨(by rw [hX3, u3_k _ _ _ _ (by decide)]), (by rw [hX3, u3_k _ _ _ _ (by decide)]), (by rw [hX3, u3_k _ _ _ _ (by decide)]), (by rw [hX3, u3_k _ _ _ _ (by decide)]), (by rw [hX3, u3_k _ _ _ _ (by decide)])⟩⟩, (by exact hVX3), fun y hy => (by rw [hX3, u3_j _ _ _ _ hy])⟩
  · refine lv_aload_n hx hb dX9_becomes_7 rfl (lv_at hl 0 rfl) ?_
    refine x_geto hx hb hf9 hw (by first | exact Int.le_refl 0 | omega) (by first | exact zlt hc40 | omega) sl_40_23 lk66 dX9_becomes_8 ?_
    refine lv_aload_n hx hb dX9_becomes_11 rfl (lv_at hl 0 rfl) ?_
    refine x_geti (jz := 22) hx hb hf9 hw (by first | exact Int.le_refl 0 | omega) (by first | exact zlt hc40 | omega) sl_40_22 rfl lk173 dX9_becomes_12 ?_
    have f4 : 0 ≤ X 40 0 22 ∧ X 40 0 22 ≤ 80 := hR 40 0 22
    refine lv_iload_n hx hb dX9_becomes_15 rfl (lv_at hl 1 rfl) ?_
    refine x_iast hx hb hK.1 hw hS (by first | exact Int.le_refl 0 | omega) (by first | exact zlt hc64 | omega) ar_64 (len_E ar_64 (by decide)) (by omega) (by omega) (by omega) dX9_becomes_16 (fun H locs hw hS => ?_)
    obtain ⟨X5, hX5⟩ : ∃ Xq, Xq = u3 X 64 0 (X 40 0 22) x := ⟨_, rfl⟩
    rw [← hX5] at hw
    have hRX5 : Rng X5 := by rw [hX5]; exact rng_set hR (show 0 ≤ x ∧ x ≤ 29 by omega)
    have hVX5 : X5 64 0 (X 40 0 22) = x := by rw [hX5]; exact u3_s _ _ _ _ _
    have hFX5 : Frm [6400, 6500, 6700, 6800, 6600, 4023, 5600] X X5 := by rw [hX5]; exact Frm.set Frm.rf (show 6400 ∈ [6400, 6500, 6700, 6800, 6600, 4023, 5600] by decide)
    refine lv_aload_n hx hb dX9_becomes_17 rfl (lv_at hl 0 rfl) ?_
    refine x_geto hx hb hf9 hw (by first | exact Int.le_refl 0 | omega) (by first | exact zlt hc40 | omega) sl_40_24 lk69 dX9_becomes_18 ?_
    refine lv_aload_n hx hb dX9_becomes_21 rfl (lv_at hl 0 rfl) ?_
    refine x_geti (jz := 22) hx hb hf9 hw (by first | exact Int.le_refl 0 | omega) (by first | exact zlt hc40 | omega) sl_40_22 rfl lk173 dX9_becomes_22 ?_
    have e6 : X5 40 0 22 = X 40 0 22 := by rw [hX5, u3_k _ _ _ _ (by decide)]
    rw [e6]
    have f7 : 0 ≤ X 40 0 22 ∧ X 40 0 22 ≤ 80 := hR 40 0 22
    refine lv_iload_n hx hb dX9_becomes_25 rfl (lv_at hl 2 rfl) ?_
    refine x_iast hx hb hK.1 hw hS (by first | exact Int.le_refl 0 | omega) (by first | exact zlt hc65 | omega) ar_65 (len_E ar_65 (by decide)) (by omega) (by omega) (by omega) dX9_becomes_26 (fun H locs hw hS => ?_)
    obtain ⟨X8, hX8⟩ : ∃ Xq, Xq = u3 X5 65 0 (X 40 0 22) k := ⟨_, rfl⟩
    rw [← hX8] at hw
    have hRX8 : Rng X8 := by rw [hX8]; exact rng_set hRX5 (show 0 ≤ k ∧ k ≤ 4 by omega)
    have hVX8 : X8 65 0 (X 40 0 22) = k := by rw [hX8]; exact u3_s _ _ _ _ _
    have hFX8 : Frm [6400, 6500, 6700, 6800, 6600, 4023, 5600] X X8 := by rw [hX8]; exact Frm.set hFX5 (show 6500 ∈ [6400, 6500, 6700, 6800, 6600, 4023, 5600] by decide)
    refine lv_aload_n hx hb dX9_becomes_27 rfl (lv_at hl 0 rfl) ?_
    refine x_geto hx hb hf9 hw (by first | exact Int.le_refl 0 | omega) (by first | exact zlt hc40 | omega) sl_40_26 lk75 dX9_becomes_28 ?_
    refine lv_aload_n hx hb dX9_becomes_31 rfl (lv_at hl 0 rfl) ?_
    refine x_geti (jz := 22) hx hb hf9 hw (by first | exact Int.le_refl 0 | omega) (by first | exact zlt hc40 | omega) sl_40_22 rfl lk173 dX9_becomes_32 ?_
    have e9 : X8 40 0 22 = X 40 0 22 := by rw [hX8, u3_k _ _ _ _ (by decide), hX5, u3_k _ _ _ _ (by decide)]
    rw [e9]
    have f10 : 0 ≤ X 40 0 22 ∧ X 40 0 22 ≤ 80 := hR 40 0 22
    refine lv_iconst (v := jI (-1)) hx hb dX9_becomes_35 rfl ?_
    refine x_iast hx hb hK.1 hw hS (by first | exact Int.le_refl 0 | omega) (by first | exact zlt hc67 | omega) ar_67 (len_E ar_67 (by decide)) (by omega) (by omega) (by omega) dX9_becomes_36 (fun H locs hw hS => ?_)
    obtain ⟨X11, hX11⟩ : ∃ Xq, Xq = u3 X8 67 0 (X 40 0 22) (-1) := ⟨_, rfl⟩
    rw [← hX11] at hw
    have hRX11 : Rng X11 := by rw [hX11]; exact rng_set hRX8 (show (-1) ≤ (-1) ∧ (-1) ≤ 11 by omega)
    have hVX11 : X11 67 0 (X 40 0 22) = (-1) := by rw [hX11]; exact u3_s _ _ _ _ _
    have hFX11 : Frm [6400, 6500, 6700, 6800, 6600, 4023, 5600] X X11 := by rw [hX11]; exact Frm.set hFX8 (show 6700 ∈ [6400, 6500, 6700, 6800, 6600, 4023, 5600] by decide)
    refine lv_aload_n hx hb dX9_becomes_37 rfl (lv_at hl 0 rfl) ?_
    refine x_geto hx hb hf9 hw (by first | exact Int.le_refl 0 | omega) (by first | exact zlt hc40 | omega) sl_40_27 lk78 dX9_becomes_38 ?_
    refine lv_aload_n hx hb dX9_becomes_41 rfl (lv_at hl 0 rfl) ?_
    refine x_geti (jz := 22) hx hb hf9 hw (by first | exact Int.le_refl 0 | omega) (by first | exact zlt hc40 | omega) sl_40_22 rfl lk173 dX9_becomes_42 ?_
    have e12 : X11 40 0 22 = X 40 0 22 := by rw [hX11, u3_k _ _ _ _ (by decide), hX8, u3_k _ _ _ _ (by decide), hX5, u3_k _ _ _ _ (by decide)]
    rw [e12]
    have f13 : 0 ≤ X 40 0 22 ∧ X 40 0 22 ≤ 80 := hR 40 0 22
    refine lv_aload_n hx hb dX9_becomes_45 rfl (lv_at hl 0 rfl) ?_
    refine x_geto hx hb hf9 hw (by first | exact Int.le_refl 0 | omega) (by first | exact zlt hc40 | omega) sl_40_15 lk48 dX9_becomes_46 ?_
    refine lv_iconst (v := jI 5) hx hb dX9_becomes_49 rfl ?_
    refine lv_iload_n hx hb dX9_becomes_50 rfl (lv_at hl 1 rfl) ?_
    refine x_imul hx hb dX9_becomes_51 ?_
    refine lv_iload_n hx hb dX9_becomes_52 rfl (lv_at hl 2 rfl) ?_
    refine x_iadd hx hb dX9_becomes_53 ?_
    refine x_lald hx hb hK.1 hw (by first | exact Int.le_refl 0 | omega) (by first | exact zlt hc56 | omega) ar_56 (len_E ar_56 (by decide)) (by omega) (by omega) (by omega) dX9_becomes_54 ?_
    have e14 : ∀ p9 q9 : Int, X11 56 p9 q9 = X 56 p9 q9 := fun p9 q9 => by rw [hX11, u3_k _ _ _ _ (by decide), hX8, u3_k _ _ _ _ (by decide), hX5, u3_k _ _ _ _ (by decide)]
    rw [e14 0 ((5 * x) + k)]
    have f15 : (-9223372036854775808) ≤ X 56 0 ((5 * x) + k) ∧ X 56 0 ((5 * x) + k) ≤ 9223372036854775807 := hR 56 0 ((5 * x) + k)
    refine x_last hx hb hK.1 hw hS (by first | exact Int.le_refl 0 | omega) (by first | exact zlt hc68 | omega) ar_68 (len_E ar_68 (by decide)) (by omega) (by omega) (by omega) dX9_becomes_55 (fun H locs hw hS => ?_)
    obtain ⟨X16, hX16⟩ : ∃ Xq, Xq = u3 X11 68 0 (X 40 0 22) (X 56 0 ((5 * x) + k)) := ⟨_, rfl⟩
    rw [← hX16] at hw
    have hRX16 : Rng X16 := by rw [hX16]; exact rng_set hRX11 (show (-9223372036854775808) ≤ (X 56 0 ((5 * x) + k)) ∧ (X 56 0 ((5 * x) + k)) ≤ 9223372036854775807 by omega)
    have hVX16 : X16 68 0 (X 40 0 22) = (X 56 0 ((5 * x) + k)) := by rw [hX16]; exact u3_s _ _ _ _ _
    have hFX16 : Frm [6400, 6500, 6700, 6800, 6600, 4023, 5600] X X16 := by rw [hX16]; exact Frm.set hFX11 (show 6800 ∈ [6400, 6500, 6700, 6800, 6600, 4023, 5600] by decide)
    refine lv_aload_n hx hb dX9_becomes_56 rfl (lv_at hl 0 rfl) ?_
    refine x_geto hx hb hf9 hw (by first | exact Int.le_refl 0 | omega) (by first | exact zlt hc40 | omega) sl_40_25 lk72 dX9_becomes_57 ?_
    refine lv_aload_n hx hb dX9_becomes_60 rfl (lv_at hl 0 rfl) ?_
    refine x_geti (jz := 22) hx hb hf9 hw (by first | exact Int.le_refl 0 | omega) (by first | exact zlt hc40 | omega) sl_40_22 rfl lk173 dX9_becomes_61 ?_
    have e17 : X16 40 0 22 = X 40 0 22 := by rw [hX16, u3_k _ _ _ _ (by decide), hX11, u3_k _ _ _ _ (by decide), hX8, u3_k _ _ _ _ (by decide), hX5, u3_k _ _ _ _ (by decide)]
    rw [e17]
    have f18 : 0 ≤ X 40 0 22 ∧ X 40 0 22 ≤ 80 := hR 40 0 22
    refine lv_aload_n hx hb dX9_becomes_64 rfl (lv_at hl 0 rfl) ?_
    refine lv_iload_n hx hb dX9_becomes_65 rfl (lv_at hl 1 rfl) ?_
    refine lv_iload_n hx hb dX9_becomes_66 rfl (lv_at hl 2 rfl) ?_
    refine gos_i (run_V (As := [.int (jI x), .int (jI k)]) (rest := [.int (jI (X 40 0 22)), .ref (ad 66 0)]) hx hb hml hown hts (c_X9_lane l D tc base ad cnt X16 Y ln hRX16 hFx x k (by omega) (by omega)) (cwV 2 hts gX9_becomes_X9_lane rfl rfl rfl (by first | exact hd_X9_lane | decide +kernel) ⟨Nat.le_of_ble_eq_true rfl, Nat.le_of_ble_eq_true rfl⟩) hK hw (by first | exact Int.le_refl 0 | omega) (by first | exact zlt hc40 | omega) sl_40_0 rfl rfl hl.1 rfl (Nat.le_of_ble_eq_true rfl) dX9_becomes_67 ⟨Nat.le_of_ble_eq_true rfl, Nat.le_of_ble_eq_true rfl⟩) hS (fun z19 u20 H locs p21 hw hS => ?_)
    obtain ⟨eu20, p21⟩ := p21
    subst eu20
    have e22 : ∀ j : Int, X16 55 0 j = X 55 0 j := fun j => by rw [hX16, u3_k _ _ _ _ (by decide), hX11, u3_k _ _ _ _ (by decide), hX8, u3_k _ _ _ _ (by decide), hX5, u3_k _ _ _ _ (by decide)]
    have e23 : ∀ j : Int, X16 46 0 j = X 46 0 j := fun j => by rw [hX16, u3_k _ _ _ _ (by decide), hX11, u3_k _ _ _ _ (by decide), hX8, u3_k _ _ _ _ (by decide), hX5, u3_k _ _ _ _ (by decide)]
    simp only [e22, e23] at p21
    refine lv_iconst (v := jI 3) hx hb dX9_becomes_70 rfl ?_
    refine x_icmp_lt (tgt := 88) hx hb (by omega) (by omega) dX9_becomes_71 (by decide) (fun c24 => ?_) (fun c24 => ?_)
    · refine lv_iconst (v := jI (-1)) hx hb dX9_becomes_88 rfl ?_
      refine x_iast hx hb hK.1 hw hS (by first | exact Int.le_refl 0 | omega) (by first | exact zlt hc66 | omega) ar_66 (len_E ar_66 (by decide)) (by omega) (by omega) (by omega) dX9_becomes_89 (fun H locs hw hS => ?_)
      obtain ⟨X25, hX25⟩ : ∃ Xq, Xq = u3 X16 66 0 (X 40 0 22) (-1) := ⟨_, rfl⟩
      rw [← hX25] at hw
      have hRX25 : Rng X25 := by rw [hX25]; exact rng_set hRX16 (show (-1) ≤ (-1) ∧ (-1) ≤ 399 by omega)
      have hVX25 : X25 66 0 (X 40 0 22) = (-1) := by rw [hX25]; exact u3_s _ _ _ _ _
      have hFX25 : Frm [6400, 6500, 6700, 6800, 6600, 4023, 5600] X X25 := by rw [hX25]; exact Frm.set hFX16 (show 6600 ∈ [6400, 6500, 6700, 6800, 6600, 4023, 5600] by decide)
      refine lv_aload_n hx hb dX9_becomes_90 rfl (lv_at hl 0 rfl) ?_
      refine lv_dup hx hb dX9_becomes_91 rfl ?_
      refine x_geti (jz := 22) hx hb hf9 hw (by first | exact Int.le_refl 0 | omega) (by first | exact zlt hc40 | omega) sl_40_22 rfl lk173 dX9_becomes_92 ?_
      have e26 : X25 40 0 22 = X 40 0 22 := by rw [hX25, u3_k _ _ _ _ (by decide), hX16, u3_k _ _ _ _ (by decide), hX11, u3_k _ _ _ _ (by decide), hX8, u3_k _ _ _ _ (by decide), hX5, u3_k _ _ _ _ (by decide)]
      rw [e26]
      have f27 : 0 ≤ X 40 0 22 ∧ X 40 0 22 ≤ 80 := hR 40 0 22
      refine lv_iconst (v := jI 1) hx hb dX9_becomes_95 rfl ?_
      refine x_iadd hx hb dX9_becomes_96 ?_
      refine x_puti (jz := 22) hx hb hf9 ⟨tyX9_ok, nmX9⟩ hw hS (by first | exact Int.le_refl 0 | omega) (by first | exact zlt hc40 | omega) sl_40_22 rfl lk173 rfl (tyX9_ok 22 (by decide)) rfl rfl dX9_becomes_97 (fun H locs hw hS => ?_)
      obtain ⟨X28, hX28⟩ : ∃ Xq, Xq = u3 X25 40 0 22 ((X 40 0 22) + 1) := ⟨_, rfl⟩
      rw [← hX28] at hw
      have hRX28 : Rng X28 := by rw [hX28]; exact rng_set hRX25 (show 0 ≤ ((X 40 0 22) + 1) ∧ ((X 40 0 22) + 1) ≤ 80 by omega)
      have hVX28 : X28 40 0 22 = ((X 40 0 22) + 1) := by rw [hX28]; exact u3_s _ _ _ _ _
      have hFX28 : Frm [6400, 6500, 6700, 6800, 6600, 4023, 5600] X X28 := by rw [hX28]; exact Frm.set hFX25 (show 4023 ∈ [6400, 6500, 6700, 6800, 6600, 4023, 5600] by decide)
      refine lv_aload_n hx hb dX9_becomes_100 rfl (lv_at hl 0 rfl) ?_
      refine x_geto hx hb hf9 hw (by first | exact Int.le_refl 0 | omega) (by first | exact zlt hc40 | omega) sl_40_15 lk48 dX9_becomes_101 ?_
      refine lv_iconst (v := jI 5) hx hb dX9_becomes_104 rfl ?_
      refine lv_iload_n hx hb dX9_becomes_105 rfl (lv_at hl 1 rfl) ?_
      refine x_imul hx hb dX9_becomes_106 ?_
      refine lv_iload_n hx hb dX9_becomes_107 rfl (lv_at hl 2 rfl) ?_
      refine x_iadd hx hb dX9_becomes_108 ?_
      refine lv_lload_n hx hb dX9_becomes_109 rfl (lv_at hl 3 rfl) ?_
      refine x_last hx hb hK.1 hw hS (by first | exact Int.le_refl 0 | omega) (by first | exact zlt hc56 | omega) ar_56 (len_E ar_56 (by decide)) (by omega) (by omega) (by omega) dX9_becomes_110 (fun H locs hw hS => ?_)
      obtain ⟨X29, hX29⟩ : ∃ Xq, Xq = u3 X28 56 0 ((5 * x) + k) v := ⟨_, rfl⟩
      rw [← hX29] at hw
      have hRX29 : Rng X29 := by rw [hX29]; exact rng_set hRX28 (show (-9223372036854775808) ≤ v ∧ v ≤ 9223372036854775807 by omega)
      have hVX29 : X29 56 0 ((5 * x) + k) = v := by rw [hX29]; exact u3_s _ _ _ _ _
      have hFX29 : Frm [6400, 6500, 6700, 6800, 6600, 4023, 5600] X X29 := by rw [hX29]; exact Frm.set hFX28 (show 5600 ∈ [6400, 6500, 6700, 6800, 6600, 4023, 5600] by decide)
      rw [hQ9]
      refine ret_v (mc := 0) (ms := 0) hx hb hr hlocks hw hS (by first | exact Nat.le_of_ble_eq_true rfl | omega) (by first | exact Nat.le_of_ble_eq_true rfl | omega) dX9_becomes_111 ?_
      have q31 : Frm [4001, 6400, 6500, 6600, 6700, 6800, 4023, 5900] X X5 := by rw [hX5]; exact Frm.set Frm.rf (show 6400 ∈ [4001, 6400, 6500, 6600, 6700, 6800, 4023, 5900] by decide)
      have q32 : Frm [4001, 6400, 6500, 6600, 6700, 6800, 4023, 5900] X X8 := by rw [hX8]; exact Frm.set q31 (show 6500 ∈ [4001, 6400, 6500, 6600, 6700, 6800, 4023, 5900] by decide)
      have q33 : Frm [4001, 6400, 6500, 6600, 6700, 6800, 4023, 5900] X X11 := by rw [hX11]; exact Frm.set q32 (show 6700 ∈ [4001, 6400, 6500, 6600, 6700, 6800, 4023, 5900] by decide)
      have q34 : Frm [4001, 6400, 6500, 6600, 6700, 6800, 4023, 5900] X X16 := by rw [hX16]; exact Frm.set q33 (show 6800 ∈ [4001, 6400, 6500, 6600, 6700, 6800, 4023, 5900] by decide)
      have q35 : Frm [4001, 6400, 6500, 6600, 6700, 6800, 4023, 5900] X X25 := by rw [hX25]; exact Frm.set q34 (show 6600 ∈ [4001, 6400, 6500, 6600, 6700, 6800, 4023, 5900] by decide)
      have q36 : Frm [4001, 6400, 6500, 6600, 6700, 6800, 4023, 5900] X X28 := by rw [hX28]; exact Frm.set q35 (show 4023 ∈ [4001, 6400, 6500, 6600, 6700, 6800, 4023, 5900] by decide)
      have hMn30 : MInv X28 := minv_note (th := x) (fd := k) (rw := 0) (it := -1) (ws := X 56 0 (5 * x + k)) hMI (by omega) q36 (by exact hVX28) (fun j hj => ⟨(by rw [hX28, u3_k _ _ _ _ (by decide), hX25, u3_k _ _ _ _ (by decide), hX16, u3_k _ _ _ _ (by decide), hX11, u3_k _ _ _ _ (by decide), hX8, u3_k _ _ _ _ (by decide), hX5, u3_j _ _ _ _ (by omega)]), (by rw [hX28, u3_k _ _ _ _ (by decide), hX25, u3_k _ _ _ _ (by decide), hX16, u3_k _ _ _ _ (by decide), hX11, u3_k _ _ _ _ (by decide), hX8, u3_j _ _ _ _ (by omega), hX5, u3_k _ _ _ _ (by decide)]), (by rw [hX28, u3_k _ _ _ _ (by decide), hX25, u3_j _ _ _ _ (by omega), hX16, u3_k _ _ _ _ (by decide), hX11, u3_k _ _ _ _ (by decide), hX8, u3_k _ _ _ _ (by decide), hX5, u3_k _ _ _ _ (by decide)]), (by rw [hX28, u3_k _ _ _ _ (by decide), hX25, u3_k _ _ _ _ (by decide), hX16, u3_k _ _ _ _ (by decide), hX11, u3_j _ _ _ _ (by omega), hX8, u3_k _ _ _ _ (by decide), hX5, u3_k _ _ _ _ (by decide)]), (by rw [hX28, u3_k _ _ _ _ (by decide), hX25, u3_k _ _ _ _ (by decide), hX16, u3_j _ _ _ _ (by omega), hX11, u3_k _ _ _ _ (by decide), hX8, u3_k _ _ _ _ (by decide), hX5, u3_k _ _ _ _ (by decide)])⟩) (by rw [hX28, u3_k _ _ _ _ (by decide), hX25, u3_k _ _ _ _ (by decide), hX16, u3_k _ _ _ _ (by decide)]; exact hVX11) ⟨fun _ => ⟨(by rw [hX28, u3_k _ _ _ _ (by decide), hX25, u3_k _ _ _ _ (by decide), hX16, u3_k _ _ _ _ (by decide), hX11, u3_k _ _ _ _ (by decide), hX8, u3_k _ _ _ _ (by decide)]; exact hVX5), (by rw [hX28, u3_k _ _ _ _ (by decide), hX25, u3_k _ _ _ _ (by decide), hX16, u3_k _ _ _ _ (by decide), hX11, u3_k _ _ _ _ (by decide)]; exact hVX8), (by rw [hX28, u3_k _ _ _ _ (by decide), hX25, u3_k _ _ _ _ (by decide)]; exact hVX16), by omega, by omega, hMI.1 x k (by omega) (by omega) (by omega) (by omega)⟩, fun q => by omega⟩
      have e37 : X28 40 0 13 = X 40 0 13 := by rw [hX28, u3_j _ _ _ _ (by decide), hX25, u3_k _ _ _ _ (by decide), hX16, u3_k _ _ _ _ (by decide), hX11, u3_k _ _ _ _ (by decide), hX8, u3_k _ _ _ _ (by decide), hX5, u3_k _ _ _ _ (by decide)]
      have e38 : ∀ j : Int, X28 44 0 j = X 44 0 j := fun j => by rw [hX28, u3_k _ _ _ _ (by decide), hX25, u3_k _ _ _ _ (by decide), hX16, u3_k _ _ _ _ (by decide), hX11, u3_k _ _ _ _ (by decide), hX8, u3_k _ _ _ _ (by decide), hX5, u3_k _ _ _ _ (by decide)]
      have e39 : ∀ j : Int, X28 46 0 j = X 46 0 j := fun j => by rw [hX28, u3_k _ _ _ _ (by decide), hX25, u3_k _ _ _ _ (by decide), hX16, u3_k _ _ _ _ (by decide), hX11, u3_k _ _ _ _ (by decide), hX8, u3_k _ _ _ _ (by decide), hX5, u3_k _ _ _ _ (by decide)]
      have e40 : ∀ j : Int, X28 55 0 j = X 55 0 j := fun j => by rw [hX28, u3_k _ _ _ _ (by decide), hX25, u3_k _ _ _ _ (by decide), hX16, u3_k _ _ _ _ (by decide), hX11, u3_k _ _ _ _ (by decide), hX8, u3_k _ _ _ _ (by decide), hX5, u3_k _ _ _ _ (by decide)]
      exact ⟨X29, rfl, hRX29, hFX29, by rw [hX29]; exact minv_xval hMn30 hRX28 (by omega) (by simp only [e37, e38, e39, e40]; omega) (by omega) (by simp only [e37, e38, e39, e40]; omega) (by simp only [e37, e38, e39, e40]; exact htv), by omega, Or.inr ⟨by omega, (by rw [hX29, u3_k _ _ _ _ (by decide)]; exact hVX28), ⟨(by rw [hX29, u3_k _ _ _ _ (by decide), hX28, u3_k _ _ _ _ (by decide), hX25, u3_k _ _ _ _ (by decide), hX16, u3_k _ _ _ _ (by decide), hX11, u3_k _ _ _ _ (by decide), hX8, u3_k _ _ _ _ (by decide)]; exact hVX5), (by rw [hX29, u3_k _ _ _ _ (by decide), hX28, u3_k _ _ _ _ (by decide), hX25, u3_k _ _ _ _ (by decide), hX16, u3_k _ _ _ _ (by decide), hX11, u3_k _ _ _ _ (by decide)]; exact hVX8), (by rw [hX29, u3_k _ _ _ _ (by decide), hX28, u3_k _ _ _ _ (by decide)]; rw [hVX25]; split <;> omega), (by rw [hX29, u3_k _ _ _ _ (by decide), hX28, u3_k _ _ _ _ (by decide), hX25, u3_k _ _ _ _ (by decide), hX16, u3_k _ _ _ _ (by decide)]; exact hVX11), (by rw [hX29, u3_k _ _ _ _ (by decide), hX28, u3_k _ _ _ _ (by decide), hX25, u3_k _ _ _ _ (by decide)]; exact hVX16)⟩, fun y hy => ⟨(by rw [hX29, u3_k _ _ _ _ (by decide), hX28, u3_k _ _ _ _ (by decide), hX25, u3_k _ _ _ _ (by decide), hX16, u3_k _ _ _ _ (by decide), hX11, u3_k _ _ _ _ (by decide), hX8, u3_k _ _ _ _ (by decide), hX5, u3_j _ _ _ _ hy]), (by rw [hX29, u3_k _ _ _ _ (by decide), hX28, u3_k _ _ _ _ (by decide), hX25, u3_k _ _ _ _ (by decide), hX16, u3_k _ _ _ _ (by decide), hX11, u3_k _ _ _ _ (by decide), hX8, u3_j _ _ _ _ hy, hX5, u3_k _ _ _ _ (by decide)]), (by rw [hX29, u3_k _ _ _ _ (by decide), hX28, u3_k _ _ _ _ (by decide), hX25, u3_j _ _ _ _ hy, hX16, u3_k _ _ _ _ (by decide), hX11, u3_k _ _ _ _ (by decide), hX8, u3_k _ _ _ _ (by decide), hX5, u3_k _ _ _ _ (by decide)]), (by rw [hX29, u3_k _ _ _ _ (by decide), hX28, u3_k _ _ _ _ (by decide), hX25, u3_k _ _ _ _ (by decide), hX16, u3_k _ _ _ _ (by decide), hX11, u3_j _ _ _ _ hy, hX8, u3_k _ _ _ _ (by decide), hX5, u3_k _ _ _ _ (by decide)]), (by rw [hX29, u3_k _ _ _ _ (by decide), hX28, u3_k _ _ _ _ (by decide), hX25, u3_k _ _ _ _ (by decide), hX16, u3_j _ _ _ _ hy, hX11, u3_k _ _ _ _ (by decide), hX8, u3_k _ _ _ _ (by decide), hX5, u3_k _ _ _ _ (by decide)])⟩⟩, (by exact hVX29), fun y hy => (by rw [hX29, u3_j _ _ _ _ hy, hX28, u3_k _ _ _ _ (by decide), hX25, u3_k _ _ _ _ (by decide), hX16, u3_k _ _ _ _ (by decide), hX11, u3_k _ _ _ _ (by decide), hX8, u3_k _ _ _ _ (by decide), hX5, u3_k _ _ _ _ (by decide)])⟩
    · refine lv_aload_n hx hb dX9_becomes_74 rfl (lv_at hl 0 rfl) ?_
      refine x_geto hx hb hf9 hw (by first | exact Int.le_refl 0 | omega) (by first | exact zlt hc40 | omega) sl_40_15 lk48 dX9_becomes_75 ?_
      refine lv_iconst (v := jI 5) hx hb dX9_becomes_78 rfl ?_
      refine lv_iload_n hx hb dX9_becomes_79 rfl (lv_at hl 1 rfl) ?_
      refine x_imul hx hb dX9_becomes_80 ?_
      refine lv_iload_n hx hb dX9_becomes_81 rfl (lv_at hl 2 rfl) ?_
      refine x_iadd hx hb dX9_becomes_82 ?_
      refine x_lald hx hb hK.1 hw (by first | exact Int.le_refl 0 | omega) (by first | exact zlt hc56 | omega) ar_56 (len_E ar_56 (by decide)) (by omega) (by omega) (by omega) dX9_becomes_83 ?_
      have e41 : ∀ p9 q9 : Int, X16 56 p9 q9 = X 56 p9 q9 := fun p9 q9 => by rw [hX16, u3_k _ _ _ _ (by decide), hX11, u3_k _ _ _ _ (by decide), hX8, u3_k _ _ _ _ (by decide), hX5, u3_k _ _ _ _ (by decide)]
      rw [e41 0 ((5 * x) + k)]
      have f42 : (-9223372036854775808) ≤ X 56 0 ((5 * x) + k) ∧ X 56 0 ((5 * x) + k) ≤ 9223372036854775807 := hR 56 0 ((5 * x) + k)
      refine x_l2i hx hb dX9_becomes_84 ?_
      refine lv_goto (tgt := 89) hx hb dX9_becomes_85 (by decide) ?_
      refine x_iast hx hb hK.1 hw hS (by first | exact Int.le_refl 0 | omega) (by first | exact zlt hc66 | omega) ar_66 (len_E ar_66 (by decide)) (by omega) (by omega) (by omega) dX9_becomes_89 (fun H locs hw hS => ?_)
      obtain ⟨X43, hX43⟩ : ∃ Xq, Xq = u3 X16 66 0 (X 40 0 22) (X 56 0 ((5 * x) + k)) := ⟨_, rfl⟩
      rw [← hX43] at hw
      have hRX43 : Rng X43 := by rw [hX43]; exact rng_set hRX16 (show (-1) ≤ (X 56 0 ((5 * x) + k)) ∧ (X 56 0 ((5 * x) + k)) ≤ 399 by omega)
      have hVX43 : X43 66 0 (X 40 0 22) = (X 56 0 ((5 * x) + k)) := by rw [hX43]; exact u3_s _ _ _ _ _
      have hFX43 : Frm [6400, 6500, 6700, 6800, 6600, 4023, 5600] X X43 := by rw [hX43]; exact Frm.set hFX16 (show 6600 ∈ [6400, 6500, 6700, 6800, 6600, 4023, 5600] by decide)
      refine lv_aload_n hx hb dX9_becomes_90 rfl (lv_at hl 0 rfl) ?_
      refine lv_dup hx hb dX9_becomes_91 rfl ?_
      refine x_geti (jz := 22) hx hb hf9 hw (by first | exact Int.le_refl 0 | omega) (by first | exact zlt hc40 | omega) sl_40_22 rfl lk173 dX9_becomes_92 ?_
      have e44 : X43 40 0 22 = X 40 0 22 := by rw [hX43, u3_k _ _ _ _ (by decide), hX16, u3_k _ _ _ _ (by decide), hX11, u3_k _ _ _ _ (by decide), hX8, u3_k _ _ _ _ (by decide), hX5, u3_k _ _ _ _ (by decide)]
      rw [e44]
      have f45 : 0 ≤ X 40 0 22 ∧ X 40 0 22 ≤ 80 := hR 40 0 22
      refine lv_iconst (v := jI 1) hx hb dX9_becomes_95 rfl ?_
      refine x_iadd hx hb dX9_becomes_96 ?_
      refine x_puti (jz := 22) hx hb hf9 ⟨tyX9_ok, nmX9⟩ hw hS (by first | exact Int.le_refl 0 | omega) (by first | exact zlt hc40 | omega) sl_40_22 rfl lk173 rfl (tyX9_ok 22 (by decide)) rfl rfl dX9_becomes_97 (fun H locs hw hS => ?_)
      obtain ⟨X46, hX46⟩ : ∃ Xq, Xq = u3 X43 40 0 22 ((X 40 0 22) + 1) := ⟨_, rfl⟩
      rw [← hX46] at hw
      have hRX46 : Rng X46 := by rw [hX46]; exact rng_set hRX43 (show 0 ≤ ((X 40 0 22) + 1) ∧ ((X 40 0 22) + 1) ≤ 80 by omega)
      have hVX46 : X46 40 0 22 = ((X 40 0 22) + 1) := by rw [hX46]; exact u3_s _ _ _ _ _
      have hFX46 : Frm [6400, 6500, 6700, 6800, 6600, 4023, 5600] X X46 := by rw [hX46]; exact Frm.set hFX43 (show 4023 ∈ [6400, 6500, 6700, 6800, 6600, 4023, 5600] by decide)
      refine lv_aload_n hx hb dX9_becomes_100 rfl (lv_at hl 0 rfl) ?_
      refine x_geto hx hb hf9 hw (by first | exact Int.le_refl 0 | omega) (by first | exact zlt hc40 | omega) sl_40_15 lk48 dX9_becomes_101 ?_
      refine lv_iconst (v := jI 5) hx hb dX9_becomes_104 rfl ?_
      refine lv_iload_n hx hb dX9_becomes_105 rfl (lv_at hl 1 rfl) ?_
      refine x_imul hx hb dX9_becomes_106 ?_
      refine lv_iload_n hx hb dX9_becomes_107 rfl (lv_at hl 2 rfl) ?_
      refine x_iadd hx hb dX9_becomes_108 ?_
      refine lv_lload_n hx hb dX9_becomes_109 rfl (lv_at hl 3 rfl) ?_
      refine x_last hx hb hK.1 hw hS (by first | exact Int.le_refl 0 | omega) (by first | exact zlt hc56 | omega) ar_56 (len_E ar_56 (by decide)) (by omega) (by omega) (by omega) dX9_becomes_110 (fun H locs hw hS => ?_)
      obtain ⟨X47, hX47⟩ : ∃ Xq, Xq = u3 X46 56 0 ((5 * x) + k) v := ⟨_, rfl⟩
      rw [← hX47] at hw
      have hRX47 : Rng X47 := by rw [hX47]; exact rng_set hRX46 (show (-9223372036854775808) ≤ v ∧ v ≤ 9223372036854775807 by omega)
      have hVX47 : X47 56 0 ((5 * x) + k) = v := by rw [hX47]; exact u3_s _ _ _ _ _
      have hFX47 : Frm [6400, 6500, 6700, 6800, 6600, 4023, 5600] X X47 := by rw [hX47]; exact Frm.set hFX46 (show 5600 ∈ [6400, 6500, 6700, 6800, 6600, 4023, 5600] by decide)
      rw [hQ9]
      refine ret_v (mc := 0) (ms := 0) hx hb hr hlocks hw hS (by first | exact Nat.le_of_ble_eq_true rfl | omega) (by first | exact Nat.le_of_ble_eq_true rfl | omega) dX9_becomes_111 ?_
      have q49 : Frm [4001, 6400, 6500, 6600, 6700, 6800, 4023, 5900] X X5 := by rw [hX5]; exact Frm.set Frm.rf (show 6400 ∈ [4001, 6400, 6500, 6600, 6700, 6800, 4023, 5900] by decide)
      have q50 : Frm [4001, 6400, 6500, 6600, 6700, 6800, 4023, 5900] X X8 := by rw [hX8]; exact Frm.set q49 (show 6500 ∈ [4001, 6400, 6500, 6600, 6700, 6800, 4023, 5900] by decide)
      have q51 : Frm [4001, 6400, 6500, 6600, 6700, 6800, 4023, 5900] X X11 := by rw [hX11]; exact Frm.set q50 (show 6700 ∈ [4001, 6400, 6500, 6600, 6700, 6800, 4023, 5900] by decide)
      have q52 : Frm [4001, 6400, 6500, 6600, 6700, 6800, 4023, 5900] X X16 := by rw [hX16]; exact Frm.set q51 (show 6800 ∈ [4001, 6400, 6500, 6600, 6700, 6800, 4023, 5900] by decide)
      have q53 : Frm [4001, 6400, 6500, 6600, 6700, 6800, 4023, 5900] X X43 := by rw [hX43]; exact Frm.set q52 (show 6600 ∈ [4001, 6400, 6500, 6600, 6700, 6800, 4023, 5900] by decide)
      have q54 : Frm [4001, 6400, 6500, 6600, 6700, 6800, 4023, 5900] X X46 := by rw [hX46]; exact Frm.set q53 (show 4023 ∈ [4001, 6400, 6500, 6600, 6700, 6800, 4023, 5900] by decide)
      have hMn48 : MInv X46 := minv_note (th := x) (fd := k) (rw := 0) (it := -1) (ws := X 56 0 (5 * x + k)) hMI (by omega) q54 (by exact hVX46) (fun j hj => ⟨(by rw [hX46, u3_k _ _ _ _ (by decide), hX43, u3_k _ _ _ _ (by decide), hX16, u3_k _ _ _ _ (by decide), hX11, u3_k _ _ _ _ (by decide), hX8, u3_k _ _ _ _ (by decide), hX5, u3_j _ _ _ _ (by omega)]), (by rw [hX46, u3_k _ _ _ _ (by decide), hX43, u3_k _ _ _ _ (by decide), hX16, u3_k _ _ _ _ (by decide), hX11, u3_k _ _ _ _ (by decide), hX8, u3_j _ _ _ _ (by omega), hX5, u3_k _ _ _ _ (by decide)]), (by rw [hX46, u3_k _ _ _ _ (by decide), hX43, u3_j _ _ _ _ (by omega), hX16, u3_k _ _ _ _ (by decide), hX11, u3_k _ _ _ _ (by decide), hX8, u3_k _ _ _ _ (by decide), hX5, u3_k _ _ _ _ (by decide)]), (by rw [hX46, u3_k _ _ _ _ (by decide), hX43, u3_k _ _ _ _ (by decide), hX16, u3_k _ _ _ _ (by decide), hX11, u3_j _ _ _ _ (by omega), hX8, u3_k _ _ _ _ (by decide), hX5, u3_k _ _ _ _ (by decide)]), (by rw [hX46, u3_k _ _ _ _ (by decide), hX43, u3_k _ _ _ _ (by decide), hX16, u3_j _ _ _ _ (by omega), hX11, u3_k _ _ _ _ (by decide), hX8, u3_k _ _ _ _ (by decide), hX5, u3_k _ _ _ _ (by decide)])⟩) (by rw [hX46, u3_k _ _ _ _ (by decide), hX43, u3_k _ _ _ _ (by decide), hX16, u3_k _ _ _ _ (by decide)]; exact hVX11) ⟨fun _ => ⟨(by rw [hX46, u3_k _ _ _ _ (by decide), hX43, u3_k _ _ _ _ (by decide), hX16, u3_k _ _ _ _ (by decide), hX11, u3_k _ _ _ _ (by decide), hX8, u3_k _ _ _ _ (by decide)]; exact hVX5), (by rw [hX46, u3_k _ _ _ _ (by decide), hX43, u3_k _ _ _ _ (by decide), hX16, u3_k _ _ _ _ (by decide), hX11, u3_k _ _ _ _ (by decide)]; exact hVX8), (by rw [hX46, u3_k _ _ _ _ (by decide), hX43, u3_k _ _ _ _ (by decide)]; exact hVX16), by omega, by omega, hMI.1 x k (by omega) (by omega) (by omega) (by omega)⟩, fun q => by omega⟩
      have e55 : X46 40 0 13 = X 40 0 13 := by rw [hX46, u3_j _ _ _ _ (by decide), hX43, u3_k _ _ _ _ (by decide), hX16, u3_k _ _ _ _ (by decide), hX11, u3_k _ _ _ _ (by decide), hX8, u3_k _ _ _ _ (by decide), hX5, u3_k _ _ _ _ (by decide)]
      have e56 : ∀ j : Int, X46 44 0 j = X 44 0 j := fun j => by rw [hX46, u3_k _ _ _ _ (by decide), hX43, u3_k _ _ _ _ (by decide), hX16, u3_k _ _ _ _ (by decide), hX11, u3_k _ _ _ _ (by decide), hX8, u3_k _ _ _ _ (by decide), hX5, u3_k _ _ _ _ (by decide)]
      have e57 : ∀ j : Int, X46 46 0 j = X 46 0 j := fun j => by rw [hX46, u3_k _ _ _ _ (by decide), hX43, u3_k _ _ _ _ (by decide), hX16, u3_k _ _ _ _ (by decide), hX11, u3_k _ _ _ _ (by decide), hX8, u3_k _ _ _ _ (by decide), hX5, u3_k _ _ _ _ (by decide)]
      have e58 : ∀ j : Int, X46 55 0 j = X 55 0 j := fun j => by rw [hX46, u3_k _ _ _ _ (by decide), hX43, u3_k _ _ _ _ (by decide), hX16, u3_k _ _ _ _ (by decide), hX11, u3_k _ _ _ _ (by decide), hX8, u3_k _ _ _ _ (by decide), hX5, u3_k _ _ _ _ (by decide)]
      exact ⟨X47, rfl, hRX47, hFX47, by rw [hX47]; exact minv_xval hMn48 hRX46 (by omega) (by simp only [e55, e56, e57, e58]; omega) (by omega) (by simp only [e55, e56, e57, e58]; omega) (by simp only [e55, e56, e57, e58]; exact htv), by omega, Or.inr ⟨by omega, (by rw [hX47, u3_k _ _ _ _ (by decide)]; exact hVX46), ⟨(by rw [hX47, u3_k _ _ _ _ (by decide), hX46, u3_k _ _ _ _ (by decide), hX43, u3_k _ _ _ _ (by decide), hX16, u3_k _ _ _ _ (by decide), hX11, u3_k _ _ _ _ (by decide), hX8, u3_k _ _ _ _ (by decide)]; exact hVX5), (by rw [hX47, u3_k _ _ _ _ (by decide), hX46, u3_k _ _ _ _ (by decide), hX43, u3_k _ _ _ _ (by decide), hX16, u3_k _ _ _ _ (by decide), hX11, u3_k _ _ _ _ (by decide)]; exact hVX8), (by rw [hX47, u3_k _ _ _ _ (by decide), hX46, u3_k _ _ _ _ (by decide)]; rw [hVX43]; split <;> omega), (by rw [hX47, u3_k _ _ _ _ (by decide), hX46, u3_k _ _ _ _ (by decide), hX43, u3_k _ _ _ _ (by decide), hX16, u3_k _ _ _ _ (by decide)]; exact hVX11), (by rw [hX47, u3_k _ _ _ _ (by decide), hX46, u3_k _ _ _ _ (by decide), hX43, u3_k _ _ _ _ (by decide)]; exact hVX16)⟩, fun y hy => ⟨(by rw [hX47, u3_k _ _ _ _ (by decide), hX46, u3_k _ _ _ _ (by decide), hX43, u3_k _ _ _ _ (by decide), hX16, u3_k _ _ _ _ (by decide), hX11, u3_k _ _ _ _ (by decide), hX8, u3_k _ _ _ _ (by decide), hX5, u3_j _ _ _ _ hy]), (by rw [hX47, u3_k _ _ _ _ (by decide), hX46, u3_k _ _ _ _ (by decide), hX43, u3_k _ _ _ _ (by decide), hX16, u3_k _ _ _ _ (by decide), hX11, u3_k _ _ _ _ (by decide), hX8, u3_j _ _ _ _ hy, hX5, u3_k _ _ _ _ (by decide)]), (by rw [hX47, u3_k _ _ _ _ (by decide), hX46, u3_k _ _ _ _ (by decide), hX43, u3_j _ _ _ _ hy, hX16, u3_k _ _ _ _ (by decide), hX11, u3_k _ _ _ _ (by decide), hX8, u3_k _ _ _ _ (by decide), hX5, u3_k _ _ _ _ (by decide)]), (by rw [hX47, u3_k _ _ _ _ (by decide), hX46, u3_k _ _ _ _ (by decide), hX43, u3_k _ _ _ _ (by decide), hX16, u3_k _ _ _ _ (by decide), hX11, u3_j _ _ _ _ hy, hX8, u3_k _ _ _ _ (by decide), hX5, u3_k _ _ _ _ (by decide)]), (by rw [hX47, u3_k _ _ _ _ (by decide), hX46, u3_k _ _ _ _ (by decide), hX43, u3_k _ _ _ _ (by decide), hX16, u3_j _ _ _ _ hy, hX11, u3_k _ _ _ _ (by decide), hX8, u3_k _ _ _ _ (by decide), hX5, u3_k _ _ _ _ (by decide)])⟩⟩, (by exact hVX47), fun y hy => (by rw [hX47, u3_j _ _ _ _ hy, hX46, u3_k _ _ _ _ (by decide), hX43, u3_k _ _ _ _ (by decide), hX16, u3_k _ _ _ _ (by decide), hX11, u3_k _ _ _ _ (by decide), hX8, u3_k _ _ _ _ (by decide), hX5, u3_k _ _ _ _ (by decide)])⟩
