set_option maxHeartbeats 4000000 in
set_option maxRecDepth 100000 in
theorem c_X8_drop (l : Launch) (D : va_G) (tc : Nat → ClassId) (base : Nat) (ad : Nat → Int → Nat) (cnt : Nat → Int) (X : Nat → Int → Int → Int) (Y : Nat → Int → Int → Option Int) (ln : Int → Int) (hR : Rng X) (hFx : Fx cnt) (hLn : LnOK ln) (hCI : CInv cnt X Y ln) (t k : Int) (ht : -2147483648 ≤ t ∧ t ≤ 2147483647) (hk : -2147483648 ≤ k ∧ k ≤ 2147483647) : KI l D tc base yX8_drop wsX8_drop ({ frames := 2, cells := 0, slots := 0, locals := 42 } : Room) [.ref (ad 0 0), .int (jI t), .int (jI k)] (ad, cnt, X, Y, ln) 0 0 (fun z u => ∃ (X1 : Nat → Int → Int → Int) (Y1 : Nat → Int → Int → Option Int), u = (ad, cnt, X1, Y1, ln) ∧ Rng X1 ∧ Frm [1902, 2000, 2100, 2200, 2300, 1600] X X1 ∧ Frm [1700] Y Y1 ∧ CInv cnt X1 Y1 ln ∧ (-2147483648 ≤ z ∧ z ≤ 2147483647) ∧ ((¬ (0 ≤ t ∧ t < X 0 0 1 ∧ 0 ≤ k ∧ k < X 19 t 1) ∧ z = -1 ∧ X1 19 t 1 = X 19 t 1) ∨ (0 ≤ t ∧ t < X 0 0 1 ∧ 0 ≤ k ∧ k < X 19 t 1 ∧ 0 < X 29 0 3 ∧ z = -3 ∧ X1 19 t 1 = X 19 t 1) ∨ (0 ≤ t ∧ t < X 0 0 1 ∧ 0 ≤ k ∧ k < X 19 t 1 ∧ X 29 0 3 = 0 ∧ z = X 19 t 1 - 1 ∧ X1 19 t 1 = X 19 t 1 - 1)) ∧ (0 ≤ z → Sh 20 X X1 t k (X 19 t 1 - 1) ∧ Sh 21 X X1 t k (X 19 t 1 - 1) ∧ Sh 22 X X1 t k (X 19 t 1 - 1) ∧ Sh 23 X X1 t k (X 19 t 1 - 1)) ∧ (z < 0 → ∀ y j, X1 20 y j = X 20 y j ∧ X1 21 y j = X 21 y j ∧ X1 22 y j = X 22 y j ∧ X1 23 y j = X 23 y j) ∧ (∀ y, y ≠ t → X1 19 y 1 = X 19 y 1) ∧ (0 ≤ z → (∀ y, 0 ≤ y → y < X 0 0 3 → Y 15 y 0 = some t → ∀ j, X1 16 y j = (if k ≤ j ∧ j < 4 then X 16 y (j + 1) else X 16 y j) ∧ Y1 17 y j = (if k ≤ j ∧ j < 4 then Y 17 y (j + 1) else Y 17 y j)) ∧ ∀ y j, 0 ≤ y → y < X 0 0 3 → ¬ (Y 15 y 0 = some t) → X1 16 y j = X 16 y j ∧ Y1 17 y j = Y 17 y j) ∧ (z < 0 → X1 = X ∧ Y1 = Y)) := by
  refine K_of (cc := cX8_drop) (maxL := 5) (ret := (some .int)) (by decide) rfl (Nat.le_of_ble_eq_true rfl) ?_
  intro p e s m below meth c ls hx hb hr hml hown hts hlocks hl hK hw hS
  have hown : s.vm.findClass RX8 = some m.cls := hown
  obtain ⟨av9, hav9⟩ : ∃ a9 : Array Value, a9 = ([.ref (ad 0 0), .int (jI t), .int (jI k)] : List Value).toArray := ⟨_, rfl⟩
  rw [← hav9] at hts ⊢
  obtain ⟨Q9, hQ9⟩ : ∃ q9Q : State → Prop, q9Q = MQ below (QI D tc base (fun z u => ∃ (X1 : Nat → Int → Int → Int) (Y1 : Nat → Int → Int → Option Int), u = (ad, cnt, X1, Y1, ln) ∧ Rng X1 ∧ Frm [1902, 2000, 2100, 2200, 2300, 1600] X X1 ∧ Frm [1700] Y Y1 ∧ CInv cnt X1 Y1 ln ∧ (-2147483648 ≤ z ∧ z ≤ 2147483647) ∧ ((¬ (0 ≤ t ∧ t < X 0 0 1 ∧ 0 ≤ k ∧ k < X 19 t 1) ∧ z = -1 ∧ X1 19 t 1 = X 19 t 1) ∨ (0 ≤ t ∧ t < X 0 0 1 ∧ 0 ≤ k ∧ k < X 19 t 1 ∧ 0 < X 29 0 3 ∧ z = -3 ∧ X1 19 t 1 = X 19 t 1) ∨ (0 ≤ t ∧ t < X 0 0 1 ∧ 0 ≤ k ∧ k < X 19 t 1 ∧ X 29 0 3 = 0 ∧ z = X 19 t 1 - 1 ∧ X1 19 t 1 = X 19 t 1 - 1)) ∧ (0 ≤ z → Sh 20 X X1 t k (X 19 t 1 - 1) ∧ Sh 21 X X1 t k (X 19 t 1 - 1) ∧ Sh 22 X X1 t k (X 19 t 1 - 1) ∧ Sh 23 X X1 t k (X 19 t 1 - 1)) ∧ (z < 0 → ∀ y j, X1 20 y j = X 20 y j ∧ X1 21 y j = X 21 y j ∧ X1 22 y j = X 22 y j ∧ X1 23 y j = X 23 y j) ∧ (∀ y, y ≠ t → X1 19 y 1 = X 19 y 1) ∧ (0 ≤ z → (∀ y, 0 ≤ y → y < X 0 0 3 → Y 15 y 0 = some t → ∀ j, X1 16 y j = (if k ≤ j ∧ j < 4 then X 16 y (j + 1) else X 16 y j) ∧ Y1 17 y j = (if k ≤ j ∧ j < 4 then Y 17 y (j + 1) else Y 17 y j)) ∧ ∀ y j, 0 ≤ y → y < X 0 0 3 → ¬ (Y 15 y 0 = some t) → X1 16 y j = X 16 y j ∧ Y1 17 y j = Y 17 y j) ∧ (z < 0 → X1 = X ∧ Y1 = Y))) av9 s 0 0 (frA base) := ⟨_, rfl⟩
  rw [← hQ9]
  have hi2 : ∀ w ∈ wsX20, w ∈ wsX8_drop := fun w h => List.mem_cons_of_mem _ (List.mem_append_left _ (List.mem_append_left _ (List.mem_append_right _ h)))
  have hf2 : fctx s m _ RX8 wsX8_drop D tc RX2 TX2 4 2 := ⟨hts, hi2, hown, hK.1, rfl⟩
  have hi6 : ∀ w ∈ wsX60, w ∈ wsX8_drop := fun w h => List.mem_cons_of_mem _ (List.mem_append_left _ (List.mem_append_right _ h))
  have hf6 : fctx s m _ RX8 wsX8_drop D tc RX6 TX6 4 6 := ⟨hts, hi6, hown, hK.1, rfl⟩
  have hi7 : ∀ w ∈ wsX70, w ∈ wsX8_drop := fun w h => List.mem_cons_of_mem _ (List.mem_append_right _ h)
  have hf7 : fctx s m _ RX8 wsX8_drop D tc RX7 TX7 8 7 := ⟨hts, hi7, hown, hK.1, rfl⟩
  have hi8 : ∀ w ∈ wsX80, w ∈ wsX8_drop := fun w h => List.mem_cons_of_mem _ (List.mem_append_left _ (List.mem_append_left _ (List.mem_append_left _ (List.mem_append_right _ h))))
  have hf8 : fctx s m _ RX8 wsX8_drop D tc RX8 TX8 12 8 := ⟨hts, hi8, hown, hK.1, rfl⟩
  have lk17 := hts (.fieldLink RX8 17 (TX8 2).1 (TX8 2).2.1 (TX8 2).2.2.1) (gj_X8_drop_0 _ (gp_1 (gp_1 (gp_1 gp_h))))
  have lk51 := hts (.fieldLink RX8 51 (TX8 10).1 (TX8 10).2.1 (TX8 10).2.2.1) (gj_X8_drop_0 _ (gp_h))
  have lk82 := hts (.fieldLink RX8 82 (TX2 3).1 (TX2 3).2.1 (TX2 3).2.2.1) (gj_X8_drop_0 _ (gp_1 gp_h))
  have lk85 := hts (.fieldLink RX8 85 (TX7 1).1 (TX7 1).2.1 (TX7 1).2.2.1) (gj_X8_drop_0 _ (gp_4 (gp_1 gp_h)))
  have lk94 := hts (.fieldLink RX8 94 (TX8 3).1 (TX8 3).2.1 (TX8 3).2.2.1) (gj_X8_drop_0 _ (gp_1 (gp_1 gp_h)))
  have lk97 := hts (.fieldLink RX8 97 (TX6 0).1 (TX6 0).2.1 (TX6 0).2.2.1) (gj_X8_drop_0 _ (gp_4 gp_h))
  have hc0 : cnt 0 = 1 := hFx.at 0 1 (by decide)
  have hc2 : cnt 2 = 1 := hFx.at 2 1 (by decide)
  have hc15 : cnt 15 = 30 := hFx.at 15 30 (by decide)
  have hc29 : cnt 29 = 1 := hFx.at 29 1 (by decide)
  have hl : lv_has ls 5 [(0, .ref (ad 0 0)), (1, .int (jI t)), (2, .int (jI k))] := hl
  have ftc : 0 ≤ X 0 0 3 ∧ X 0 0 3 ≤ 30 := hR 0 0 3
  have fty : 0 ≤ X 0 0 1 ∧ X 0 0 1 ≤ 8 := hR 0 0 1
  have hct : cnt 19 = X 0 0 1 := hCI.2.2.2.1.1
  have hfj : 0 ≤ X 29 0 3 ∧ X 29 0 3 ≤ 4 := hR 29 0 3
  have hfn : 0 ≤ X 29 0 1 ∧ X 29 0 1 ≤ 80 := hR 29 0 1
  refine lv_aload_n hx hb dX8_drop_0 rfl (lv_at hl 0 rfl) ?_
  refine lv_iload_n hx hb dX8_drop_1 rfl (lv_at hl 1 rfl) ?_
  refine gos_r (run_V (As := [.int (jI t)]) (rest := []) hx hb hml hown hts (c_X8_typeNumbered l D tc base ad cnt X Y ln hR hFx hLn hCI t (by omega)) (cwV 1 hts gX8_drop_X8_typeNumbered rfl rfl rfl (by first | exact hd_X8_typeNumbered | decide +kernel) ⟨Nat.le_of_ble_eq_true rfl, Nat.le_of_ble_eq_true rfl⟩) hK hw (by first | exact Int.le_refl 0 | omega) (by first | exact zlt hc0 | omega) sl_0_0 rfl rfl hl.1 rfl (Nat.le_of_ble_eq_true rfl) dX8_drop_2 ⟨Nat.le_of_ble_eq_true rfl, Nat.le_of_ble_eq_true rfl⟩) hS (fun u2 H locs p3 hw hS => ?_) (fun z1 u2 H locs p3 hw hS => ?_)
  · obtain ⟨eu2, hsp3, hnp3⟩ := p3
    subst eu2
    refine lv_astore_nN (lv' := [(3, .null), (0, .ref (ad 0 0)), (1, .int (jI t)), (2, .int (jI k))]) hx hb dX8_drop_5 rfl hl (by decide) rfl (fun ls hl => ?_)
    refine lv_aload_nN hx hb dX8_drop_6 rfl (lv_at hl 0 rfl) ?_
    refine lv_ifnullN (tgt := 18) hx hb dX8_drop_7 (by decide) ?_
    refine lv_iconst (v := jI (-1)) hx hb dX8_drop_18 rfl ?_
    rw [hQ9]
    refine ret_i (mc := 0) (ms := 0) hx hb hr hlocks hw hS (by first | exact Nat.le_of_ble_eq_true rfl | omega) (by first | exact Nat.le_of_ble_eq_true rfl | omega) dX8_drop_19 ?_
    exact ⟨X, Y, rfl, hR, Frm.rf, Frm.rf, hCI, by omega, (by have h9n : ¬ (0 ≤ t ∧ t < X 0 0 1) := hnp3 rfl; (try delta Hid at *); omega), fun h => (by exfalso; omega), fun _ y j => ⟨rfl, rfl, rfl, rfl⟩, fun y h => rfl, fun q => (by exfalso; omega), fun _ => ⟨rfl, rfl⟩⟩
  · obtain ⟨eu2, hsp3, hnp3⟩ := p3
    subst eu2
    obtain ⟨ezz1, p3⟩ := hsp3 z1 rfl
    refine lv_astore_n (lv' := [(3, .ref (ad 19 z1)), (0, .ref (ad 0 0)), (1, .int (jI t)), (2, .int (jI k))]) hx hb dX8_drop_5 rfl hl (by decide) rfl (fun ls hl => ?_)
    refine lv_aload_n hx hb dX8_drop_6 rfl (lv_at hl 0 rfl) ?_
    refine lv_ifnull hx hb dX8_drop_7 ?_
    refine lv_aload_n hx hb dX8_drop_10 rfl (lv_at hl 0 rfl) ?_
    refine lv_iload_n hx hb dX8_drop_11 rfl (lv_at hl 3 rfl) ?_
    refine gos_i (run_V (As := [.int (jI k)]) (rest := []) hx hb hml hown hts (c_X7_hasField l D tc base ad cnt X Y ln hR hFx hLn z1 k (by omega) (by omega)) (cwV 1 hts gX8_drop_X7_hasField rfl rfl rfl (by first | exact hd_X7_hasField | decide +kernel) ⟨Nat.le_of_ble_eq_true rfl, Nat.le_of_ble_eq_true rfl⟩) hK hw (by first | exact Int.le_refl 0 | omega) (by first | exact zlt hc19 | omega) sl_19_0 rfl rfl hl.1 rfl (Nat.le_of_ble_eq_true rfl) dX8_drop_12 ⟨Nat.le_of_ble_eq_true rfl, Nat.le_of_ble_eq_true rfl⟩) hS (fun z4 u5 H locs p6 hw hS => ?_)
    obtain ⟨eu5, p6⟩ := p6
    subst eu5
    rcases p6 with ⟨ez4, p6⟩ | ⟨ez4, p6⟩
    · subst ez4
      refine x_if_neT (tgt := 20) hx hb (by omega) (by decide) dX8_drop_15 (by decide) ?_
      refine lv_aload_n hx hb dX8_drop_20 rfl (lv_at hl 1 rfl) ?_
      refine x_geto hx hb hf8 hw (by first | exact Int.le_refl 0 | omega) (by first | exact zlt hc0 | omega) sl_0_10 lk51 dX8_drop_21 ?_
      refine x_geti (jz := 3) hx hb hf2 hw (by first | exact Int.le_refl 0 | omega) (by first | exact zlt hc29 | omega) sl_29_3 rfl lk82 dX8_drop_24 ?_
      have f7 : 0 ≤ X 29 0 3 ∧ X 29 0 3 ≤ 4 := hR 29 0 3
      refine x_if_le (tgt := 33) hx hb (by omega) dX8_drop_27 (by decide) (fun c8 => ?_) (fun c8 => ?_)
      · refine lv_aload_n hx hb dX8_drop_33 rfl (lv_at hl 0 rfl) ?_
        refine lv_iload_n hx hb dX8_drop_34 rfl (lv_at hl 3 rfl) ?_
        refine gos_v (run_V (As := [.int (jI k)]) (rest := []) hx hb hml hown hts (c_X7_removeField l D tc base ad cnt X Y ln hR hFx hLn hCI z1 k (by omega) (by omega)) (cwV 1 hts gX8_drop_X7_removeField rfl rfl rfl (by first | exact hd_X7_removeField | decide +kernel) ⟨Nat.le_of_ble_eq_true rfl, Nat.le_of_ble_eq_true rfl⟩) hK hw (by first | exact Int.le_refl 0 | omega) (by first | exact zlt hc19 | omega) sl_19_0 rfl rfl hl.1 rfl (Nat.le_of_ble_eq_true rfl) dX8_drop_35 ⟨Nat.le_of_ble_eq_true rfl, Nat.le_of_ble_eq_true rfl⟩) hS (fun u10 H locs p11 hw hS => ?_)
        obtain ⟨X12, eu10, hRX12, hG13, hCIX12, p11, hrfX12, hryX12, h20X12, h21X12, h22X12, h23X12⟩ := p11
        subst eu10
        have hFX12 : Frm [1902, 2000, 2100, 2200, 2300, 1600] X X12 := Frm.tr Frm.rf (Frm.mono hG13 (by decide))
        refine lv_iconst (v := jI 0) hx hb dX8_drop_38 rfl ?_
        refine lv_istore (lv' := [(4, .int (jI 0)), (3, .ref (ad 19 z1)), (0, .ref (ad 0 0)), (1, .int (jI t)), (2, .int (jI k))]) hx hb dX8_drop_39 hl (by decide) rfl (fun ls hl => ?_)
        have lp41 : ∀ (nn : Nat) (x : Int) (Xa : Nat → Int → Int → Int) (Ya : Nat → Int → Int → Option Int) (H : Heap) (locs : List Loc) (ls : Array Slot), (30 - x) < (nn : Int) → (Rng Xa) → (Frm [1600] X12 Xa) → (Frm [1700] Y Ya) → (0 ≤ x ∧ x ≤ 30) → (CInv cnt Xa Ya ln) → (DrC X Xa Y Ya z1 k x) → wd D tc base (ad, cnt, Xa, Ya, ln) H → va_S (frA base) s.heap H locs → lv_has ls 5 [(0, .ref (ad 0 0)), (1, .int (jI t)), (2, .int (jI k)), (3, .ref (ad 19 z1)), (4, .int (jI x))] → W p l e ({ frames := 2, cells := 0, slots := 0, locals := 42 } : Room) s m av9 below meth c H locs 0 0 Q9 (F0 m 41 ls []) := by
          intro nn
          induction nn with
          | zero => intro x Xa Ya H locs ls hm hRXa hGXa hGYa hx8 hCIXa hDr hw hS hl; exfalso; omega
          | succ nn ih41 =>
            intro x Xa Ya H locs ls hm hRXa hGXa hGYa hx8 hCIXa hDr hw hS hl
            have hHYa : Frm [1700] Y Ya := Frm.tr Frm.rf (Frm.mono hGYa (by decide))
            have hFXa : Frm [1902, 2000, 2100, 2200, 2300, 1600] X Xa := Frm.tr hFX12 (Frm.mono hGXa (by decide))
            refine lv_iload hx hb dX8_drop_41 (lv_at hl 4 rfl) ?_
            refine lv_aload_n hx hb dX8_drop_43 rfl (lv_at hl 0 rfl) ?_
            refine x_geti (jz := 3) hx hb hf8 hw (by first | exact Int.le_refl 0 | omega) (by first | exact zlt hc0 | omega) sl_0_3 rfl lk94 dX8_drop_44 ?_
            have e14 : Xa 0 0 3 = X 0 0 3 := by rw [hGXa 0 0 3 (show 4 ∉ [1600] by decide), hG13 0 0 3 (show 4 ∉ [1902, 2000, 2100, 2200, 2300] by decide)]
            rw [e14]
            have f15 : 0 ≤ X 0 0 3 ∧ X 0 0 3 ≤ 30 := hR 0 0 3
            refine x_icmp_ge (tgt := 81) hx hb (by omega) (by omega) dX8_drop_47 (by decide) (fun c16 => ?_) (fun c16 => ?_)
            · refine lv_aload_n hx hb dX8_drop_81 rfl (lv_at hl 3 rfl) ?_
              refine x_geti (jz := 1) hx hb hf7 hw (by omega) (by omega) sl_19_1 rfl lk85 dX8_drop_82 ?_
              have e17 : Xa 19 z1 1 = X12 19 z1 1 := by rw [hGXa 19 z1 1 (show 1902 ∉ [1600] by decide)]
              rw [e17]
              have f18 : 0 ≤ X12 19 z1 1 ∧ X12 19 z1 1 ≤ 5 := hRX12 19 z1 1
              rw [hQ9]
              refine ret_i (mc := 0) (ms := 0) hx hb hr hlocks hw hS (by first | exact Nat.le_of_ble_eq_true rfl | omega) (by first | exact Nat.le_of_ble_eq_true rfl | omega) dX8_drop_85 ?_
              have e19 : Xa 19 z1 1 = X12 19 z1 1 := (by rw [hGXa 19 z1 1 (show 1902 ∉ [1600] by decide)])
              exact ⟨Xa, Ya, rfl, hRXa, hFXa, hHYa, hCIXa, by omega, (by rw [← ezz1]; (try delta Hid at *); omega), fun h => ⟨(by rw [← ezz1]; exact Sh.of h20X12 (by rw [(funext fun y9 => funext fun j9 => hGXa 20 y9 j9 (show 2000 ∉ [1600] by decide) : Xa 20 = X12 20)])), (by rw [← ezz1]; exact Sh.of h21X12 (by rw [(funext fun y9 => funext fun j9 => hGXa 21 y9 j9 (show 2100 ∉ [1600] by decide) : Xa 21 = X12 21)])), (by rw [← ezz1]; exact Sh.of h22X12 (by rw [(funext fun y9 => funext fun j9 => hGXa 22 y9 j9 (show 2200 ∉ [1600] by decide) : Xa 22 = X12 22)])), (by rw [← ezz1]; exact Sh.of h23X12 (by rw [(funext fun y9 => funext fun j9 => hGXa 23 y9 j9 (show 2300 ∉ [1600] by decide) : Xa 23 = X12 23)]))⟩, fun h => (by exfalso; omega), fun y h => (by rw [hGXa 19 y 1 (show 1902 ∉ [1600] by decide)]; exact hryX12 y (by omega)), fun _ => (by rw [← ezz1]; exact ⟨fun y a b c => hDr.1 y a (by omega) c, fun y j a b c => hDr.2 y (fun q9 => c q9.2.2) j⟩), fun q => (by exfalso; omega)⟩
            · refine lv_aload_n hx hb dX8_drop_50 rfl (lv_at hl 0 rfl) ?_
              refine x_geto hx hb hf8 hw (by first | exact Int.le_refl 0 | omega) (by first | exact zlt hc0 | omega) sl_0_2 lk17 dX8_drop_51 ?_
              refine lv_iload hx hb dX8_drop_54 (lv_at hl 4 rfl) ?_
              refine x_aald hx hb hK.1 hw (by first | exact Int.le_refl 0 | omega) (by first | exact zlt hc2 | omega) ar_2 rfl (len_E ar_2 (by decide)) (by omega) (by omega) (by omega) dX8_drop_56 (fun y20 => ?_) (fun r21 y20 gr21 lr21 => ?_)
              · exfalso
                have e22 : ∀ p9 q9 : Int, Ya 2 p9 q9 = Y 2 p9 q9 := fun p9 q9 => by rw [hGYa 2 p9 q9 (show 200 ∉ [1700] by decide)]
                rw [e22] at y20
                have h9 := hCI.1 x (by omega) (by omega); rw [h9] at y20; cases y20
              · have e23 : ∀ p9 q9 : Int, Ya 2 p9 q9 = Y 2 p9 q9 := fun p9 q9 => by rw [hGYa 2 p9 q9 (show 200 ∉ [1700] by decide)]
                rw [e23] at y20
                have er21 : r21 = x := by have h9 := hCI.1 x (by omega) (by omega); rw [h9] at y20; cases y20; rfl
                rw [er21]
                refine x_getr (jz := 0) hx hb hf6 hw (by omega) (by omega) sl_15_0 rfl lk97 dX8_drop_57 (fun y24 => ?_) (fun r25 y24 gr25 lr25 => ?_)
                · exfalso
                  have e26 : Ya 15 x 0 = Y 15 x 0 := by rw [hGYa 15 x 0 (show 1501 ∉ [1700] by decide)]
                  rw [e26] at y24
                  exact absurd y24 (hCI.2.2.2.2.1 x (by omega) (by omega))
                · have e27 : Ya 15 x 0 = Y 15 x 0 := by rw [hGYa 15 x 0 (show 1501 ∉ [1700] by decide)]
                  rw [e27] at y24
                  refine lv_aload_n hx hb dX8_drop_60 rfl (lv_at hl 3 rfl) ?_
                  refine lv_acmp_ne (rx := some (ad 19 r25)) (ry := some (ad 19 z1)) (tgt := 75) hx hb dX8_drop_61 (by decide) (fun c28 => ?_) (fun c28 => ?_)
                  · have c28 : ¬ r25 = z1 := fun q => c28 (by rw [q])
                    refine lv_iinc (v := jI (x + 1)) (lv' := [(4, .int (jI (x + 1))), (0, .ref (ad 0 0)), (1, .int (jI t)), (2, .int (jI k)), (3, .ref (ad 19 z1))]) hx hb dX8_drop_75 hl (k := 4) rfl (jI_add _ _) (by decide) rfl (fun ls hl => ?_)
                    refine lv_goto (tgt := 41) hx hb dX8_drop_78 (by decide) ?_
                    have q29 : Frm [1600] X12 Xa := Frm.tr Frm.rf (Frm.mono hGXa (by decide))
                    have q30 : Frm [1700] Y Ya := Frm.tr Frm.rf (Frm.mono hGYa (by decide))
                    exact ih41 (x + 1) Xa Ya _ _ _ (by omega) hRXa q29 q30 (by omega) (hCIXa) (DrC.no hDr (by rw [y24]; exact fun q9 => (by have h9 := Option.some.inj q9; omega))) hw hS (lv_sub hl [1, 2, 3, 4, 0] rfl)
                  · have c28 : r25 = z1 := (wd_inj hw (by omega) (by omega) (by omega) (by omega) (Option.some.inj c28)).2
                    refine lv_aload_n hx hb dX8_drop_64 rfl (lv_at hl 0 rfl) ?_
                    refine x_geto hx hb hf8 hw (by first | exact Int.le_refl 0 | omega) (by first | exact zlt hc0 | omega) sl_0_2 lk17 dX8_drop_65 ?_
                    refine lv_iload hx hb dX8_drop_68 (lv_at hl 4 rfl) ?_
                    refine x_aald hx hb hK.1 hw (by first | exact Int.le_refl 0 | omega) (by first | exact zlt hc2 | omega) ar_2 rfl (len_E ar_2 (by decide)) (by omega) (by omega) (by omega) dX8_drop_70 (fun y31 => ?_) (fun r32 y31 gr32 lr32 => ?_)
                    · exfalso
                      have e33 : ∀ p9 q9 : Int, Ya 2 p9 q9 = Y 2 p9 q9 := fun p9 q9 => by rw [hGYa 2 p9 q9 (show 200 ∉ [1700] by decide)]
                      rw [e33] at y31
                      have h9 := hCI.1 x (by omega) (by omega); rw [h9] at y31; cases y31
                    · have e34 : ∀ p9 q9 : Int, Ya 2 p9 q9 = Y 2 p9 q9 := fun p9 q9 => by rw [hGYa 2 p9 q9 (show 200 ∉ [1700] by decide)]
                      rw [e34] at y31
                      have er32 : r32 = x := by have h9 := hCI.1 x (by omega) (by omega); rw [h9] at y31; cases y31; rfl
                      rw [er32]
                      refine lv_iload_n hx hb dX8_drop_71 rfl (lv_at hl 2 rfl) ?_
                      refine gos_v (run_V (As := [.int (jI k)]) (rest := []) hx hb hml hown hts (c_X6_removeField l D tc base ad cnt Xa Ya ln hRXa hFx hLn hCIXa x k (by omega) (by omega)) (cwV 1 hts gX8_drop_X6_removeField rfl rfl rfl (by first | exact hd_X6_removeField | decide +kernel) ⟨Nat.le_of_ble_eq_true rfl, Nat.le_of_ble_eq_true rfl⟩) hK hw (by first | exact Int.le_refl 0 | omega) (by first | exact zlt hc15 | omega) sl_15_0 rfl rfl hl.1 rfl (Nat.le_of_ble_eq_true rfl) dX8_drop_72 ⟨Nat.le_of_ble_eq_true rfl, Nat.le_of_ble_eq_true rfl⟩) hS (fun u36 H locs p37 hw hS => ?_)
                      obtain ⟨X38, Y39, eu36, hRX38, hG40, hJ41, hCIX38, p37, hsxX38, hsyX38⟩ := p37
                      subst eu36
                      have hFX38 : Frm [1902, 2000, 2100, 2200, 2300, 1600] X X38 := Frm.tr hFXa (Frm.mono hG40 (by decide))
                      have hHY39 : Frm [1700] Y Y39 := Frm.tr hHYa (Frm.mono hJ41 (by decide))
                      refine lv_iinc (v := jI (x + 1)) (lv' := [(4, .int (jI (x + 1))), (0, .ref (ad 0 0)), (1, .int (jI t)), (2, .int (jI k)), (3, .ref (ad 19 z1))]) hx hb dX8_drop_75 hl (k := 4) rfl (jI_add _ _) (by decide) rfl (fun ls hl => ?_)
                      refine lv_goto (tgt := 41) hx hb dX8_drop_78 (by decide) ?_
                      have q42 : Frm [1600] X12 Xa := Frm.tr Frm.rf (Frm.mono hGXa (by decide))
                      have q43 : Frm [1600] X12 X38 := Frm.tr q42 (Frm.mono hG40 (by decide))
                      have q44 : Frm [1700] Y Ya := Frm.tr Frm.rf (Frm.mono hGYa (by decide))
                      have q45 : Frm [1700] Y Y39 := Frm.tr q44 (Frm.mono hJ41 (by decide))
                      exact ih41 (x + 1) X38 Y39 _ _ _ (by omega) hRX38 q43 q45 (by omega) (hCIX38) (DrC.yes hDr hsxX38 hsyX38 (fun y j => (by rfl)) (fun y j => (by rfl)) (by omega) (by rw [y24, show r25 = z1 by omega])) hw hS (lv_sub hl [1, 2, 3, 4, 0] rfl)
        exact lp41 (30 - 0 : Int).toNat.succ 0 X12 Y _ _ _ (by omega) hRX12 Frm.rf Frm.rf (by omega) (hCIX12) (DrC.in_ (fun y j => (by rw [hG13 16 y j (show 1600 ∉ [1902, 2000, 2100, 2200, 2300] by decide)])) (fun y j => (by rfl))) hw hS (lv_sub hl [2, 3, 4, 1, 0] rfl)
      · refine lv_bipush (v := jI (-3)) hx hb dX8_drop_30 (by decide) ?_
        rw [hQ9]
        refine ret_i (mc := 0) (ms := 0) hx hb hr hlocks hw hS (by first | exact Nat.le_of_ble_eq_true rfl | omega) (by first | exact Nat.le_of_ble_eq_true rfl | omega) dX8_drop_32 ?_
        exact ⟨X, Y, rfl, hR, Frm.rf, Frm.rf, hCI, by omega, (by rw [← ezz1]; (try delta Hid at *); omega), fun h => (by exfalso; omega), fun _ y j => ⟨rfl, rfl, rfl, rfl⟩, fun y h => rfl, fun q => (by exfalso; omega), fun _ => ⟨rfl, rfl⟩⟩
    · subst ez4
      refine x_if_neF (tgt := 20) hx hb (by omega) (by decide) dX8_drop_15 (by decide) ?_
      refine lv_iconst (v := jI (-1)) hx hb dX8_drop_18 rfl ?_
      rw [hQ9]
      refine ret_i (mc := 0) (ms := 0) hx hb hr hlocks hw hS (by first | exact Nat.le_of_ble_eq_true rfl | omega) (by first | exact Nat.le_of_ble_eq_true rfl | omega) dX8_drop_19 ?_
      exact ⟨X, Y, rfl, hR, Frm.rf, Frm.rf, hCI, by omega, (by rw [← ezz1]; (try delta Hid at *); omega), fun h => (by exfalso; omega), fun _ y j => ⟨rfl, rfl, rfl, rfl⟩, fun y h => rfl, fun q => (by exfalso; omega), fun _ => ⟨rfl, rfl⟩⟩
