set_option maxHeartbeats 4000000 in
set_option maxRecDepth 100000 in
theorem c_X9_thing (l : Launch) (D : va_G) (tc : Nat → ClassId) (base : Nat) (ad : Nat → Int → Nat) (cnt : Nat → Int) (X : Nat → Int → Int → Int) (Y : Nat → Int → Int → Option Int) (ln : Int → Int) (hR : Rng X) (hFx : Fx cnt) (hMI : MInv X) (t : Int) (ht : -2147483648 ≤ t ∧ t ≤ 2147483647) : KI l D tc base yX9_thing wsX9_thing ({ frames := 1, cells := 0, slots := 0, locals := 21 } : Room) [.ref (ad 40 0), .int (jI t)] (ad, cnt, X, Y, ln) 0 0 (fun z u => ∃ X1 : Nat → Int → Int → Int, u = (ad, cnt, X1, Y, ln) ∧ Rng X1 ∧ Frm [4001, 5500, 5600, 4014] X X1 ∧ MInv X1 ∧ (-2147483648 ≤ z ∧ z ≤ 2147483647) ∧ ((¬ (0 ≤ t ∧ t < X 40 0 2) ∧ z = -1) ∨ ((0 ≤ t ∧ t < X 40 0 2) ∧ X 40 0 13 = 30 ∧ z = -4) ∨ ((0 ≤ t ∧ t < X 40 0 2) ∧ X 40 0 13 < 30 ∧ z = X 40 0 13)) ∧ (z < 0 → Frm [4001] X X1) ∧ (0 ≤ z → X1 40 0 13 = X 40 0 13 + 1 ∧ X1 55 0 z = t ∧ (∀ y, y ≠ z → X1 55 0 y = X 55 0 y) ∧ (∀ q, 0 ≤ q → q < X 44 0 t → X1 56 0 (5 * z + q) = X 47 0 (5 * t + q)) ∧ ∀ j, j < 5 * z → X1 56 0 j = X 56 0 j)) := by
  refine K_of (cc := cX9_thing) (maxL := 3) (ret := (some .int)) (by decide) rfl (Nat.le_of_ble_eq_true rfl) ?_
  intro p e s m below meth c ls hx hb hr hml hown hts hlocks hl hK hw hS
  have hown : s.vm.findClass RX9 = some m.cls := hown
  obtain ⟨av9, hav9⟩ : ∃ a9 : Array Value, a9 = ([.ref (ad 40 0), .int (jI t)] : List Value).toArray := ⟨_, rfl⟩
  rw [← hav9] at hts ⊢
  obtain ⟨Q9, hQ9⟩ : ∃ q9Q : State → Prop, q9Q = MQ below (QI D tc base (fun z u => ∃ X1 : Nat → Int → Int → Int, u = (ad, cnt, X1, Y, ln) ∧ Rng X1 ∧ Frm [4001, 5500, 5600, 4014] X X1 ∧ MInv X1 ∧ (-2147483648 ≤ z ∧ z ≤ 2147483647) ∧ ((¬ (0 ≤ t ∧ t < X 40 0 2) ∧ z = -1) ∨ ((0 ≤ t ∧ t < X 40 0 2) ∧ X 40 0 13 = 30 ∧ z = -4) ∨ ((0 ≤ t ∧ t < X 40 0 2) ∧ X 40 0 13 < 30 ∧ z = X 40 0 13)) ∧ (z < 0 → Frm [4001] X X1) ∧ (0 ≤ z → X1 40 0 13 = X 40 0 13 + 1 ∧ X1 55 0 z = t ∧ (∀ y, y ≠ z → X1 55 0 y = X 55 0 y) ∧ (∀ q, 0 ≤ q → q < X 44 0 t → X1 56 0 (5 * z + q) = X 47 0 (5 * t + q)) ∧ ∀ j, j < 5 * z → X1 56 0 j = X 56 0 j))) av9 s 0 0 (frA base) := ⟨_, rfl⟩
  rw [← hQ9]
  have hi9 : ∀ w ∈ wsX90, w ∈ wsX9_thing := fun w h => List.mem_cons_of_mem _ (List.mem_append_right _ h)
  have hf9 : fctx s m _ RX9 wsX9_thing D tc RX9 TX9 51 9 := ⟨hts, hi9, hown, hK.1, rfl⟩
  have lk13 := hts (.fieldLink RX9 13 (TX9 3).1 (TX9 3).2.1 (TX9 3).2.2.1) (gj_X9_thing_0 _ (gp_1 (gp_1 (gp_1 gp_h))))
  have lk23 := hts (.fieldLink RX9 23 (TX9 6).1 (TX9 6).2.1 (TX9 6).2.2.1) (gj_X9_thing_0 _ (gp_4 (gp_1 gp_h)))
  have lk45 := hts (.fieldLink RX9 45 (TX9 14).1 (TX9 14).2.1 (TX9 14).2.2.1) (gj_X9_thing_0 _ (gp_1 (gp_1 gp_h)))
  have lk48 := hts (.fieldLink RX9 48 (TX9 15).1 (TX9 15).2.1 (TX9 15).2.2.1) (gj_X9_thing_0 _ (gp_4 gp_h))
  have lk145 := hts (.fieldLink RX9 145 (TX9 0).1 (TX9 0).2.1 (TX9 0).2.2.1) (gj_X9_thing_0 _ (gp_h))
  have lk151 := hts (.fieldLink RX9 151 (TX9 13).1 (TX9 13).2.1 (TX9 13).2.2.1) (gj_X9_thing_0 _ (gp_1 gp_h))
  have hc40 : cnt 40 = 1 := hFx.at 40 1 (by decide)
  have hc44 : cnt 44 = 1 := hFx.at 44 1 (by decide)
  have hc47 : cnt 47 = 1 := hFx.at 47 1 (by decide)
  have hc55 : cnt 55 = 1 := hFx.at 55 1 (by decide)
  have hc56 : cnt 56 = 1 := hFx.at 56 1 (by decide)
  have hl : lv_has ls 3 [(0, .ref (ad 40 0)), (1, .int (jI t))] := hl
  have fstypes : 0 ≤ X 40 0 2 ∧ X 40 0 2 ≤ 8 := hR 40 0 2
  have fsthings : 0 ≤ X 40 0 13 ∧ X 40 0 13 ≤ 30 := hR 40 0 13
  have fsmarks : 0 ≤ X 40 0 20 ∧ X 40 0 20 ≤ 4 := hR 40 0 20
  have fsnotes : 0 ≤ X 40 0 22 ∧ X 40 0 22 ≤ 80 := hR 40 0 22
  refine lv_aload_n hx hb dX9_thing_0 rfl (lv_at hl 0 rfl) ?_
  refine lv_iconst (v := jI 0) hx hb dX9_thing_1 rfl ?_
  refine x_puti (jz := 0) hx hb hf9 ⟨tyX9_ok, nmX9⟩ hw hS (by first | exact Int.le_refl 0 | omega) (by first | exact zlt hc40 | omega) sl_40_0 rfl lk145 rfl (tyX9_ok 0 (by decide)) rfl rfl dX9_thing_2 (fun H locs hw hS => ?_)
  obtain ⟨X1, hX1⟩ : ∃ Xq, Xq = u3 X 40 0 0 0 := ⟨_, rfl⟩
  rw [← hX1] at hw
  have hRX1 : Rng X1 := by rw [hX1]; exact rng_set hR (show (-2147483648) ≤ 0 ∧ 0 ≤ 2147483647 by omega)
  have hVX1 : X1 40 0 0 = 0 := by rw [hX1]; exact u3_s _ _ _ _ _
  have hFX1 : Frm [4001, 5500, 5600, 4014] X X1 := by rw [hX1]; exact Frm.set Frm.rf (show 4001 ∈ [4001, 5500, 5600, 4014] by decide)
  refine lv_aload_n hx hb dX9_thing_5 rfl (lv_at hl 0 rfl) ?_
  refine lv_iload_n hx hb dX9_thing_6 rfl (lv_at hl 1 rfl) ?_
  refine gos_i (run_V (As := [.int (jI t)]) (rest := []) hx hb hml hown hts (c_X9_isType l D tc base ad cnt X1 Y ln hRX1 hFx t (by omega)) (cwV 1 hts gX9_thing_X9_isType rfl rfl rfl (by first | exact hd_X9_isType | decide +kernel) ⟨Nat.le_of_ble_eq_true rfl, Nat.le_of_ble_eq_true rfl⟩) hK hw (by first | exact Int.le_refl 0 | omega) (by first | exact zlt hc40 | omega) sl_40_0 rfl rfl hl.1 rfl (Nat.le_of_ble_eq_true rfl) dX9_thing_7 ⟨Nat.le_of_ble_eq_true rfl, Nat.le_of_ble_eq_true rfl⟩) hS (fun z2 u3 H locs p4 hw hS => ?_)
  obtain ⟨eu3, p4⟩ := p4
  subst eu3
  have e5 : X1 40 0 2 = X 40 0 2 := by rw [hX1, u3_j _ _ _ _ (by decide)]
  simp only [e5] at p4
  rcases p4 with ⟨ez2, p4⟩ | ⟨ez2, p4⟩
  · subst ez2
    refine x_if_neT (tgt := 15) hx hb (by omega) (by decide) dX9_thing_10 (by decide) ?_
    refine lv_aload_n hx hb dX9_thing_15 rfl (lv_at hl 0 rfl) ?_
    refine x_geti (jz := 13) hx hb hf9 hw (by first | exact Int.le_refl 0 | omega) (by first | exact zlt hc40 | omega) sl_40_13 rfl lk151 dX9_thing_16 ?_
    have e6 : X1 40 0 13 = X 40 0 13 := by rw [hX1, u3_j _ _ _ _ (by decide)]
    rw [e6]
    have f7 : 0 ≤ X 40 0 13 ∧ X 40 0 13 ≤ 30 := hR 40 0 13
    refine lv_bipush (v := jI 30) hx hb dX9_thing_19 (by decide) ?_
    refine x_icmp_ne (tgt := 27) hx hb (by omega) (by omega) dX9_thing_21 (by decide) (fun c8 => ?_) (fun c8 => ?_)
    · refine lv_aload_n hx hb dX9_thing_27 rfl (lv_at hl 0 rfl) ?_
      refine x_geto hx hb hf9 hw (by first | exact Int.le_refl 0 | omega) (by first | exact zlt hc40 | omega) sl_40_14 lk45 dX9_thing_28 ?_
      refine lv_aload_n hx hb dX9_thing_31 rfl (lv_at hl 0 rfl) ?_
      refine x_geti (jz := 13) hx hb hf9 hw (by first | exact Int.le_refl 0 | omega) (by first | exact zlt hc40 | omega) sl_40_13 rfl lk151 dX9_thing_32 ?_
      have e9 : X1 40 0 13 = X 40 0 13 := by rw [hX1, u3_j _ _ _ _ (by decide)]
      rw [e9]
      have f10 : 0 ≤ X 40 0 13 ∧ X 40 0 13 ≤ 30 := hR 40 0 13
      refine lv_iload_n hx hb dX9_thing_35 rfl (lv_at hl 1 rfl) ?_
      refine x_iast hx hb hK.1 hw hS (by first | exact Int.le_refl 0 | omega) (by first | exact zlt hc55 | omega) ar_55 (len_E ar_55 (by decide)) (by omega) (by omega) (by omega) dX9_thing_36 (fun H locs hw hS => ?_)
      obtain ⟨X11, hX11⟩ : ∃ Xq, Xq = u3 X1 55 0 (X 40 0 13) t := ⟨_, rfl⟩
      rw [← hX11] at hw
      have hRX11 : Rng X11 := by rw [hX11]; exact rng_set hRX1 (show 0 ≤ t ∧ t ≤ 7 by omega)
      have hVX11 : X11 55 0 (X 40 0 13) = t := by rw [hX11]; exact u3_s _ _ _ _ _
      have hFX11 : Frm [4001, 5500, 5600, 4014] X X11 := by rw [hX11]; exact Frm.set hFX1 (show 5500 ∈ [4001, 5500, 5600, 4014] by decide)
      refine lv_iconst (v := jI 0) hx hb dX9_thing_37 rfl ?_
      refine lv_istore_n (lv' := [(2, .int (jI 0)), (0, .ref (ad 40 0)), (1, .int (jI t))]) hx hb dX9_thing_38 rfl hl (by decide) rfl (fun ls hl => ?_)
      have lp39 : ∀ (nn : Nat) (k : Int) (Xa : Nat → Int → Int → Int) (H : Heap) (locs : List Loc) (ls : Array Slot), (5 - k) < (nn : Int) → (Rng Xa) → (Frm [5600] X11 Xa) → (0 ≤ k ∧ k ≤ 5) → (∀ q, 0 ≤ q → q < k → Xa 56 0 (5 * X 40 0 13 + q) = X 47 0 (5 * t + q)) → (∀ j, j < 5 * X 40 0 13 → Xa 56 0 j = X 56 0 j) → wd D tc base (ad, cnt, Xa, Y, ln) H → va_S (frA base) s.heap H locs → lv_has ls 3 [(0, .ref (ad 40 0)), (1, .int (jI t)), (2, .int (jI k))] → W p l e ({ frames := 1, cells := 0, slots := 0, locals := 21 } : Room) s m av9 below meth c H locs 0 0 Q9 (F0 m 39 ls []) := by
        intro nn
        induction nn with
        | zero => intro k Xa H locs ls hm hRXa hGXa hk hvq hlo hw hS hl; exfalso; omega
        | succ nn ih39 =>
          intro k Xa H locs ls hm hRXa hGXa hk hvq hlo hw hS hl
          have hFXa : Frm [4001, 5500, 5600, 4014] X Xa := Frm.tr hFX11 (Frm.mono hGXa (by decide))
          refine lv_iload_n hx hb dX9_thing_39 rfl (lv_at hl 2 rfl) ?_
          refine lv_aload_n hx hb dX9_thing_40 rfl (lv_at hl 0 rfl) ?_
          refine x_geto hx hb hf9 hw (by first | exact Int.le_refl 0 | omega) (by first | exact zlt hc40 | omega) sl_40_3 lk13 dX9_thing_41 ?_
          refine lv_iload_n hx hb dX9_thing_44 rfl (lv_at hl 1 rfl) ?_
          refine x_iald hx hb hK.1 hw (by first | exact Int.le_refl 0 | omega) (by first | exact zlt hc44 | omega) ar_44 (len_E ar_44 (by decide)) (by omega) (by omega) (by omega) dX9_thing_45 ?_
          have e12 : ∀ p9 q9 : Int, Xa 44 p9 q9 = X 44 p9 q9 := fun p9 q9 => by rw [hGXa 44 p9 q9 (show 4400 ∉ [5600] by decide), hX11, u3_k _ _ _ _ (by decide), hX1, u3_k _ _ _ _ (by decide)]
          rw [e12 0 t]
          have f13 : 0 ≤ X 44 0 t ∧ X 44 0 t ≤ 5 := hR 44 0 t
          refine x_icmp_ge (tgt := 78) hx hb (by omega) (by omega) dX9_thing_46 (by decide) (fun c14 => ?_) (fun c14 => ?_)
          · refine lv_aload_n hx hb dX9_thing_78 rfl (lv_at hl 0 rfl) ?_
            refine lv_dup hx hb dX9_thing_79 rfl ?_
            refine x_geti (jz := 13) hx hb hf9 hw (by first | exact Int.le_refl 0 | omega) (by first | exact zlt hc40 | omega) sl_40_13 rfl lk151 dX9_thing_80 ?_
            have e15 : Xa 40 0 13 = X 40 0 13 := by rw [hGXa 40 0 13 (show 4014 ∉ [5600] by decide), hX11, u3_k _ _ _ _ (by decide), hX1, u3_j _ _ _ _ (by decide)]
            rw [e15]
            have f16 : 0 ≤ X 40 0 13 ∧ X 40 0 13 ≤ 30 := hR 40 0 13
            refine lv_iconst (v := jI 1) hx hb dX9_thing_83 rfl ?_
            refine x_iadd hx hb dX9_thing_84 ?_
            refine x_puti (jz := 13) hx hb hf9 ⟨tyX9_ok, nmX9⟩ hw hS (by first | exact Int.le_refl 0 | omega) (by first | exact zlt hc40 | omega) sl_40_13 rfl lk151 rfl (tyX9_ok 13 (by decide)) rfl rfl dX9_thing_85 (fun H locs hw hS => ?_)
            obtain ⟨X17, hX17⟩ : ∃ Xq, Xq = u3 Xa 40 0 13 ((X 40 0 13) + 1) := ⟨_, rfl⟩
            rw [← hX17] at hw
            have hRX17 : Rng X17 := by rw [hX17]; exact rng_set hRXa (show 0 ≤ ((X 40 0 13) + 1) ∧ ((X 40 0 13) + 1) ≤ 30 by omega)
            have hVX17 : X17 40 0 13 = ((X 40 0 13) + 1) := by rw [hX17]; exact u3_s _ _ _ _ _
            have hFX17 : Frm [4001, 5500, 5600, 4014] X X17 := by rw [hX17]; exact Frm.set hFXa (show 4014 ∈ [4001, 5500, 5600, 4014] by decide)
            refine lv_aload_n hx hb dX9_thing_88 rfl (lv_at hl 0 rfl) ?_
            refine x_geti (jz := 13) hx hb hf9 hw (by first | exact Int.le_refl 0 | omega) (by first | exact zlt hc40 | omega) sl_40_13 rfl lk151 dX9_thing_89 ?_
            rw [hVX17]
            refine lv_iconst (v := jI 1) hx hb dX9_thing_92 rfl ?_
            refine x_isub hx hb dX9_thing_93 ?_
            rw [hQ9]
            refine ret_i (mc := 0) (ms := 0) hx hb hr hlocks hw hS (by first | exact Nat.le_of_ble_eq_true rfl | omega) (by first | exact Nat.le_of_ble_eq_true rfl | omega) dX9_thing_94 ?_
            exact ⟨X17, rfl, hRX17, hFX17, minv_thing (t := t) hMI hR (by omega) hFX17 (fun j hj => (by rw [hX17, u3_k _ _ _ _ (by decide), hGXa 55 0 j (show 5500 ∉ [5600] by decide), hX11, u3_j _ _ _ _ (by omega), hX1, u3_k _ _ _ _ (by decide)])) (by rw [hX17, u3_k _ _ _ _ (by decide), hGXa 55 0 (X 40 0 13) (show 5500 ∉ [5600] by decide)]; exact hVX11) (fun j hj => (by rw [hX17, u3_k _ _ _ _ (by decide)]; exact hlo j hj)) (fun q a b => (by rw [hX17, u3_k _ _ _ _ (by decide)]; exact hvq q a (by omega))) hVX17, by omega, (by (try delta Hid at *); first | exact Or.inr (Or.inr (⟨(by omega), by omega, by omega⟩)) | exact Or.inl ⟨(fun q => by omega), by omega⟩ | exact Or.inr (Or.inl ⟨(by omega), by omega, by omega⟩)), fun q => (by exfalso; omega), fun _ => ⟨hVX17, (by rw [show (((X 40 0 13) + 1) - 1) = X 40 0 13 by omega]; exact (by rw [hX17, u3_k _ _ _ _ (by decide), hGXa 55 0 (X 40 0 13) (show 5500 ∉ [5600] by decide)]; exact hVX11)), fun y hy => (by rw [hX17, u3_k _ _ _ _ (by decide), hGXa 55 0 y (show 5500 ∉ [5600] by decide), hX11, u3_j _ _ _ _ (by omega), hX1, u3_k _ _ _ _ (by decide)]), fun q a b => (by rw [show (((X 40 0 13) + 1) - 1) = X 40 0 13 by omega]; exact (by rw [hX17, u3_k _ _ _ _ (by decide)]; exact hvq q a (by omega))), fun j hj => (by rw [hX17, u3_k _ _ _ _ (by decide)]; exact hlo j (by omega))⟩⟩
          · refine lv_aload_n hx hb dX9_thing_49 rfl (lv_at hl 0 rfl) ?_
            refine x_geto hx hb hf9 hw (by first | exact Int.le_refl 0 | omega) (by first | exact zlt hc40 | omega) sl_40_15 lk48 dX9_thing_50 ?_
            refine lv_iconst (v := jI 5) hx hb dX9_thing_53 rfl ?_
            refine lv_aload_n hx hb dX9_thing_54 rfl (lv_at hl 0 rfl) ?_
            refine x_geti (jz := 13) hx hb hf9 hw (by first | exact Int.le_refl 0 | omega) (by first | exact zlt hc40 | omega) sl_40_13 rfl lk151 dX9_thing_55 ?_
            have e18 : Xa 40 0 13 = X 40 0 13 := by rw [hGXa 40 0 13 (show 4014 ∉ [5600] by decide), hX11, u3_k _ _ _ _ (by decide), hX1, u3_j _ _ _ _ (by decide)]
            rw [e18]
            have f19 : 0 ≤ X 40 0 13 ∧ X 40 0 13 ≤ 30 := hR 40 0 13
            refine x_imul hx hb dX9_thing_58 ?_
            refine lv_iload_n hx hb dX9_thing_59 rfl (lv_at hl 2 rfl) ?_
            refine x_iadd hx hb dX9_thing_60 ?_
            refine lv_aload_n hx hb dX9_thing_61 rfl (lv_at hl 0 rfl) ?_
            refine x_geto hx hb hf9 hw (by first | exact Int.le_refl 0 | omega) (by first | exact zlt hc40 | omega) sl_40_6 lk23 dX9_thing_62 ?_
            refine lv_iconst (v := jI 5) hx hb dX9_thing_65 rfl ?_
            refine lv_iload_n hx hb dX9_thing_66 rfl (lv_at hl 1 rfl) ?_
            refine x_imul hx hb dX9_thing_67 ?_
            refine lv_iload_n hx hb dX9_thing_68 rfl (lv_at hl 2 rfl) ?_
            refine x_iadd hx hb dX9_thing_69 ?_
            refine x_lald hx hb hK.1 hw (by first | exact Int.le_refl 0 | omega) (by first | exact zlt hc47 | omega) ar_47 (len_E ar_47 (by decide)) (by omega) (by omega) (by omega) dX9_thing_70 ?_
            have e20 : ∀ p9 q9 : Int, Xa 47 p9 q9 = X 47 p9 q9 := fun p9 q9 => by rw [hGXa 47 p9 q9 (show 4700 ∉ [5600] by decide), hX11, u3_k _ _ _ _ (by decide), hX1, u3_k _ _ _ _ (by decide)]
            rw [e20 0 ((5 * t) + k)]
            have f21 : (-9223372036854775808) ≤ X 47 0 ((5 * t) + k) ∧ X 47 0 ((5 * t) + k) ≤ 9223372036854775807 := hR 47 0 ((5 * t) + k)
            refine x_last hx hb hK.1 hw hS (by first | exact Int.le_refl 0 | omega) (by first | exact zlt hc56 | omega) ar_56 (len_E ar_56 (by decide)) (by omega) (by omega) (by omega) dX9_thing_71 (fun H locs hw hS => ?_)
            obtain ⟨X22, hX22⟩ : ∃ Xq, Xq = u3 Xa 56 0 ((5 * (X 40 0 13)) + k) (X 47 0 ((5 * t) + k)) := ⟨_, rfl⟩
            rw [← hX22] at hw
            have hRX22 : Rng X22 := by rw [hX22]; exact rng_set hRXa (show (-9223372036854775808) ≤ (X 47 0 ((5 * t) + k)) ∧ (X 47 0 ((5 * t) + k)) ≤ 9223372036854775807 by omega)
            have hVX22 : X22 56 0 ((5 * (X 40 0 13)) + k) = (X 47 0 ((5 * t) + k)) := by rw [hX22]; exact u3_s _ _ _ _ _
            have hFX22 : Frm [4001, 5500, 5600, 4014] X X22 := by rw [hX22]; exact Frm.set hFXa (show 5600 ∈ [4001, 5500, 5600, 4014] by decide)
            refine lv_iinc (v := jI (k + 1)) (lv' := [(2, .int (jI (k + 1))), (0, .ref (ad 40 0)), (1, .int (jI t))]) hx hb dX9_thing_72 hl (k := 2) rfl (jI_add _ _) (by decide) rfl (fun ls hl => ?_)
            refine lv_goto (tgt := 39) hx hb dX9_thing_75 (by decide) ?_
            have q23 : Frm [5600] X11 Xa := Frm.tr Frm.rf (Frm.mono hGXa (by decide))
            have q24 : Frm [5600] X11 X22 := by rw [hX22]; exact Frm.set q23 (show 5600 ∈ [5600] by decide)
            exact ih39 (k + 1) X22 _ _ _ (by omega) hRX22 q24 (by omega) (fun q a b => if hq : q = k then (by rw [hq]; exact hVX22) else (by rw [hX22, u3_j _ _ _ _ (by omega)]; exact hvq q a (by omega))) (fun j hj => (by rw [hX22, u3_j _ _ _ _ (by omega)]; exact hlo j hj)) hw hS (lv_sub hl [1, 2, 0] rfl)
      exact lp39 (5 - 0 : Int).toNat.succ 0 X11 _ _ _ (by omega) hRX11 Frm.rf (by omega) (fun q a b => by omega) (fun j hj => (by rw [hX11, u3_k _ _ _ _ (by decide), hX1, u3_k _ _ _ _ (by decide)])) hw hS (lv_sub hl [1, 2, 0] rfl)
    · refine lv_bipush (v := jI (-4)) hx hb dX9_thing_24 (by decide) ?_
      rw [hQ9]
      refine ret_i (mc := 0) (ms := 0) hx hb hr hlocks hw hS (by first | exact Nat.le_of_ble_eq_true rfl | omega) (by first | exact Nat.le_of_ble_eq_true rfl | omega) dX9_thing_26 ?_
      have q26 : Frm [4001] X X1 := by rw [hX1]; exact Frm.set Frm.rf (show 4001 ∈ [4001] by decide)
      have hMq25 : MInv X1 := minv_frm hMI q26 (by decide)
      have q27 : Frm [4001] X X1 := by rw [hX1]; exact Frm.set Frm.rf (show 4001 ∈ [4001] by decide)
      exact ⟨X1, rfl, hRX1, hFX1, hMq25, by omega, (by (try delta Hid at *); first | exact Or.inr (Or.inl ⟨(by omega), by omega, by omega⟩) | exact Or.inr (Or.inr (⟨(by omega), by omega, by omega⟩))), fun _ => q27, fun q => (by exfalso; omega)⟩
  · subst ez2
    refine x_if_neF (tgt := 15) hx hb (by omega) (by decide) dX9_thing_10 (by decide) ?_
    refine lv_iconst (v := jI (-1)) hx hb dX9_thing_13 rfl ?_
    rw [hQ9]
    refine ret_i (mc := 0) (ms := 0) hx hb hr hlocks hw hS (by first | exact Nat.le_of_ble_eq_true rfl | omega) (by first | exact Nat.le_of_ble_eq_true rfl | omega) dX9_thing_14 ?_
    have q29 : Frm [4001] X X1 := by rw [hX1]; exact Frm.set Frm.rf (show 4001 ∈ [4001] by decide)
    have hMq28 : MInv X1 := minv_frm hMI q29 (by decide)
    have q30 : Frm [4001] X X1 := by rw [hX1]; exact Frm.set Frm.rf (show 4001 ∈ [4001] by decide)
    exact ⟨X1, rfl, hRX1, hFX1, hMq28, by omega, (by (try delta Hid at *); first | exact Or.inl ⟨(fun q => by omega), by omega⟩ | exact Or.inr (Or.inr (⟨(by omega), by omega, by omega⟩))), fun _ => q30, fun q => (by exfalso; omega)⟩
