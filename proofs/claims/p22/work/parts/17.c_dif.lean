section
set_option maxHeartbeats 4000000 in
set_option maxRecDepth 100000 in
theorem c_X9_differs (l : Launch) (D : va_G) (tc : Nat → ClassId) (base : Nat) (ad : Nat → Int → Nat) (cnt : Nat → Int) (X : Nat → Int → Int → Int) (Y : Nat → Int → Int → Option Int) (ln : Int → Int) (hR : Rng X) (hFx : Fx cnt) (hMI : MInv X) (sv x : Int) (hsv : -2147483648 ≤ sv ∧ sv ≤ 2147483647) (hx : -2147483648 ≤ x ∧ x ≤ 2147483647) : KI l D tc base yX9_differs wsX9_differs ({ frames := 2, cells := 0, slots := 0, locals := 53 } : Room) [.ref (ad 40 0), .int (jI sv), .int (jI x)] (ad, cnt, X, Y, ln) 0 0 (fun z u => ∃ X1 : Nat → Int → Int → Int, u = (ad, cnt, X1, Y, ln) ∧ Rng X1 ∧ Frm [4001, 7100, 7200, 7300, 7400, 7500, 8000, 7000, 8100, 7700, 7800, 7900, 7600, 4042, 4043, 4044] X X1 ∧ MInv X1 ∧ (-2147483648 ≤ z ∧ z ≤ 2147483647) ∧ S4 X X1 ∧ S5 X X1 ∧ ((¬ ((0 ≤ sv ∧ sv < 4) ∧ X 70 0 sv ≠ 0 ∧ (0 ≤ x ∧ x < X 40 0 13)) ∧ z = -2) ∨ (((0 ≤ sv ∧ sv < 4) ∧ X 70 0 sv ≠ 0 ∧ (0 ≤ x ∧ x < X 40 0 13)) ∧ (rmT X1 (recR (fcM X) (lnM X) (mRid X) (mRid X) x 30) ∧ rmR X1 (recR (fcM X) (lnM X) (mRid X) (mRid X) x 30) ∧ rmV X1 (recR (fcM X) (lnM X) (mRid X) (mRid X) x 30) (recR (fcM X) (lnM X) (mRid X) (mRid X) x 30 0 0) 0) ∧ dfP (mxM X1 sv) (shM X1 sv) (fun r => X1 72 0 (30 * sv + r)) (vqM X1 sv) (fun r f => X1 73 0 (5 * (30 * sv + r) + f)) z))) := by
  refine K_of (cc := cX9_differs) (maxL := 12) (ret := (some .int)) (by decide) rfl (Nat.le_of_ble_eq_true rfl) ?_
  intro p e s m below meth c ls hx hb hr hml hown hts hlocks hl hK hw hS
  have hown : s.vm.findClass RX9 = some m.cls := hown
  obtain ⟨av9, hav9⟩ : ∃ a9 : Array Value, a9 = ([.ref (ad 40 0), .int (jI sv), .int (jI x)] : List Value).toArray := ⟨_, rfl⟩
  rw [← hav9] at hts ⊢
  obtain ⟨Q9, hQ9⟩ : ∃ q9Q : State → Prop, q9Q = MQ below (QI D tc base (fun z u => ∃ X1 : Nat → Int → Int → Int, u = (ad, cnt, X1, Y, ln) ∧ Rng X1 ∧ Frm [4001, 7100, 7200, 7300, 7400, 7500, 8000, 7000, 8100, 7700, 7800, 7900, 7600, 4042, 4043, 4044] X X1 ∧ MInv X1 ∧ (-2147483648 ≤ z ∧ z ≤ 2147483647) ∧ S4 X X1 ∧ S5 X X1 ∧ ((¬ ((0 ≤ sv ∧ sv < 4) ∧ X 70 0 sv ≠ 0 ∧ (0 ≤ x ∧ x < X 40 0 13)) ∧ z = -2) ∨ (((0 ≤ sv ∧ sv < 4) ∧ X 70 0 sv ≠ 0 ∧ (0 ≤ x ∧ x < X 40 0 13)) ∧ (rmT X1 (recR (fcM X) (lnM X) (mRid X) (mRid X) x 30) ∧ rmR X1 (recR (fcM X) (lnM X) (mRid X) (mRid X) x 30) ∧ rmV X1 (recR (fcM X) (lnM X) (mRid X) (mRid X) x 30) (recR (fcM X) (lnM X) (mRid X) (mRid X) x 30 0 0) 0) ∧ dfP (mxM X1 sv) (shM X1 sv) (fun r => X1 72 0 (30 * sv + r)) (vqM X1 sv) (fun r f => X1 73 0 (5 * (30 * sv + r) + f)) z)))) av9 s 0 0 (frA base) := ⟨_, rfl⟩
  rw [← hQ9]
  have hi9 : ∀ w ∈ wsX90, w ∈ wsX9_differs := fun w h => List.mem_cons_of_mem _ (List.mem_append_right _ h)
  have hf9 : fctx s m _ RX9 wsX9_differs D tc RX9 TX9 51 9 := ⟨hts, hi9, hown, hK.1, rfl⟩
  have lk81 := hts (.fieldLink RX9 81 (TX9 29).1 (TX9 29).2.1 (TX9 29).2.2.1) (gj_X9_differs_0 _ (gp_1 gp_h))
  have lk84 := hts (.fieldLink RX9 84 (TX9 30).1 (TX9 30).2.1 (TX9 30).2.2.1) (gj_X9_differs_0 _ (gp_1 (gp_1 gp_h)))
  have lk87 := hts (.fieldLink RX9 87 (TX9 31).1 (TX9 31).2.1 (TX9 31).2.2.1) (gj_X9_differs_0 _ (gp_1 (gp_1 (gp_1 gp_h))))
  have lk90 := hts (.fieldLink RX9 90 (TX9 32).1 (TX9 32).2.1 (TX9 32).2.2.1) (gj_X9_differs_0 _ (gp_4 gp_h))
  have lk93 := hts (.fieldLink RX9 93 (TX9 33).1 (TX9 33).2.1 (TX9 33).2.2.1) (gj_X9_differs_0 _ (gp_4 (gp_1 gp_h)))
  have lk96 := hts (.fieldLink RX9 96 (TX9 34).1 (TX9 34).2.1 (TX9 34).2.2.1) (gj_X9_differs_0 _ (gp_4 (gp_1 (gp_1 gp_h))))
  have lk145 := hts (.fieldLink RX9 145 (TX9 0).1 (TX9 0).2.1 (TX9 0).2.2.1) (gj_X9_differs_0 _ (gp_h))
  have hc40 : cnt 40 = 1 := hFx.at 40 1 (by decide)
  have hc70 : cnt 70 = 1 := hFx.at 70 1 (by decide)
  have hc71 : cnt 71 = 1 := hFx.at 71 1 (by decide)
  have hc72 : cnt 72 = 1 := hFx.at 72 1 (by decide)
  have hc73 : cnt 73 = 1 := hFx.at 73 1 (by decide)
  have hc74 : cnt 74 = 1 := hFx.at 74 1 (by decide)
  have hc75 : cnt 75 = 1 := hFx.at 75 1 (by decide)
  have hl : lv_has ls 12 [(0, .ref (ad 40 0)), (1, .int (jI sv)), (2, .int (jI x))] := hl
  have fstypes : 0 ≤ X 40 0 2 ∧ X 40 0 2 ≤ 8 := hR 40 0 2
  have fsthings : 0 ≤ X 40 0 13 ∧ X 40 0 13 ≤ 30 := hR 40 0 13
  have fsmarks : 0 ≤ X 40 0 20 ∧ X 40 0 20 ≤ 4 := hR 40 0 20
  have fsnotes : 0 ≤ X 40 0 22 ∧ X 40 0 22 ≤ 80 := hR 40 0 22
  refine lv_aload_n hx hb dX9_differs_0 rfl (lv_at hl 0 rfl) ?_
  refine lv_iconst (v := jI 0) hx hb dX9_differs_1 rfl ?_
  refine x_puti (jz := 0) hx hb hf9 ⟨tyX9_ok, nmX9⟩ hw hS (by first | exact Int.le_refl 0 | omega) (by first | exact zlt hc40 | omega) sl_40_0 rfl lk145 rfl (tyX9_ok 0 (by decide)) rfl rfl dX9_differs_2 (fun H locs hw hS => ?_)
  obtain ⟨X1, hX1⟩ : ∃ Xq, Xq = u3 X 40 0 0 0 := ⟨_, rfl⟩
  rw [← hX1] at hw
  have hRX1 : Rng X1 := by rw [hX1]; exact rng_set hR (show (-2147483648) ≤ 0 ∧ 0 ≤ 2147483647 by omega)
  have hVX1 : X1 40 0 0 = 0 := by rw [hX1]; exact u3_s _ _ _ _ _
  have hFX1 : Frm [4001, 7100, 7200, 7300, 7400, 7500, 8000, 7000, 8100, 7700, 7800, 7900, 7600, 4042, 4043, 4044] X X1 := by rw [hX1]; exact Frm.set Frm.rf (show 4001 ∈ [4001, 7100, 7200, 7300, 7400, 7500, 8000, 7000, 8100, 7700, 7800, 7900, 7600, 4042, 4043, 4044] by first | exact nlm_in rfl | decide)
  refine lv_aload_n hx hb dX9_differs_5 rfl (lv_at hl 0 rfl) ?_
  refine lv_iload_n hx hb dX9_differs_6 rfl (lv_at hl 1 rfl) ?_
  refine gos_i (run_V (As := [.int (jI sv)]) (rest := []) hx hb hml hown hts (c_X9_isSave l D tc base ad cnt X1 Y ln hRX1 hFx sv (by omega)) (cwV 1 hts gX9_differs_X9_isSave rfl rfl rfl (by first | exact hd_X9_isSave | decide +kernel) ⟨Nat.le_of_ble_eq_true rfl, Nat.le_of_ble_eq_true rfl⟩) hK hw (by first | exact Int.le_refl 0 | omega) (by first | exact zlt hc40 | omega) sl_40_0 rfl rfl hl.1 rfl (Nat.le_of_ble_eq_true rfl) dX9_differs_7 ⟨Nat.le_of_ble_eq_true rfl, Nat.le_of_ble_eq_true rfl⟩) hS (fun z2 u3 H locs p4 hw hS => ?_)
  obtain ⟨eu3, p4⟩ := p4
  subst eu3
  rcases p4 with ⟨ez2, p4⟩ | ⟨ez2, p4⟩
  · subst ez2
    refine x_if_eqF (tgt := 30) hx hb (by omega) (by decide) dX9_differs_10 (by decide) ?_
    refine lv_aload_n hx hb dX9_differs_13 rfl (lv_at hl 0 rfl) ?_
    refine x_geto hx hb hf9 hw (by first | exact Int.le_refl 0 | omega) (by first | exact zlt hc40 | omega) sl_40_29 lk81 dX9_differs_14 ?_
    refine lv_iload_n hx hb dX9_differs_17 rfl (lv_at hl 1 rfl) ?_
    refine x_iald hx hb hK.1 hw (by first | exact Int.le_refl 0 | omega) (by first | exact zlt hc70 | omega) ar_70 (len_E ar_70 (by first | exact Nat.ne_of_beq_eq_false rfl | decide)) (by omega) (by omega) (by omega) dX9_differs_18 ?_
    have e5 : ∀ p9 q9 : Int, X1 70 p9 q9 = X 70 p9 q9 := fun p9 q9 => by rw [hX1, u3_k _ _ _ _ (by first | exact Nat.ne_of_beq_eq_false rfl | decide)]
    rw [e5 0 sv]
    have f6 : 0 ≤ X 70 0 sv ∧ X 70 0 sv ≤ 30 := hR 70 0 sv
    refine x_if_eq (tgt := 30) hx hb (by omega) dX9_differs_19 (by decide) (fun c7 => ?_) (fun c7 => ?_)
    · refine lv_bipush (v := jI (-2)) hx hb dX9_differs_30 (by decide) ?_
      rw [hQ9]
      refine ret_i (mc := 0) (ms := 0) hx hb hr hlocks hw hS (by first | exact Nat.le_of_ble_eq_true rfl | omega) (by first | exact Nat.le_of_ble_eq_true rfl | omega) dX9_differs_32 ?_
      have q9 : Frm [4001] X X1 := by rw [hX1]; exact Frm.set Frm.rf (show 4001 ∈ [4001] by first | exact nlm_in rfl | decide)
      have hMq8 : MInv X1 := minv_frm hMI q9 (by decide)
      have q10 : Frm [4001] X X1 := by rw [hX1]; exact Frm.set Frm.rf (show 4001 ∈ [4001] by first | exact nlm_in rfl | decide)
      exact ⟨X1, rfl, hRX1, hFX1, hMq8, by omega, S4.frm q10 (by decide), S5.frm q10 (by decide), Or.inl ⟨(fun q => by (try delta Hid at *); omega), by omega⟩⟩
    · refine lv_aload_n hx hb dX9_differs_22 rfl (lv_at hl 0 rfl) ?_
      refine lv_iload_n hx hb dX9_differs_23 rfl (lv_at hl 2 rfl) ?_
      refine gos_i (run_V (As := [.int (jI x)]) (rest := []) hx hb hml hown hts (c_X9_isThing l D tc base ad cnt X1 Y ln hRX1 hFx x (by omega)) (cwV 1 hts gX9_differs_X9_isThing rfl rfl rfl (by first | exact hd_X9_isThing | decide +kernel) ⟨Nat.le_of_ble_eq_true rfl, Nat.le_of_ble_eq_true rfl⟩) hK hw (by first | exact Int.le_refl 0 | omega) (by first | exact zlt hc40 | omega) sl_40_0 rfl rfl hl.1 rfl (Nat.le_of_ble_eq_true rfl) dX9_differs_24 ⟨Nat.le_of_ble_eq_true rfl, Nat.le_of_ble_eq_true rfl⟩) hS (fun z11 u12 H locs p13 hw hS => ?_)
      obtain ⟨eu12, p13⟩ := p13
      subst eu12
      have e14 : X1 40 0 13 = X 40 0 13 := by rw [hX1, u3_j _ _ _ _ (by decide)]
      simp only [e14] at p13
      rcases p13 with ⟨ez11, p13⟩ | ⟨ez11, p13⟩
      · subst ez11
        refine x_if_neT (tgt := 33) hx hb (by omega) (by decide) dX9_differs_27 (by decide) ?_
        refine lv_aload_n hx hb dX9_differs_33 rfl (lv_at hl 0 rfl) ?_
        refine lv_iload_n hx hb dX9_differs_34 rfl (lv_at hl 2 rfl) ?_
        refine lv_iconst (v := jI 0) hx hb dX9_differs_35 rfl ?_
        have q16 : Frm [4001] X X1 := by rw [hX1]; exact Frm.set Frm.rf (show 4001 ∈ [4001] by first | exact nlm_in rfl | decide)
        have hMq15 : MInv X1 := minv_frm hMI q16 (by decide)
        have e17 : X1 40 0 13 = X 40 0 13 := by rw [hX1, u3_j _ _ _ _ (by decide)]
        refine gos_i (run_V (As := [.int (jI x), .int (jI 0)]) (rest := []) hx hb hml hown hts (c_X9_saves l D tc base ad cnt X1 Y ln hRX1 hFx hMq15 x 0 (by omega) (by simp only [e17]; omega) (by omega)) (cwV 2 hts gX9_differs_X9_saves rfl rfl rfl (by first | exact hd_X9_saves | decide +kernel) ⟨Nat.le_of_ble_eq_true rfl, Nat.le_of_ble_eq_true rfl⟩) hK hw (by first | exact Int.le_refl 0 | omega) (by first | exact zlt hc40 | omega) sl_40_0 rfl rfl hl.1 rfl (Nat.le_of_ble_eq_true rfl) dX9_differs_36 ⟨Nat.le_of_ble_eq_true rfl, Nat.le_of_ble_eq_true rfl⟩) hS (fun z18 u19 H locs p20 hw hS => ?_)
        obtain ⟨X21, eu19, hRX21, hG22, hMIX21, p20, h4X21, hcX21, hsvX21, h5X21, hm20X21⟩ := p20
        subst eu19
        have hFX21 : Frm [4001, 7100, 7200, 7300, 7400, 7500, 8000, 7000, 8100, 7700, 7800, 7900, 7600, 4042, 4043, 4044] X X21 := Frm.tr hFX1 (Frm.mono hG22 (by first | exact nls_of rfl | decide))
        refine lv_pop hx hb dX9_differs_39 rfl ?_
        have lp74 : ∀ (nn : Nat) (nz : Int) (r : Int) (H : Heap) (locs : List Loc) (ls : Array Slot), (30 - r) < (nn : Int) → (0 ≤ nz ∧ nz ≤ 30) → (0 ≤ r ∧ r ≤ 30) → (nz = mxM X21 sv) → (∀ r', 0 ≤ r' → r' < r → shM X21 sv r' ∧ ∀ f, 0 ≤ f → f < X21 72 0 (30 * sv + r') → vqM X21 sv r' f) → wd D tc base (ad, cnt, X21, Y, ln) H → va_S (frA base) s.heap H locs → lv_has ls 12 [(0, .ref (ad 40 0)), (1, .int (jI sv)), (2, .int (jI x)), (3, .int (jI nz)), (4, .int (jI r))] → W p l e ({ frames := 2, cells := 0, slots := 0, locals := 53 } : Room) s m av9 below meth c H locs 0 0 Q9 (F0 m 74 ls []) := by
          intro nn
          induction nn with
          | zero => intro nz r H locs ls hm hnz hr0 hnzv hall hw hS hl; exfalso; omega
          | succ nn ih74 =>
            intro nz r H locs ls hm hnz hr0 hnzv hall hw hS hl
            refine lv_iload hx hb dX9_differs_74 (lv_at hl 4 rfl) ?_
            refine lv_iload_n hx hb dX9_differs_76 rfl (lv_at hl 3 rfl) ?_
            refine x_icmp_ge (tgt := 417) hx hb (by omega) (by omega) dX9_differs_77 (by decide) (fun c23 => ?_) (fun c23 => ?_)
            · refine lv_iconst (v := jI (-1)) hx hb dX9_differs_417 rfl ?_
              rw [hQ9]
              refine ret_i (mc := 0) (ms := 0) hx hb hr hlocks hw hS (by first | exact Nat.le_of_ble_eq_true rfl | omega) (by first | exact Nat.le_of_ble_eq_true rfl | omega) dX9_differs_418 ?_
              have q24 : Frm [4001] X X1 := by rw [hX1]; exact Frm.set Frm.rf (show 4001 ∈ [4001] by first | exact nlm_in rfl | decide)
              have hrd25 := rdr_eq (L := [4001]) q24 (by decide)
              have hsx26 := hsvX21
              rw [hrd25.1, hrd25.2.1, hrd25.2.2, Frm.arr q24 48 (by decide +kernel) (by decide), Frm.arr q24 55 (by decide +kernel) (by decide)] at hsx26
              exact ⟨X21, rfl, hRX21, hFX21, hMIX21, by omega, S4.tr (S4.frm q24 (by decide)) h4X21, S5.tr (S5.frm q24 (by decide)) h5X21, Or.inr ⟨(by (try delta Hid at *); omega), (by rcases hsx26 with ⟨-, q, -⟩ | ⟨-, -, q⟩; exact absurd q (by decide); exact q), Or.inl ⟨rfl, fun r9 a b => hall r9 a (by omega)⟩⟩⟩
            · refine lv_iload hx hb dX9_differs_80 (lv_at hl 4 rfl) ?_
              refine lv_aload_n hx hb dX9_differs_82 rfl (lv_at hl 0 rfl) ?_
              refine x_geto hx hb hf9 hw (by first | exact Int.le_refl 0 | omega) (by first | exact zlt hc40 | omega) sl_40_29 lk81 dX9_differs_83 ?_
              refine lv_iload_n hx hb dX9_differs_86 rfl (lv_at hl 1 rfl) ?_
              refine x_iald hx hb hK.1 hw (by first | exact Int.le_refl 0 | omega) (by first | exact zlt hc70 | omega) ar_70 (len_E ar_70 (by first | exact Nat.ne_of_beq_eq_false rfl | decide)) (by omega) (by omega) (by omega) dX9_differs_87 ?_
              have f27 : 0 ≤ X21 70 0 sv ∧ X21 70 0 sv ≤ 30 := hRX21 70 0 sv
              refine x_icmp_ge (tgt := 102) hx hb (by omega) (by omega) dX9_differs_88 (by decide) (fun c28 => ?_) (fun c28 => ?_)
              · refine lv_bipush (v := jI 100) hx hb dX9_differs_102 (by decide) ?_
                refine lv_iload hx hb dX9_differs_104 (lv_at hl 4 rfl) ?_
                refine x_imul hx hb dX9_differs_106 ?_
                refine lv_bipush (v := jI 99) hx hb dX9_differs_107 (by decide) ?_
                refine x_iadd hx hb dX9_differs_109 ?_
                rw [hQ9]
                refine ret_i (mc := 0) (ms := 0) hx hb hr hlocks hw hS (by first | exact Nat.le_of_ble_eq_true rfl | omega) (by first | exact Nat.le_of_ble_eq_true rfl | omega) dX9_differs_110 ?_
                have q29 : Frm [4001] X X1 := by rw [hX1]; exact Frm.set Frm.rf (show 4001 ∈ [4001] by first | exact nlm_in rfl | decide)
                have hrd30 := rdr_eq (L := [4001]) q29 (by decide)
                have hsx31 := hsvX21
                rw [hrd30.1, hrd30.2.1, hrd30.2.2, Frm.arr q29 48 (by decide +kernel) (by decide), Frm.arr q29 55 (by decide +kernel) (by decide)] at hsx31
                exact ⟨X21, rfl, hRX21, hFX21, hMIX21, by omega, S4.tr (S4.frm q29 (by decide)) h4X21, S5.tr (S5.frm q29 (by decide)) h5X21, Or.inr ⟨(by (try delta Hid at *); omega), (by rcases hsx31 with ⟨-, q, -⟩ | ⟨-, -, q⟩; exact absurd q (by decide); exact q), Or.inr ⟨r, by omega, by omega, hall, Or.inl ⟨(fun q => by have q1 := q.1; have q2 := q.2.1; omega), by omega⟩⟩⟩⟩
              · refine lv_iload hx hb dX9_differs_91 (lv_at hl 4 rfl) ?_
                refine lv_aload_n hx hb dX9_differs_93 rfl (lv_at hl 0 rfl) ?_
                refine x_geto hx hb hf9 hw (by first | exact Int.le_refl 0 | omega) (by first | exact zlt hc40 | omega) sl_40_29 lk81 dX9_differs_94 ?_
                refine lv_iconst (v := jI 4) hx hb dX9_differs_97 rfl ?_
                refine x_iald hx hb hK.1 hw (by first | exact Int.le_refl 0 | omega) (by first | exact zlt hc70 | omega) ar_70 (len_E ar_70 (by first | exact Nat.ne_of_beq_eq_false rfl | decide)) (by omega) (by omega) (by omega) dX9_differs_98 ?_
                have f32 : 0 ≤ X21 70 0 4 ∧ X21 70 0 4 ≤ 30 := hRX21 70 0 4
                refine x_icmp_lt (tgt := 111) hx hb (by omega) (by omega) dX9_differs_99 (by decide) (fun c33 => ?_) (fun c33 => ?_)
                · refine lv_bipush (v := jI 30) hx hb dX9_differs_111 (by decide) ?_
                  refine lv_iload_n hx hb dX9_differs_113 rfl (lv_at hl 1 rfl) ?_
                  refine x_imul hx hb dX9_differs_114 ?_
                  refine lv_iload hx hb dX9_differs_115 (lv_at hl 4 rfl) ?_
                  refine x_iadd hx hb dX9_differs_117 ?_
                  refine lv_istore (lv' := [(5, .int (jI ((30 * sv) + r))), (0, .ref (ad 40 0)), (1, .int (jI sv)), (2, .int (jI x)), (3, .int (jI nz)), (4, .int (jI r))]) hx hb dX9_differs_118 hl (by decide) rfl (fun ls hl => ?_)
                  refine lv_bipush (v := jI 120) hx hb dX9_differs_120 (by decide) ?_
                  refine lv_iload hx hb dX9_differs_122 (lv_at hl 5 rfl) ?_
                  refine x_iadd hx hb dX9_differs_124 ?_
                  refine lv_istore (lv' := [(6, .int (jI (120 + r))), (5, .int (jI ((30 * sv) + r))), (0, .ref (ad 40 0)), (1, .int (jI sv)), (2, .int (jI x)), (3, .int (jI nz)), (4, .int (jI r))]) hx hb dX9_differs_125 hl (by decide) rfl (fun ls hl => ?_)
                  have lp171 : ∀ (nn : Nat) (sm : Int) (k : Int) (H : Heap) (locs : List Loc) (ls : Array Slot), (5 - k) < (nn : Int) → (0 ≤ sm ∧ sm ≤ 1) → (0 ≤ k ∧ k ≤ 5) → (sm = 1 → X21 71 0 (30 * sv + r) = X21 71 0 (120 + r) ∧ X21 72 0 (30 * sv + r) = X21 72 0 (120 + r) ∧ ∀ j, 0 ≤ j → j < k → X21 73 0 (5 * (30 * sv + r) + j) = X21 73 0 (5 * (120 + r) + j) ∧ X21 74 0 (5 * (30 * sv + r) + j) = X21 74 0 (5 * (120 + r) + j)) → (sm = 0 → ¬ shM X21 sv r) → wd D tc base (ad, cnt, X21, Y, ln) H → va_S (frA base) s.heap H locs → lv_has ls 12 [(0, .ref (ad 40 0)), (1, .int (jI sv)), (2, .int (jI x)), (3, .int (jI nz)), (4, .int (jI r)), (5, .int (jI ((30 * sv) + r))), (6, .int (jI (120 + r))), (7, .int (jI sm)), (8, .int (jI k))] → W p l e ({ frames := 2, cells := 0, slots := 0, locals := 53 } : Room) s m av9 below meth c H locs 0 0 Q9 (F0 m 171 ls []) := by
                    intro nn
                    induction nn with
                    | zero => intro sm k H locs ls hm hsm hk hsm1 hsm0 hw hS hl; exfalso; omega
                    | succ nn ih171 =>
                      intro sm k H locs ls hm hsm hk hsm1 hsm0 hw hS hl
                      skip
                      refine lv_iload hx hb dX9_differs_171 (lv_at hl 7 rfl) ?_
                      have lp272 : ∀ (nn : Nat) (k : Int) (H : Heap) (locs : List Loc) (ls : Array Slot), (5 - k) < (nn : Int) → (0 ≤ k ∧ k ≤ 5) → (shM X21 sv r) → (∀ f, 0 ≤ f → f < k → vqM X21 sv r f) → wd D tc base (ad, cnt, X21, Y, ln) H → va_S (frA base) s.heap H locs → lv_has ls 12 [(0, .ref (ad 40 0)), (1, .int (jI sv)), (2, .int (jI x)), (3, .int (jI nz)), (4, .int (jI r)), (5, .int (jI ((30 * sv) + r))), (6, .int (jI (120 + r))), (8, .int (jI k))] → W p l e ({ frames := 2, cells := 0, slots := 0, locals := 53 } : Room) s m av9 below meth c H locs 0 0 Q9 (F0 m 272 ls []) := by
                        intro nn
                        induction nn with
                        | zero => intro k H locs ls hm hk hsh hvk hw hS hl; exfalso; omega
                        | succ nn ih272 =>
                          intro k H locs ls hm hk hsh hvk hw hS hl
                          refine lv_iload hx hb dX9_differs_272 (lv_at hl 7 rfl) ?_
                          refine lv_aload_n hx hb dX9_differs_274 rfl (lv_at hl 0 rfl) ?_
                          refine x_geto hx hb hf9 hw (by first | exact Int.le_refl 0 | omega) (by first | exact zlt hc40 | omega) sl_40_31 lk87 dX9_differs_275 ?_
                          refine lv_iload hx hb dX9_differs_278 (lv_at hl 5 rfl) ?_
                          refine x_iald hx hb hK.1 hw (by first | exact Int.le_refl 0 | omega) (by first | exact zlt hc72 | omega) ar_72 (len_E ar_72 (by first | exact Nat.ne_of_beq_eq_false rfl | decide)) (by omega) (by omega) (by omega) dX9_differs_280 ?_
                          have f34 : 0 ≤ X21 72 0 ((30 * sv) + r) ∧ X21 72 0 ((30 * sv) + r) ≤ 5 := hRX21 72 0 ((30 * sv) + r)
                          refine x_icmp_ge (tgt := 411) hx hb (by omega) (by omega) dX9_differs_281 (by decide) (fun c35 => ?_) (fun c35 => ?_)
                          · refine lv_iinc (v := jI (r + 1)) (lv' := [(4, .int (jI (r + 1))), (0, .ref (ad 40 0)), (1, .int (jI sv)), (2, .int (jI x)), (3, .int (jI nz)), (5, .int (jI ((30 * sv) + r))), (6, .int (jI (120 + r))), (8, .int (jI k))]) hx hb dX9_differs_411 hl (k := 4) rfl (jI_add _ _) (by decide) rfl (fun ls hl => ?_)
                            refine lv_goto (tgt := 74) hx hb dX9_differs_414 (by decide) ?_
                            exact ih74 nz (r + 1) _ _ _ (by omega) (by omega) (by omega) (hnzv) (fun r' a b => if hr9 : r' = r then (by rw [hr9]; exact ⟨hsh, fun f f0 f1 => hvk f f0 (by omega)⟩) else hall r' a (by omega)) hw hS (lv_sub hl [1, 2, 3, 4, 0] rfl)
                          · refine lv_aload_n hx hb dX9_differs_284 rfl (lv_at hl 0 rfl) ?_
                            refine x_geto hx hb hf9 hw (by first | exact Int.le_refl 0 | omega) (by first | exact zlt hc40 | omega) sl_40_34 lk96 dX9_differs_285 ?_
                            refine lv_iconst (v := jI 5) hx hb dX9_differs_288 rfl ?_
                            refine lv_iload hx hb dX9_differs_289 (lv_at hl 5 rfl) ?_
                            refine x_imul hx hb dX9_differs_291 ?_
                            refine lv_iload hx hb dX9_differs_292 (lv_at hl 7 rfl) ?_
                            refine x_iadd hx hb dX9_differs_294 ?_
                            obtain ⟨hv1, hv2, hv3⟩ := (hMIX21.2.2.1 sv r (by omega) (by omega) (by omega) (by omega)).2 k (by omega) (by omega)
                            refine x_lald hx hb hK.1 hw (by first | exact Int.le_refl 0 | omega) (by first | exact zlt hc75 | omega) ar_75 (len_E ar_75 (by first | exact Nat.ne_of_beq_eq_false rfl | decide)) (by omega) (by omega) (by omega) dX9_differs_295 ?_
                            have f36 : (-9223372036854775808) ≤ X21 75 0 ((5 * ((30 * sv) + r)) + k) ∧ X21 75 0 ((5 * ((30 * sv) + r)) + k) ≤ 9223372036854775807 := hRX21 75 0 ((5 * ((30 * sv) + r)) + k)
                            refine lv_lstore (lv' := [(9, .long (jL (X21 75 0 ((5 * ((30 * sv) + r)) + k)))), (0, .ref (ad 40 0)), (1, .int (jI sv)), (2, .int (jI x)), (3, .int (jI nz)), (4, .int (jI r)), (5, .int (jI ((30 * sv) + r))), (6, .int (jI (120 + r))), (8, .int (jI k))]) hx hb dX9_differs_296 hl (by decide) rfl (fun ls hl => ?_)
                            refine lv_lload hx hb dX9_differs_298 (lv_at hl 0 rfl) ?_
                            refine lv_aload_n hx hb dX9_differs_300 rfl (lv_at hl 1 rfl) ?_
                            refine x_geto hx hb hf9 hw (by first | exact Int.le_refl 0 | omega) (by first | exact zlt hc40 | omega) sl_40_34 lk96 dX9_differs_301 ?_
                            refine lv_iconst (v := jI 5) hx hb dX9_differs_304 rfl ?_
                            refine lv_iload hx hb dX9_differs_305 (lv_at hl 7 rfl) ?_
                            refine x_imul hx hb dX9_differs_307 ?_
                            refine lv_iload hx hb dX9_differs_308 (lv_at hl 8 rfl) ?_
                            refine x_iadd hx hb dX9_differs_310 ?_
                            refine x_lald hx hb hK.1 hw (by first | exact Int.le_refl 0 | omega) (by first | exact zlt hc75 | omega) ar_75 (len_E ar_75 (by first | exact Nat.ne_of_beq_eq_false rfl | decide)) (by omega) (by omega) (by omega) dX9_differs_311 ?_
                            have f37 : (-9223372036854775808) ≤ X21 75 0 ((5 * (120 + r)) + k) ∧ X21 75 0 ((5 * (120 + r)) + k) ≤ 9223372036854775807 := hRX21 75 0 ((5 * (120 + r)) + k)
                            refine x_lcmp hx hb (by omega) (by omega) dX9_differs_312 ?_
                            obtain ⟨z38, ez38⟩ : ∃ y : Int, y = cmpZ (X21 75 0 ((5 * ((30 * sv) + r)) + k)) (X21 75 0 ((5 * (120 + r)) + k)) := ⟨_, rfl⟩
                            rw [← ez38]
                            have gz38 : (z38 < 0 ↔ ((X21 75 0 ((5 * ((30 * sv) + r)) + k)) : Int) < (X21 75 0 ((5 * (120 + r)) + k))) ∧ (z38 = 0 ↔ ((X21 75 0 ((5 * ((30 * sv) + r)) + k)) : Int) = (X21 75 0 ((5 * (120 + r)) + k))) ∧ -1 ≤ z38 ∧ z38 ≤ 1 := by rw [ez38]; exact ⟨cmpZ_lt, cmpZ_eq, (cmpZ_r _ _).1, (cmpZ_r _ _).2⟩
                            clear ez38
                            refine x_if_eq (tgt := 320) hx hb (by omega) dX9_differs_313 (by decide) (fun c39 => ?_) (fun c39 => ?_)
                            · replace c39 := cz_eqT gz38 c39
                              clear gz38
                              refine lv_iconst (v := jI 0) hx hb dX9_differs_320 rfl ?_
                              refine lv_istore (lv' := [(11, .int (jI 0)), (9, .long (jL (X21 75 0 ((5 * ((30 * sv) + r)) + k)))), (0, .ref (ad 40 0)), (1, .int (jI sv)), (2, .int (jI x)), (3, .int (jI nz)), (4, .int (jI r)), (5, .int (jI ((30 * sv) + r))), (6, .int (jI (120 + r))), (8, .int (jI k))]) hx hb dX9_differs_321 hl (by decide) rfl (fun ls hl => ?_)
                              refine lv_iload hx hb dX9_differs_323 (lv_at hl 0 rfl) ?_
                              refine x_if_neF (tgt := 374) hx hb (by omega) (by decide) dX9_differs_325 (by decide) ?_
                              refine lv_aload_n hx hb dX9_differs_328 rfl (lv_at hl 2 rfl) ?_
                              refine x_geto hx hb hf9 hw (by first | exact Int.le_refl 0 | omega) (by first | exact zlt hc40 | omega) sl_40_33 lk93 dX9_differs_329 ?_
                              refine lv_iconst (v := jI 5) hx hb dX9_differs_332 rfl ?_
                              refine lv_iload hx hb dX9_differs_333 (lv_at hl 7 rfl) ?_
                              refine x_imul hx hb dX9_differs_335 ?_
                              refine lv_iload hx hb dX9_differs_336 (lv_at hl 9 rfl) ?_
                              refine x_iadd hx hb dX9_differs_338 ?_
                              refine x_iald hx hb hK.1 hw (by first | exact Int.le_refl 0 | omega) (by first | exact zlt hc74 | omega) ar_74 (len_E ar_74 (by first | exact Nat.ne_of_beq_eq_false rfl | decide)) (by omega) (by omega) (by omega) dX9_differs_339 ?_
                              have f40 : 0 ≤ X21 74 0 ((5 * ((30 * sv) + r)) + k) ∧ X21 74 0 ((5 * ((30 * sv) + r)) + k) ≤ 5 := hRX21 74 0 ((5 * ((30 * sv) + r)) + k)
                              refine lv_iconst (v := jI 2) hx hb dX9_differs_340 rfl ?_
                              refine x_icmp_le (tgt := 378) hx hb (by omega) (by omega) dX9_differs_341 (by decide) (fun c41 => ?_) (fun c41 => ?_)
                              · refine lv_iconst (v := jI 0) hx hb dX9_differs_378 rfl ?_
                                refine lv_istore (lv' := [(11, .int (jI 0)), (9, .long (jL (X21 75 0 ((5 * ((30 * sv) + r)) + k)))), (0, .ref (ad 40 0)), (1, .int (jI sv)), (2, .int (jI x)), (3, .int (jI nz)), (4, .int (jI r)), (5, .int (jI ((30 * sv) + r))), (6, .int (jI (120 + r))), (8, .int (jI k))]) hx hb dX9_differs_379 hl (by decide) rfl (fun ls hl => ?_)
                                refine lv_iload hx hb dX9_differs_381 (lv_at hl 0 rfl) ?_
                                refine x_if_eqT (tgt := 405) hx hb (by omega) (by decide) dX9_differs_383 (by decide) ?_
                                refine lv_iinc (v := jI (k + 1)) (lv' := [(8, .int (jI (k + 1))), (11, .int (jI 0)), (9, .long (jL (X21 75 0 ((5 * ((30 * sv) + r)) + k)))), (0, .ref (ad 40 0)), (1, .int (jI sv)), (2, .int (jI x)), (3, .int (jI nz)), (4, .int (jI r)), (5, .int (jI ((30 * sv) + r))), (6, .int (jI (120 + r)))]) hx hb dX9_differs_405 hl (k := 9) rfl (jI_add _ _) (by decide) rfl (fun ls hl => ?_)
                                refine lv_goto (tgt := 272) hx hb dX9_differs_408 (by decide) ?_
                                exact ih272 (k + 1) _ _ _ (by omega) (by omega) (hsh) (fun f a b => if hf9 : f = k then (by rw [hf9]; exact (by (try delta Hid at *); first | exact ⟨by omega, fun a9 b9 => (by exfalso; omega)⟩ | exact ⟨by omega, fun a9 b9 => (by rcases hrdf with ⟨e9, h9⟩ | ⟨e9, h9⟩; exact h9; exfalso; omega)⟩)) else hvk f a (by omega)) hw hS (lv_sub hl [3, 4, 5, 6, 7, 8, 9, 0] rfl)
                              · refine lv_lload hx hb dX9_differs_344 (lv_at hl 1 rfl) ?_
                                refine lv_lconst (v := jL 0) hx hb dX9_differs_346 (by decide) ?_
                                refine x_lcmp hx hb (by omega) (by omega) dX9_differs_347 ?_
                                obtain ⟨z42, ez42⟩ : ∃ y : Int, y = cmpZ (X21 75 0 ((5 * ((30 * sv) + r)) + k)) 0 := ⟨_, rfl⟩
                                rw [← ez42]
                                have gz42 : (z42 < 0 ↔ ((X21 75 0 ((5 * ((30 * sv) + r)) + k)) : Int) < 0) ∧ (z42 = 0 ↔ ((X21 75 0 ((5 * ((30 * sv) + r)) + k)) : Int) = 0) ∧ -1 ≤ z42 ∧ z42 ≤ 1 := by rw [ez42]; exact ⟨cmpZ_lt, cmpZ_eq, (cmpZ_r _ _).1, (cmpZ_r _ _).2⟩
                                clear ez42
                                refine x_if_lt (tgt := 378) hx hb (by omega) dX9_differs_348 (by decide) (fun c43 => ?_) (fun c43 => ?_)
                                · replace c43 := cz_ltT gz42 c43
                                  clear gz42
                                  refine lv_iconst (v := jI 0) hx hb dX9_differs_378 rfl ?_
                                  refine lv_istore (lv' := [(11, .int (jI 0)), (9, .long (jL (X21 75 0 ((5 * ((30 * sv) + r)) + k)))), (0, .ref (ad 40 0)), (1, .int (jI sv)), (2, .int (jI x)), (3, .int (jI nz)), (4, .int (jI r)), (5, .int (jI ((30 * sv) + r))), (6, .int (jI (120 + r))), (8, .int (jI k))]) hx hb dX9_differs_379 hl (by decide) rfl (fun ls hl => ?_)
                                  refine lv_iload hx hb dX9_differs_381 (lv_at hl 0 rfl) ?_
                                  refine x_if_eqT (tgt := 405) hx hb (by omega) (by decide) dX9_differs_383 (by decide) ?_
                                  refine lv_iinc (v := jI (k + 1)) (lv' := [(8, .int (jI (k + 1))), (11, .int (jI 0)), (9, .long (jL (X21 75 0 ((5 * ((30 * sv) + r)) + k)))), (0, .ref (ad 40 0)), (1, .int (jI sv)), (2, .int (jI x)), (3, .int (jI nz)), (4, .int (jI r)), (5, .int (jI ((30 * sv) + r))), (6, .int (jI (120 + r)))]) hx hb dX9_differs_405 hl (k := 9) rfl (jI_add _ _) (by decide) rfl (fun ls hl => ?_)
                                  refine lv_goto (tgt := 272) hx hb dX9_differs_408 (by decide) ?_
                                  exact ih272 (k + 1) _ _ _ (by omega) (by omega) (hsh) (fun f a b => if hf9 : f = k then (by rw [hf9]; exact (by (try delta Hid at *); first | exact ⟨by omega, fun a9 b9 => (by exfalso; omega)⟩ | exact ⟨by omega, fun a9 b9 => (by rcases hrdf with ⟨e9, h9⟩ | ⟨e9, h9⟩; exact h9; exfalso; omega)⟩)) else hvk f a (by omega)) hw hS (lv_sub hl [3, 4, 5, 6, 7, 8, 9, 0] rfl)
                                · replace c43 := cz_ltF gz42 c43
                                  clear gz42
                                  refine lv_aload_n hx hb dX9_differs_351 rfl (lv_at hl 2 rfl) ?_
                                  refine lv_sipush (v := jI 150) hx hb dX9_differs_352 (by decide) ?_
                                  refine lv_iload_n hx hb dX9_differs_355 rfl (lv_at hl 3 rfl) ?_
                                  refine x_imul hx hb dX9_differs_356 ?_
                                  refine lv_lload hx hb dX9_differs_357 (lv_at hl 1 rfl) ?_
                                  refine x_l2i hx hb dX9_differs_359 ?_
                                  refine x_iadd hx hb dX9_differs_360 ?_
                                  refine lv_sipush (v := jI 600) hx hb dX9_differs_361 (by decide) ?_
                                  refine lv_lload hx hb dX9_differs_364 (lv_at hl 1 rfl) ?_
                                  refine x_l2i hx hb dX9_differs_366 ?_
                                  refine x_iadd hx hb dX9_differs_367 ?_
                                  refine gos_i (run_V (As := [.int (jI ((150 * sv) + (X21 75 0 ((5 * ((30 * sv) + r)) + k)))), .int (jI (600 + (X21 75 0 ((5 * ((30 * sv) + r)) + k))))]) (rest := []) hx hb hml hown hts (c_X9_rowsDiffer l D tc base ad cnt X21 Y ln hRX21 hFx hMIX21 ((150 * sv) + (X21 75 0 ((5 * ((30 * sv) + r)) + k))) (600 + (X21 75 0 ((5 * ((30 * sv) + r)) + k))) (by omega) (by omega)) (cwV 2 hts gX9_differs_X9_rowsDiffer rfl rfl rfl (by first | exact hd_X9_rowsDiffer | decide +kernel) ⟨Nat.le_of_ble_eq_true rfl, Nat.le_of_ble_eq_true rfl⟩) hK hw (by first | exact Int.le_refl 0 | omega) (by first | exact zlt hc40 | omega) sl_40_0 rfl rfl hl.1 rfl (Nat.le_of_ble_eq_true rfl) dX9_differs_368 ⟨Nat.le_of_ble_eq_true rfl, Nat.le_of_ble_eq_true rfl⟩) hS (fun z44 u45 H locs p46 hw hS => ?_)
                                  obtain ⟨eu45, p46, hrdf⟩ := p46
                                  subst eu45
                                  refine x_if_eq (tgt := 378) hx hb (by omega) dX9_differs_371 (by decide) (fun c47 => ?_) (fun c47 => ?_)
                                  · refine lv_iconst (v := jI 0) hx hb dX9_differs_378 rfl ?_
                                    refine lv_istore (lv' := [(11, .int (jI 0)), (9, .long (jL (X21 75 0 ((5 * ((30 * sv) + r)) + k)))), (0, .ref (ad 40 0)), (1, .int (jI sv)), (2, .int (jI x)), (3, .int (jI nz)), (4, .int (jI r)), (5, .int (jI ((30 * sv) + r))), (6, .int (jI (120 + r))), (8, .int (jI k))]) hx hb dX9_differs_379 hl (by decide) rfl (fun ls hl => ?_)
                                    refine lv_iload hx hb dX9_differs_381 (lv_at hl 0 rfl) ?_
                                    refine x_if_eqT (tgt := 405) hx hb (by omega) (by decide) dX9_differs_383 (by decide) ?_
                                    refine lv_iinc (v := jI (k + 1)) (lv' := [(8, .int (jI (k + 1))), (11, .int (jI 0)), (9, .long (jL (X21 75 0 ((5 * ((30 * sv) + r)) + k)))), (0, .ref (ad 40 0)), (1, .int (jI sv)), (2, .int (jI x)), (3, .int (jI nz)), (4, .int (jI r)), (5, .int (jI ((30 * sv) + r))), (6, .int (jI (120 + r)))]) hx hb dX9_differs_405 hl (k := 9) rfl (jI_add _ _) (by decide) rfl (fun ls hl => ?_)
                                    refine lv_goto (tgt := 272) hx hb dX9_differs_408 (by decide) ?_
                                    exact ih272 (k + 1) _ _ _ (by omega) (by omega) (hsh) (fun f a b => if hf9 : f = k then (by rw [hf9]; exact (by (try delta Hid at *); first | exact ⟨by omega, fun a9 b9 => (by exfalso; omega)⟩ | exact ⟨by omega, fun a9 b9 => (by rcases hrdf with ⟨e9, h9⟩ | ⟨e9, h9⟩; exact h9; exfalso; omega)⟩)) else hvk f a (by omega)) hw hS (lv_sub hl [3, 4, 5, 6, 7, 8, 9, 0] rfl)
                                  · refine lv_iconst (v := jI 1) hx hb dX9_differs_374 rfl ?_
                                    refine lv_goto (tgt := 379) hx hb dX9_differs_375 (by decide) ?_
                                    refine lv_istore (lv' := [(11, .int (jI 1)), (9, .long (jL (X21 75 0 ((5 * ((30 * sv) + r)) + k)))), (0, .ref (ad 40 0)), (1, .int (jI sv)), (2, .int (jI x)), (3, .int (jI nz)), (4, .int (jI r)), (5, .int (jI ((30 * sv) + r))), (6, .int (jI (120 + r))), (8, .int (jI k))]) hx hb dX9_differs_379 hl (by decide) rfl (fun ls hl => ?_)
                                    refine lv_iload hx hb dX9_differs_381 (lv_at hl 0 rfl) ?_
                                    refine x_if_eqF (tgt := 405) hx hb (by omega) (by decide) dX9_differs_383 (by decide) ?_
                                    refine lv_bipush (v := jI 100) hx hb dX9_differs_386 (by decide) ?_
                                    refine lv_iload hx hb dX9_differs_388 (lv_at hl 6 rfl) ?_
                                    refine x_imul hx hb dX9_differs_390 ?_
                                    refine lv_aload_n hx hb dX9_differs_391 rfl (lv_at hl 2 rfl) ?_
                                    refine x_geto hx hb hf9 hw (by first | exact Int.le_refl 0 | omega) (by first | exact zlt hc40 | omega) sl_40_32 lk90 dX9_differs_392 ?_
                                    refine lv_iconst (v := jI 5) hx hb dX9_differs_395 rfl ?_
                                    refine lv_iload hx hb dX9_differs_396 (lv_at hl 7 rfl) ?_
                                    refine x_imul hx hb dX9_differs_398 ?_
                                    refine lv_iload hx hb dX9_differs_399 (lv_at hl 9 rfl) ?_
                                    refine x_iadd hx hb dX9_differs_401 ?_
                                    refine x_iald hx hb hK.1 hw (by first | exact Int.le_refl 0 | omega) (by first | exact zlt hc73 | omega) ar_73 (len_E ar_73 (by first | exact Nat.ne_of_beq_eq_false rfl | decide)) (by omega) (by omega) (by omega) dX9_differs_402 ?_
                                    have f48 : 0 ≤ X21 73 0 ((5 * ((30 * sv) + r)) + k) ∧ X21 73 0 ((5 * ((30 * sv) + r)) + k) ≤ 19 := hRX21 73 0 ((5 * ((30 * sv) + r)) + k)
                                    refine x_iadd hx hb dX9_differs_403 ?_
                                    rw [hQ9]
                                    refine ret_i (mc := 0) (ms := 0) hx hb hr hlocks hw hS (by first | exact Nat.le_of_ble_eq_true rfl | omega) (by first | exact Nat.le_of_ble_eq_true rfl | omega) dX9_differs_404 ?_
                                    have q49 : Frm [4001] X X1 := by rw [hX1]; exact Frm.set Frm.rf (show 4001 ∈ [4001] by first | exact nlm_in rfl | decide)
                                    have hrd50 := rdr_eq (L := [4001]) q49 (by decide)
                                    have hsx51 := hsvX21
                                    rw [hrd50.1, hrd50.2.1, hrd50.2.2, Frm.arr q49 48 (by decide +kernel) (by decide), Frm.arr q49 55 (by decide +kernel) (by decide)] at hsx51
                                    exact ⟨X21, rfl, hRX21, hFX21, hMIX21, by omega, S4.tr (S4.frm q49 (by decide)) h4X21, S5.tr (S5.frm q49 (by decide)) h5X21, Or.inr ⟨(by (try delta Hid at *); omega), (by rcases hsx51 with ⟨-, q, -⟩ | ⟨-, -, q⟩; exact absurd q (by decide); exact q), Or.inr ⟨r, by omega, by omega, hall, Or.inr ⟨hsh, k, by omega, (show k < X21 72 0 (30 * sv + r) by omega), hvk, (fun q => by (try delta Hid at *); first | (have q1 := q.1; omega) | exact absurd (q.2 (by omega) (by omega)) (by assumption) | (rcases hrdf with ⟨e9, h9⟩ | ⟨e9, h9⟩; omega; exact h9 (q.2 (by omega) (by omega)))), (show _ = 100 * r + X21 73 0 (5 * (30 * sv + r) + k) by omega)⟩⟩⟩⟩
                            · replace c39 := cz_eqF gz38 c39
                              clear gz38
                              refine lv_iconst (v := jI 1) hx hb dX9_differs_316 rfl ?_
                              refine lv_goto (tgt := 321) hx hb dX9_differs_317 (by decide) ?_
                              refine lv_istore (lv' := [(11, .int (jI 1)), (9, .long (jL (X21 75 0 ((5 * ((30 * sv) + r)) + k)))), (0, .ref (ad 40 0)), (1, .int (jI sv)), (2, .int (jI x)), (3, .int (jI nz)), (4, .int (jI r)), (5, .int (jI ((30 * sv) + r))), (6, .int (jI (120 + r))), (8, .int (jI k))]) hx hb dX9_differs_321 hl (by decide) rfl (fun ls hl => ?_)
                              refine lv_iload hx hb dX9_differs_323 (lv_at hl 0 rfl) ?_
                              refine x_if_neT (tgt := 374) hx hb (by omega) (by decide) dX9_differs_325 (by decide) ?_
                              refine lv_iconst (v := jI 1) hx hb dX9_differs_374 rfl ?_
                              refine lv_goto (tgt := 379) hx hb dX9_differs_375 (by decide) ?_
                              refine lv_istore (lv' := [(11, .int (jI 1)), (9, .long (jL (X21 75 0 ((5 * ((30 * sv) + r)) + k)))), (0, .ref (ad 40 0)), (1, .int (jI sv)), (2, .int (jI x)), (3, .int (jI nz)), (4, .int (jI r)), (5, .int (jI ((30 * sv) + r))), (6, .int (jI (120 + r))), (8, .int (jI k))]) hx hb dX9_differs_379 hl (by decide) rfl (fun ls hl => ?_)
                              refine lv_iload hx hb dX9_differs_381 (lv_at hl 0 rfl) ?_
                              refine x_if_eqF (tgt := 405) hx hb (by omega) (by decide) dX9_differs_383 (by decide) ?_
                              refine lv_bipush (v := jI 100) hx hb dX9_differs_386 (by decide) ?_
                              refine lv_iload hx hb dX9_differs_388 (lv_at hl 6 rfl) ?_
                              refine x_imul hx hb dX9_differs_390 ?_
                              refine lv_aload_n hx hb dX9_differs_391 rfl (lv_at hl 2 rfl) ?_
                              refine x_geto hx hb hf9 hw (by first | exact Int.le_refl 0 | omega) (by first | exact zlt hc40 | omega) sl_40_32 lk90 dX9_differs_392 ?_
                              refine lv_iconst (v := jI 5) hx hb dX9_differs_395 rfl ?_
                              refine lv_iload hx hb dX9_differs_396 (lv_at hl 7 rfl) ?_
                              refine x_imul hx hb dX9_differs_398 ?_
                              refine lv_iload hx hb dX9_differs_399 (lv_at hl 9 rfl) ?_
                              refine x_iadd hx hb dX9_differs_401 ?_
                              refine x_iald hx hb hK.1 hw (by first | exact Int.le_refl 0 | omega) (by first | exact zlt hc73 | omega) ar_73 (len_E ar_73 (by first | exact Nat.ne_of_beq_eq_false rfl | decide)) (by omega) (by omega) (by omega) dX9_differs_402 ?_
                              have f52 : 0 ≤ X21 73 0 ((5 * ((30 * sv) + r)) + k) ∧ X21 73 0 ((5 * ((30 * sv) + r)) + k) ≤ 19 := hRX21 73 0 ((5 * ((30 * sv) + r)) + k)
                              refine x_iadd hx hb dX9_differs_403 ?_
                              rw [hQ9]
                              refine ret_i (mc := 0) (ms := 0) hx hb hr hlocks hw hS (by first | exact Nat.le_of_ble_eq_true rfl | omega) (by first | exact Nat.le_of_ble_eq_true rfl | omega) dX9_differs_404 ?_
                              have q53 : Frm [4001] X X1 := by rw [hX1]; exact Frm.set Frm.rf (show 4001 ∈ [4001] by first | exact nlm_in rfl | decide)
                              have hrd54 := rdr_eq (L := [4001]) q53 (by decide)
                              have hsx55 := hsvX21
                              rw [hrd54.1, hrd54.2.1, hrd54.2.2, Frm.arr q53 48 (by decide +kernel) (by decide), Frm.arr q53 55 (by decide +kernel) (by decide)] at hsx55
                              exact ⟨X21, rfl, hRX21, hFX21, hMIX21, by omega, S4.tr (S4.frm q53 (by decide)) h4X21, S5.tr (S5.frm q53 (by decide)) h5X21, Or.inr ⟨(by (try delta Hid at *); omega), (by rcases hsx55 with ⟨-, q, -⟩ | ⟨-, -, q⟩; exact absurd q (by decide); exact q), Or.inr ⟨r, by omega, by omega, hall, Or.inr ⟨hsh, k, by omega, (show k < X21 72 0 (30 * sv + r) by omega), hvk, (fun q => by (try delta Hid at *); first | (have q1 := q.1; omega) | exact absurd (q.2 (by omega) (by omega)) (by assumption) | (rcases hrdf with ⟨e9, h9⟩ | ⟨e9, h9⟩; omega; exact h9 (q.2 (by omega) (by omega)))), (show _ = 100 * r + X21 73 0 (5 * (30 * sv + r) + k) by omega)⟩⟩⟩⟩
                      refine x_if_eq (tgt := 255) hx hb (by omega) dX9_differs_173 (by decide) (fun c56 => ?_) (fun c56 => ?_)
                      · refine lv_iload hx hb dX9_differs_255 (lv_at hl 7 rfl) ?_
                        refine x_if_ne (tgt := 269) hx hb (by omega) dX9_differs_257 (by decide) (fun c57 => ?_) (fun c57 => ?_)
                        · refine lv_iconst (v := jI 0) hx hb dX9_differs_269 rfl ?_
                          refine lv_istore (lv' := [(8, .int (jI 0)), (0, .ref (ad 40 0)), (1, .int (jI sv)), (2, .int (jI x)), (3, .int (jI nz)), (4, .int (jI r)), (5, .int (jI ((30 * sv) + r))), (6, .int (jI (120 + r))), (7, .int (jI sm))]) hx hb dX9_differs_270 hl (by decide) rfl (fun ls hl => ?_)
                          exact lp272 (5 - 0 : Int).toNat.succ 0 _ _ _ (by omega) (by omega) ((by obtain ⟨q1, q2, q3⟩ := hsm1 (by omega); exact ⟨by omega, by omega, q1, q2, fun j a b => q3 j a (by omega)⟩)) (fun f a b => by omega) hw hS (lv_sub hl [1, 2, 3, 4, 5, 6, 7, 0] rfl)
                        · refine lv_bipush (v := jI 100) hx hb dX9_differs_260 (by decide) ?_
                          refine lv_iload hx hb dX9_differs_262 (lv_at hl 4 rfl) ?_
                          refine x_imul hx hb dX9_differs_264 ?_
                          refine lv_bipush (v := jI 99) hx hb dX9_differs_265 (by decide) ?_
                          refine x_iadd hx hb dX9_differs_267 ?_
                          rw [hQ9]
                          refine ret_i (mc := 0) (ms := 0) hx hb hr hlocks hw hS (by first | exact Nat.le_of_ble_eq_true rfl | omega) (by first | exact Nat.le_of_ble_eq_true rfl | omega) dX9_differs_268 ?_
                          have q58 : Frm [4001] X X1 := by rw [hX1]; exact Frm.set Frm.rf (show 4001 ∈ [4001] by first | exact nlm_in rfl | decide)
                          have hrd59 := rdr_eq (L := [4001]) q58 (by decide)
                          have hsx60 := hsvX21
                          rw [hrd59.1, hrd59.2.1, hrd59.2.2, Frm.arr q58 48 (by decide +kernel) (by decide), Frm.arr q58 55 (by decide +kernel) (by decide)] at hsx60
                          exact ⟨X21, rfl, hRX21, hFX21, hMIX21, by omega, S4.tr (S4.frm q58 (by decide)) h4X21, S5.tr (S5.frm q58 (by decide)) h5X21, Or.inr ⟨(by (try delta Hid at *); omega), (by rcases hsx60 with ⟨-, q, -⟩ | ⟨-, -, q⟩; exact absurd q (by decide); exact q), Or.inr ⟨r, by omega, by omega, hall, Or.inl ⟨hsm0 (by omega), by omega⟩⟩⟩⟩
                      · refine lv_iload hx hb dX9_differs_176 (lv_at hl 8 rfl) ?_
                        refine lv_aload_n hx hb dX9_differs_178 rfl (lv_at hl 0 rfl) ?_
                        refine x_geto hx hb hf9 hw (by first | exact Int.le_refl 0 | omega) (by first | exact zlt hc40 | omega) sl_40_31 lk87 dX9_differs_179 ?_
                        refine lv_iload hx hb dX9_differs_182 (lv_at hl 5 rfl) ?_
                        refine x_iald hx hb hK.1 hw (by first | exact Int.le_refl 0 | omega) (by first | exact zlt hc72 | omega) ar_72 (len_E ar_72 (by first | exact Nat.ne_of_beq_eq_false rfl | decide)) (by omega) (by omega) (by omega) dX9_differs_184 ?_
                        have f61 : 0 ≤ X21 72 0 ((30 * sv) + r) ∧ X21 72 0 ((30 * sv) + r) ≤ 5 := hRX21 72 0 ((30 * sv) + r)
                        refine x_icmp_ge (tgt := 255) hx hb (by omega) (by omega) dX9_differs_185 (by decide) (fun c62 => ?_) (fun c62 => ?_)
                        · refine lv_iload hx hb dX9_differs_255 (lv_at hl 7 rfl) ?_
                          refine x_if_ne (tgt := 269) hx hb (by omega) dX9_differs_257 (by decide) (fun c63 => ?_) (fun c63 => ?_)
                          · refine lv_iconst (v := jI 0) hx hb dX9_differs_269 rfl ?_
                            refine lv_istore (lv' := [(8, .int (jI 0)), (0, .ref (ad 40 0)), (1, .int (jI sv)), (2, .int (jI x)), (3, .int (jI nz)), (4, .int (jI r)), (5, .int (jI ((30 * sv) + r))), (6, .int (jI (120 + r))), (7, .int (jI sm))]) hx hb dX9_differs_270 hl (by decide) rfl (fun ls hl => ?_)
                            exact lp272 (5 - 0 : Int).toNat.succ 0 _ _ _ (by omega) (by omega) ((by obtain ⟨q1, q2, q3⟩ := hsm1 (by omega); exact ⟨by omega, by omega, q1, q2, fun j a b => q3 j a (by omega)⟩)) (fun f a b => by omega) hw hS (lv_sub hl [1, 2, 3, 4, 5, 6, 7, 0] rfl)
                          · refine lv_bipush (v := jI 100) hx hb dX9_differs_260 (by decide) ?_
                            refine lv_iload hx hb dX9_differs_262 (lv_at hl 4 rfl) ?_
                            refine x_imul hx hb dX9_differs_264 ?_
                            refine lv_bipush (v := jI 99) hx hb dX9_differs_265 (by decide) ?_
                            refine x_iadd hx hb dX9_differs_267 ?_
                            rw [hQ9]
                            refine ret_i (mc := 0) (ms := 0) hx hb hr hlocks hw hS (by first | exact Nat.le_of_ble_eq_true rfl | omega) (by first | exact Nat.le_of_ble_eq_true rfl | omega) dX9_differs_268 ?_
                            have q64 : Frm [4001] X X1 := by rw [hX1]; exact Frm.set Frm.rf (show 4001 ∈ [4001] by first | exact nlm_in rfl | decide)
                            have hrd65 := rdr_eq (L := [4001]) q64 (by decide)
                            have hsx66 := hsvX21
                            rw [hrd65.1, hrd65.2.1, hrd65.2.2, Frm.arr q64 48 (by decide +kernel) (by decide), Frm.arr q64 55 (by decide +kernel) (by decide)] at hsx66
                            exact ⟨X21, rfl, hRX21, hFX21, hMIX21, by omega, S4.tr (S4.frm q64 (by decide)) h4X21, S5.tr (S5.frm q64 (by decide)) h5X21, Or.inr ⟨(by (try delta Hid at *); omega), (by rcases hsx66 with ⟨-, q, -⟩ | ⟨-, -, q⟩; exact absurd q (by decide); exact q), Or.inr ⟨r, by omega, by omega, hall, Or.inl ⟨hsm0 (by omega), by omega⟩⟩⟩⟩
                        · refine lv_aload_n hx hb dX9_differs_188 rfl (lv_at hl 0 rfl) ?_
                          refine x_geto hx hb hf9 hw (by first | exact Int.le_refl 0 | omega) (by first | exact zlt hc40 | omega) sl_40_32 lk90 dX9_differs_189 ?_
                          refine lv_iconst (v := jI 5) hx hb dX9_differs_192 rfl ?_
                          refine lv_iload hx hb dX9_differs_193 (lv_at hl 5 rfl) ?_
                          refine x_imul hx hb dX9_differs_195 ?_
                          refine lv_iload hx hb dX9_differs_196 (lv_at hl 8 rfl) ?_
                          refine x_iadd hx hb dX9_differs_198 ?_
                          refine x_iald hx hb hK.1 hw (by first | exact Int.le_refl 0 | omega) (by first | exact zlt hc73 | omega) ar_73 (len_E ar_73 (by first | exact Nat.ne_of_beq_eq_false rfl | decide)) (by omega) (by omega) (by omega) dX9_differs_199 ?_
                          have f67 : 0 ≤ X21 73 0 ((5 * ((30 * sv) + r)) + k) ∧ X21 73 0 ((5 * ((30 * sv) + r)) + k) ≤ 19 := hRX21 73 0 ((5 * ((30 * sv) + r)) + k)
                          refine lv_aload_n hx hb dX9_differs_200 rfl (lv_at hl 0 rfl) ?_
                          refine x_geto hx hb hf9 hw (by first | exact Int.le_refl 0 | omega) (by first | exact zlt hc40 | omega) sl_40_32 lk90 dX9_differs_201 ?_
                          refine lv_iconst (v := jI 5) hx hb dX9_differs_204 rfl ?_
                          refine lv_iload hx hb dX9_differs_205 (lv_at hl 6 rfl) ?_
                          refine x_imul hx hb dX9_differs_207 ?_
                          refine lv_iload hx hb dX9_differs_208 (lv_at hl 8 rfl) ?_
                          refine x_iadd hx hb dX9_differs_210 ?_
                          refine x_iald hx hb hK.1 hw (by first | exact Int.le_refl 0 | omega) (by first | exact zlt hc73 | omega) ar_73 (len_E ar_73 (by first | exact Nat.ne_of_beq_eq_false rfl | decide)) (by omega) (by omega) (by omega) dX9_differs_211 ?_
                          have f68 : 0 ≤ X21 73 0 ((5 * (120 + r)) + k) ∧ X21 73 0 ((5 * (120 + r)) + k) ≤ 19 := hRX21 73 0 ((5 * (120 + r)) + k)
                          refine x_icmp_ne (tgt := 246) hx hb (by omega) (by omega) dX9_differs_212 (by decide) (fun c69 => ?_) (fun c69 => ?_)
                          · refine lv_iconst (v := jI 0) hx hb dX9_differs_246 rfl ?_
                            refine lv_istore (lv' := [(7, .int (jI 0)), (0, .ref (ad 40 0)), (1, .int (jI sv)), (2, .int (jI x)), (3, .int (jI nz)), (4, .int (jI r)), (5, .int (jI ((30 * sv) + r))), (6, .int (jI (120 + r))), (8, .int (jI k))]) hx hb dX9_differs_247 hl (by decide) rfl (fun ls hl => ?_)
                            refine lv_iinc (v := jI (k + 1)) (lv' := [(8, .int (jI (k + 1))), (7, .int (jI 0)), (0, .ref (ad 40 0)), (1, .int (jI sv)), (2, .int (jI x)), (3, .int (jI nz)), (4, .int (jI r)), (5, .int (jI ((30 * sv) + r))), (6, .int (jI (120 + r)))]) hx hb dX9_differs_249 hl (k := 8) rfl (jI_add _ _) (by decide) rfl (fun ls hl => ?_)
                            refine lv_goto (tgt := 171) hx hb dX9_differs_252 (by decide) ?_
                            exact ih171 0 (k + 1) _ _ _ (by omega) (by omega) (by omega) (fun q => (by obtain ⟨q1, q2, q3⟩ := hsm1 (by omega); exact ⟨q1, q2, fun j a b => if hj : j = k then (by rw [hj]; exact ⟨by omega, by omega⟩) else q3 j a (by omega)⟩)) (fun q e => (by have h9 := e.2.2.2.2 k (by omega) (by omega); omega)) hw hS (lv_sub hl [2, 3, 4, 5, 6, 7, 8, 1, 0] rfl)
                          · refine lv_aload_n hx hb dX9_differs_215 rfl (lv_at hl 0 rfl) ?_
                            refine x_geto hx hb hf9 hw (by first | exact Int.le_refl 0 | omega) (by first | exact zlt hc40 | omega) sl_40_33 lk93 dX9_differs_216 ?_
                            refine lv_iconst (v := jI 5) hx hb dX9_differs_219 rfl ?_
                            refine lv_iload hx hb dX9_differs_220 (lv_at hl 5 rfl) ?_
                            refine x_imul hx hb dX9_differs_222 ?_
                            refine lv_iload hx hb dX9_differs_223 (lv_at hl 8 rfl) ?_
                            refine x_iadd hx hb dX9_differs_225 ?_
                            refine x_iald hx hb hK.1 hw (by first | exact Int.le_refl 0 | omega) (by first | exact zlt hc74 | omega) ar_74 (len_E ar_74 (by first | exact Nat.ne_of_beq_eq_false rfl | decide)) (by omega) (by omega) (by omega) dX9_differs_226 ?_
                            have f70 : 0 ≤ X21 74 0 ((5 * ((30 * sv) + r)) + k) ∧ X21 74 0 ((5 * ((30 * sv) + r)) + k) ≤ 5 := hRX21 74 0 ((5 * ((30 * sv) + r)) + k)
                            refine lv_aload_n hx hb dX9_differs_227 rfl (lv_at hl 0 rfl) ?_
                            refine x_geto hx hb hf9 hw (by first | exact Int.le_refl 0 | omega) (by first | exact zlt hc40 | omega) sl_40_33 lk93 dX9_differs_228 ?_
                            refine lv_iconst (v := jI 5) hx hb dX9_differs_231 rfl ?_
                            refine lv_iload hx hb dX9_differs_232 (lv_at hl 6 rfl) ?_
                            refine x_imul hx hb dX9_differs_234 ?_
                            refine lv_iload hx hb dX9_differs_235 (lv_at hl 8 rfl) ?_
                            refine x_iadd hx hb dX9_differs_237 ?_
                            refine x_iald hx hb hK.1 hw (by first | exact Int.le_refl 0 | omega) (by first | exact zlt hc74 | omega) ar_74 (len_E ar_74 (by first | exact Nat.ne_of_beq_eq_false rfl | decide)) (by omega) (by omega) (by omega) dX9_differs_238 ?_
                            have f71 : 0 ≤ X21 74 0 ((5 * (120 + r)) + k) ∧ X21 74 0 ((5 * (120 + r)) + k) ≤ 5 := hRX21 74 0 ((5 * (120 + r)) + k)
                            refine x_icmp_ne (tgt := 246) hx hb (by omega) (by omega) dX9_differs_239 (by decide) (fun c72 => ?_) (fun c72 => ?_)
                            · refine lv_iconst (v := jI 0) hx hb dX9_differs_246 rfl ?_
                              refine lv_istore (lv' := [(7, .int (jI 0)), (0, .ref (ad 40 0)), (1, .int (jI sv)), (2, .int (jI x)), (3, .int (jI nz)), (4, .int (jI r)), (5, .int (jI ((30 * sv) + r))), (6, .int (jI (120 + r))), (8, .int (jI k))]) hx hb dX9_differs_247 hl (by decide) rfl (fun ls hl => ?_)
                              refine lv_iinc (v := jI (k + 1)) (lv' := [(8, .int (jI (k + 1))), (7, .int (jI 0)), (0, .ref (ad 40 0)), (1, .int (jI sv)), (2, .int (jI x)), (3, .int (jI nz)), (4, .int (jI r)), (5, .int (jI ((30 * sv) + r))), (6, .int (jI (120 + r)))]) hx hb dX9_differs_249 hl (k := 8) rfl (jI_add _ _) (by decide) rfl (fun ls hl => ?_)
                              refine lv_goto (tgt := 171) hx hb dX9_differs_252 (by decide) ?_
                              exact ih171 0 (k + 1) _ _ _ (by omega) (by omega) (by omega) (fun q => (by obtain ⟨q1, q2, q3⟩ := hsm1 (by omega); exact ⟨q1, q2, fun j a b => if hj : j = k then (by rw [hj]; exact ⟨by omega, by omega⟩) else q3 j a (by omega)⟩)) (fun q e => (by have h9 := e.2.2.2.2 k (by omega) (by omega); omega)) hw hS (lv_sub hl [2, 3, 4, 5, 6, 7, 8, 1, 0] rfl)
                            · refine lv_iconst (v := jI 1) hx hb dX9_differs_242 rfl ?_
                              refine lv_goto (tgt := 247) hx hb dX9_differs_243 (by decide) ?_
                              refine lv_istore (lv' := [(7, .int (jI 1)), (0, .ref (ad 40 0)), (1, .int (jI sv)), (2, .int (jI x)), (3, .int (jI nz)), (4, .int (jI r)), (5, .int (jI ((30 * sv) + r))), (6, .int (jI (120 + r))), (8, .int (jI k))]) hx hb dX9_differs_247 hl (by decide) rfl (fun ls hl => ?_)
                              refine lv_iinc (v := jI (k + 1)) (lv' := [(8, .int (jI (k + 1))), (7, .int (jI 1)), (0, .ref (ad 40 0)), (1, .int (jI sv)), (2, .int (jI x)), (3, .int (jI nz)), (4, .int (jI r)), (5, .int (jI ((30 * sv) + r))), (6, .int (jI (120 + r)))]) hx hb dX9_differs_249 hl (k := 8) rfl (jI_add _ _) (by decide) rfl (fun ls hl => ?_)
                              refine lv_goto (tgt := 171) hx hb dX9_differs_252 (by decide) ?_
                              exact ih171 1 (k + 1) _ _ _ (by omega) (by omega) (by omega) (fun q => (by obtain ⟨q1, q2, q3⟩ := hsm1 (by omega); exact ⟨q1, q2, fun j a b => if hj : j = k then (by rw [hj]; exact ⟨by omega, by omega⟩) else q3 j a (by omega)⟩)) (fun q e => (by have h9 := e.2.2.2.2 k (by omega) (by omega); omega)) hw hS (lv_sub hl [2, 3, 4, 5, 6, 7, 8, 1, 0] rfl)
                  refine lv_aload_n hx hb dX9_differs_127 rfl (lv_at hl 2 rfl) ?_
                  refine x_geto hx hb hf9 hw (by first | exact Int.le_refl 0 | omega) (by first | exact zlt hc40 | omega) sl_40_30 lk84 dX9_differs_128 ?_
                  refine lv_iload hx hb dX9_differs_131 (lv_at hl 1 rfl) ?_
                  refine x_iald hx hb hK.1 hw (by first | exact Int.le_refl 0 | omega) (by first | exact zlt hc71 | omega) ar_71 (len_E ar_71 (by first | exact Nat.ne_of_beq_eq_false rfl | decide)) (by omega) (by omega) (by omega) dX9_differs_133 ?_
                  have f73 : 0 ≤ X21 71 0 ((30 * sv) + r) ∧ X21 71 0 ((30 * sv) + r) ≤ 7 := hRX21 71 0 ((30 * sv) + r)
                  refine lv_aload_n hx hb dX9_differs_134 rfl (lv_at hl 2 rfl) ?_
                  refine x_geto hx hb hf9 hw (by first | exact Int.le_refl 0 | omega) (by first | exact zlt hc40 | omega) sl_40_30 lk84 dX9_differs_135 ?_
                  refine lv_iload hx hb dX9_differs_138 (lv_at hl 0 rfl) ?_
                  refine x_iald hx hb hK.1 hw (by first | exact Int.le_refl 0 | omega) (by first | exact zlt hc71 | omega) ar_71 (len_E ar_71 (by first | exact Nat.ne_of_beq_eq_false rfl | decide)) (by omega) (by omega) (by omega) dX9_differs_140 ?_
                  have f74 : 0 ≤ X21 71 0 (120 + r) ∧ X21 71 0 (120 + r) ≤ 7 := hRX21 71 0 (120 + r)
                  refine x_icmp_ne (tgt := 165) hx hb (by omega) (by omega) dX9_differs_141 (by decide) (fun c75 => ?_) (fun c75 => ?_)
                  · refine lv_iconst (v := jI 0) hx hb dX9_differs_165 rfl ?_
                    refine lv_istore (lv' := [(7, .int (jI 0)), (6, .int (jI (120 + r))), (5, .int (jI ((30 * sv) + r))), (0, .ref (ad 40 0)), (1, .int (jI sv)), (2, .int (jI x)), (3, .int (jI nz)), (4, .int (jI r))]) hx hb dX9_differs_166 hl (by decide) rfl (fun ls hl => ?_)
                    refine lv_iconst (v := jI 0) hx hb dX9_differs_168 rfl ?_
                    refine lv_istore (lv' := [(8, .int (jI 0)), (7, .int (jI 0)), (6, .int (jI (120 + r))), (5, .int (jI ((30 * sv) + r))), (0, .ref (ad 40 0)), (1, .int (jI sv)), (2, .int (jI x)), (3, .int (jI nz)), (4, .int (jI r))]) hx hb dX9_differs_169 hl (by decide) rfl (fun ls hl => ?_)
                    exact lp171 (5 - 0 : Int).toNat.succ 0 0 _ _ _ (by omega) (by omega) (by omega) (fun q => ⟨by omega, by omega, fun j a b => by omega⟩) (fun q e => by obtain ⟨q1, q2, q3, q4, -⟩ := e; omega) hw hS (lv_sub hl [4, 5, 6, 7, 8, 3, 2, 1, 0] rfl)
                  · refine lv_aload_n hx hb dX9_differs_144 rfl (lv_at hl 2 rfl) ?_
                    refine x_geto hx hb hf9 hw (by first | exact Int.le_refl 0 | omega) (by first | exact zlt hc40 | omega) sl_40_31 lk87 dX9_differs_145 ?_
                    refine lv_iload hx hb dX9_differs_148 (lv_at hl 1 rfl) ?_
                    refine x_iald hx hb hK.1 hw (by first | exact Int.le_refl 0 | omega) (by first | exact zlt hc72 | omega) ar_72 (len_E ar_72 (by first | exact Nat.ne_of_beq_eq_false rfl | decide)) (by omega) (by omega) (by omega) dX9_differs_150 ?_
                    have f76 : 0 ≤ X21 72 0 ((30 * sv) + r) ∧ X21 72 0 ((30 * sv) + r) ≤ 5 := hRX21 72 0 ((30 * sv) + r)
                    refine lv_aload_n hx hb dX9_differs_151 rfl (lv_at hl 2 rfl) ?_
                    refine x_geto hx hb hf9 hw (by first | exact Int.le_refl 0 | omega) (by first | exact zlt hc40 | omega) sl_40_31 lk87 dX9_differs_152 ?_
                    refine lv_iload hx hb dX9_differs_155 (lv_at hl 0 rfl) ?_
                    refine x_iald hx hb hK.1 hw (by first | exact Int.le_refl 0 | omega) (by first | exact zlt hc72 | omega) ar_72 (len_E ar_72 (by first | exact Nat.ne_of_beq_eq_false rfl | decide)) (by omega) (by omega) (by omega) dX9_differs_157 ?_
                    have f77 : 0 ≤ X21 72 0 (120 + r) ∧ X21 72 0 (120 + r) ≤ 5 := hRX21 72 0 (120 + r)
                    refine x_icmp_ne (tgt := 165) hx hb (by omega) (by omega) dX9_differs_158 (by decide) (fun c78 => ?_) (fun c78 => ?_)
                    · refine lv_iconst (v := jI 0) hx hb dX9_differs_165 rfl ?_
                      refine lv_istore (lv' := [(7, .int (jI 0)), (6, .int (jI (120 + r))), (5, .int (jI ((30 * sv) + r))), (0, .ref (ad 40 0)), (1, .int (jI sv)), (2, .int (jI x)), (3, .int (jI nz)), (4, .int (jI r))]) hx hb dX9_differs_166 hl (by decide) rfl (fun ls hl => ?_)
                      refine lv_iconst (v := jI 0) hx hb dX9_differs_168 rfl ?_
                      refine lv_istore (lv' := [(8, .int (jI 0)), (7, .int (jI 0)), (6, .int (jI (120 + r))), (5, .int (jI ((30 * sv) + r))), (0, .ref (ad 40 0)), (1, .int (jI sv)), (2, .int (jI x)), (3, .int (jI nz)), (4, .int (jI r))]) hx hb dX9_differs_169 hl (by decide) rfl (fun ls hl => ?_)
                      exact lp171 (5 - 0 : Int).toNat.succ 0 0 _ _ _ (by omega) (by omega) (by omega) (fun q => ⟨by omega, by omega, fun j a b => by omega⟩) (fun q e => by obtain ⟨q1, q2, q3, q4, -⟩ := e; omega) hw hS (lv_sub hl [4, 5, 6, 7, 8, 3, 2, 1, 0] rfl)
                    · refine lv_iconst (v := jI 1) hx hb dX9_differs_161 rfl ?_
                      refine lv_goto (tgt := 166) hx hb dX9_differs_162 (by decide) ?_
                      refine lv_istore (lv' := [(7, .int (jI 1)), (6, .int (jI (120 + r))), (5, .int (jI ((30 * sv) + r))), (0, .ref (ad 40 0)), (1, .int (jI sv)), (2, .int (jI x)), (3, .int (jI nz)), (4, .int (jI r))]) hx hb dX9_differs_166 hl (by decide) rfl (fun ls hl => ?_)
                      refine lv_iconst (v := jI 0) hx hb dX9_differs_168 rfl ?_
                      refine lv_istore (lv' := [(8, .int (jI 0)), (7, .int (jI 1)), (6, .int (jI (120 + r))), (5, .int (jI ((30 * sv) + r))), (0, .ref (ad 40 0)), (1, .int (jI sv)), (2, .int (jI x)), (3, .int (jI nz)), (4, .int (jI r))]) hx hb dX9_differs_169 hl (by decide) rfl (fun ls hl => ?_)
                      exact lp171 (5 - 0 : Int).toNat.succ 1 0 _ _ _ (by omega) (by omega) (by omega) (fun q => ⟨by omega, by omega, fun j a b => by omega⟩) (fun q e => by obtain ⟨q1, q2, q3, q4, -⟩ := e; omega) hw hS (lv_sub hl [4, 5, 6, 7, 8, 3, 2, 1, 0] rfl)
                · refine lv_bipush (v := jI 100) hx hb dX9_differs_102 (by decide) ?_
                  refine lv_iload hx hb dX9_differs_104 (lv_at hl 4 rfl) ?_
                  refine x_imul hx hb dX9_differs_106 ?_
                  refine lv_bipush (v := jI 99) hx hb dX9_differs_107 (by decide) ?_
                  refine x_iadd hx hb dX9_differs_109 ?_
                  rw [hQ9]
                  refine ret_i (mc := 0) (ms := 0) hx hb hr hlocks hw hS (by first | exact Nat.le_of_ble_eq_true rfl | omega) (by first | exact Nat.le_of_ble_eq_true rfl | omega) dX9_differs_110 ?_
                  have q79 : Frm [4001] X X1 := by rw [hX1]; exact Frm.set Frm.rf (show 4001 ∈ [4001] by first | exact nlm_in rfl | decide)
                  have hrd80 := rdr_eq (L := [4001]) q79 (by decide)
                  have hsx81 := hsvX21
                  rw [hrd80.1, hrd80.2.1, hrd80.2.2, Frm.arr q79 48 (by decide +kernel) (by decide), Frm.arr q79 55 (by decide +kernel) (by decide)] at hsx81
                  exact ⟨X21, rfl, hRX21, hFX21, hMIX21, by omega, S4.tr (S4.frm q79 (by decide)) h4X21, S5.tr (S5.frm q79 (by decide)) h5X21, Or.inr ⟨(by (try delta Hid at *); omega), (by rcases hsx81 with ⟨-, q, -⟩ | ⟨-, -, q⟩; exact absurd q (by decide); exact q), Or.inr ⟨r, by omega, by omega, hall, Or.inl ⟨(fun q => by have q1 := q.1; have q2 := q.2.1; omega), by omega⟩⟩⟩⟩
        refine lv_aload_n hx hb dX9_differs_40 rfl (lv_at hl 0 rfl) ?_
        refine x_geto hx hb hf9 hw (by first | exact Int.le_refl 0 | omega) (by first | exact zlt hc40 | omega) sl_40_29 lk81 dX9_differs_41 ?_
        refine lv_iload_n hx hb dX9_differs_44 rfl (lv_at hl 1 rfl) ?_
        refine x_iald hx hb hK.1 hw (by first | exact Int.le_refl 0 | omega) (by first | exact zlt hc70 | omega) ar_70 (len_E ar_70 (by first | exact Nat.ne_of_beq_eq_false rfl | decide)) (by omega) (by omega) (by omega) dX9_differs_45 ?_
        have f82 : 0 ≤ X21 70 0 sv ∧ X21 70 0 sv ≤ 30 := hRX21 70 0 sv
        refine lv_aload_n hx hb dX9_differs_46 rfl (lv_at hl 0 rfl) ?_
        refine x_geto hx hb hf9 hw (by first | exact Int.le_refl 0 | omega) (by first | exact zlt hc40 | omega) sl_40_29 lk81 dX9_differs_47 ?_
        refine lv_iconst (v := jI 4) hx hb dX9_differs_50 rfl ?_
        refine x_iald hx hb hK.1 hw (by first | exact Int.le_refl 0 | omega) (by first | exact zlt hc70 | omega) ar_70 (len_E ar_70 (by first | exact Nat.ne_of_beq_eq_false rfl | decide)) (by omega) (by omega) (by omega) dX9_differs_51 ?_
        have f83 : 0 ≤ X21 70 0 4 ∧ X21 70 0 4 ≤ 30 := hRX21 70 0 4
        refine x_icmp_le (tgt := 64) hx hb (by omega) (by omega) dX9_differs_52 (by decide) (fun c84 => ?_) (fun c84 => ?_)
        · refine lv_aload_n hx hb dX9_differs_64 rfl (lv_at hl 0 rfl) ?_
          refine x_geto hx hb hf9 hw (by first | exact Int.le_refl 0 | omega) (by first | exact zlt hc40 | omega) sl_40_29 lk81 dX9_differs_65 ?_
          refine lv_iconst (v := jI 4) hx hb dX9_differs_68 rfl ?_
          refine x_iald hx hb hK.1 hw (by first | exact Int.le_refl 0 | omega) (by first | exact zlt hc70 | omega) ar_70 (len_E ar_70 (by first | exact Nat.ne_of_beq_eq_false rfl | decide)) (by omega) (by omega) (by omega) dX9_differs_69 ?_
          have f85 : 0 ≤ X21 70 0 4 ∧ X21 70 0 4 ≤ 30 := hRX21 70 0 4
          refine lv_istore_n (lv' := [(3, .int (jI (X21 70 0 4))), (0, .ref (ad 40 0)), (1, .int (jI sv)), (2, .int (jI x))]) hx hb dX9_differs_70 rfl hl (by decide) rfl (fun ls hl => ?_)
          refine lv_iconst (v := jI 0) hx hb dX9_differs_71 rfl ?_
          refine lv_istore (lv' := [(4, .int (jI 0)), (3, .int (jI (X21 70 0 4))), (0, .ref (ad 40 0)), (1, .int (jI sv)), (2, .int (jI x))]) hx hb dX9_differs_72 hl (by decide) rfl (fun ls hl => ?_)
          exact lp74 (30 - 0 : Int).toNat.succ (X21 70 0 4) 0 _ _ _ (by omega) (by omega) (by omega) (by unfold mxM; split <;> omega) (fun r' a b => by omega) hw hS (lv_sub hl [2, 3, 4, 1, 0] rfl)
        · refine lv_aload_n hx hb dX9_differs_55 rfl (lv_at hl 0 rfl) ?_
          refine x_geto hx hb hf9 hw (by first | exact Int.le_refl 0 | omega) (by first | exact zlt hc40 | omega) sl_40_29 lk81 dX9_differs_56 ?_
          refine lv_iload_n hx hb dX9_differs_59 rfl (lv_at hl 1 rfl) ?_
          refine x_iald hx hb hK.1 hw (by first | exact Int.le_refl 0 | omega) (by first | exact zlt hc70 | omega) ar_70 (len_E ar_70 (by first | exact Nat.ne_of_beq_eq_false rfl | decide)) (by omega) (by omega) (by omega) dX9_differs_60 ?_
          have f86 : 0 ≤ X21 70 0 sv ∧ X21 70 0 sv ≤ 30 := hRX21 70 0 sv
          refine lv_goto (tgt := 70) hx hb dX9_differs_61 (by decide) ?_
          refine lv_istore_n (lv' := [(3, .int (jI (X21 70 0 sv))), (0, .ref (ad 40 0)), (1, .int (jI sv)), (2, .int (jI x))]) hx hb dX9_differs_70 rfl hl (by decide) rfl (fun ls hl => ?_)
          refine lv_iconst (v := jI 0) hx hb dX9_differs_71 rfl ?_
          refine lv_istore (lv' := [(4, .int (jI 0)), (3, .int (jI (X21 70 0 sv))), (0, .ref (ad 40 0)), (1, .int (jI sv)), (2, .int (jI x))]) hx hb dX9_differs_72 hl (by decide) rfl (fun ls hl => ?_)
          exact lp74 (30 - 0 : Int).toNat.succ (X21 70 0 sv) 0 _ _ _ (by omega) (by omega) (by omega) (by unfold mxM; split <;> omega) (fun r' a b => by omega) hw hS (lv_sub hl [2, 3, 4, 1, 0] rfl)
      · subst ez11
        refine x_if_neF (tgt := 33) hx hb (by omega) (by decide) dX9_differs_27 (by decide) ?_
        refine lv_bipush (v := jI (-2)) hx hb dX9_differs_30 (by decide) ?_
        rw [hQ9]
        refine ret_i (mc := 0) (ms := 0) hx hb hr hlocks hw hS (by first | exact Nat.le_of_ble_eq_true rfl | omega) (by first | exact Nat.le_of_ble_eq_true rfl | omega) dX9_differs_32 ?_
        have q88 : Frm [4001] X X1 := by rw [hX1]; exact Frm.set Frm.rf (show 4001 ∈ [4001] by first | exact nlm_in rfl | decide)
        have hMq87 : MInv X1 := minv_frm hMI q88 (by decide)
        exact ⟨X1, rfl, hRX1, hFX1, hMq87, by omega, S4.frm q88 (by decide), S5.frm q88 (by decide), Or.inl ⟨(fun q => by (try delta Hid at *); omega), by omega⟩⟩
  · subst ez2
    refine x_if_eqT (tgt := 30) hx hb (by omega) (by decide) dX9_differs_10 (by decide) ?_
    refine lv_bipush (v := jI (-2)) hx hb dX9_differs_30 (by decide) ?_
    rw [hQ9]
    refine ret_i (mc := 0) (ms := 0) hx hb hr hlocks hw hS (by first | exact Nat.le_of_ble_eq_true rfl | omega) (by first | exact Nat.le_of_ble_eq_true rfl | omega) dX9_differs_32 ?_
    have q91 : Frm [4001] X X1 := by rw [hX1]; exact Frm.set Frm.rf (show 4001 ∈ [4001] by first | exact nlm_in rfl | decide)
    have hMq90 : MInv X1 := minv_frm hMI q91 (by decide)
    exact ⟨X1, rfl, hRX1, hFX1, hMq90, by omega, S4.frm q91 (by decide), S5.frm q91 (by decide), Or.inl ⟨(fun q => by (try delta Hid at *); omega), by omega⟩⟩
end
section
/-! what holds of the class between calls: printed by wip/tools/cinv.py -/
def LnOK (ln : Int → Int) : Prop := ∀ i, 0 ≤ ln i ∧ ln i ≤ 12
def cTh (Y : Nat → Int → Int → Option Int) : Prop := ∀ x, 0 ≤ x → x < 30 → Y 2 0 x = some x
def cNt (Y : Nat → Int → Int → Option Int) : Prop := ∀ n, 0 ≤ n → n < 80 → Y 30 0 n = some n
def cSv (Y : Nat → Int → Int → Option Int) : Prop := (∀ q, 0 ≤ q → q < 4 → Y 4 0 q ≠ none) ∧ Y 0 0 6 ≠ none ∧ Y 0 0 7 ≠ none
def cTy (cnt : Nat → Int) (X : Nat → Int → Int → Int) (Y : Nat → Int → Int → Option Int) : Prop := cnt 19 = X 0 0 1 ∧ ∀ t, 0 ≤ t → t < X 0 0 1 → Y 1 0 t = some t ∧ X 19 t 0 = t
def cTt (X : Nat → Int → Int → Int) (Y : Nat → Int → Int → Option Int) : Prop := ∀ x, 0 ≤ x → x < X 0 0 3 → Y 15 x 0 ≠ none
def cCk (X : Nat → Int → Int → Int) (Y : Nat → Int → Int → Option Int) : Prop := ∀ q j, 0 ≤ q → q < X 0 0 1 → 0 ≤ j → j < X 19 q 6 → Y 24 q j ≠ none
def cRc (X : Nat → Int → Int → Int) : Prop := ∀ q r, 0 ≤ q → q < 6 → 0 ≤ r → r < X 7 q 0 → X 8 q r < X 0 0 1
def cNo (X : Nat → Int → Int → Int) (Y : Nat → Int → Int → Option Int) (ln : Int → Int) : Prop := ∀ n, 0 ≤ n → n < 80 → (Y 28 n 0 ≠ none → X 28 n 1 ≤ 4) ∧ (Y 28 n 0 = none → ∀ w, Y 28 n 3 = some w → X 28 n 1 < ln w)
def CInv (cnt : Nat → Int) (X : Nat → Int → Int → Int) (Y : Nat → Int → Int → Option Int) (ln : Int → Int) : Prop := cTh Y ∧ cNt Y ∧ cSv Y ∧ cTy cnt X Y ∧ cTt X Y ∧ cCk X Y ∧ cRc X ∧ cNo X Y ln
theorem cinv_frm {M N : List Nat} {cnt : Nat → Int} {X X1 : Nat → Int → Int → Int} {Y Y1 : Nat → Int → Int → Option Int} {ln : Int → Int} (h : CInv cnt X Y ln) (hF : Frm M X X1) (hH : Frm N Y Y1) (hd : ∀ c ∈ [2, 4, 1901, 1907, 701, 800, 2802], c ∉ M) (he : ∀ c ∈ [200, 3000, 400, 7, 8, 100, 1501, 2400, 2801, 2804], c ∉ N) : CInv cnt X1 Y1 ln := by
  have a1 : X1 0 0 1 = X 0 0 1 := hF 0 0 1 (hd 2 (by decide))
  have a2 : X1 0 0 3 = X 0 0 3 := hF 0 0 3 (hd 4 (by decide))
  have a3 : ∀ i, X1 19 i 6 = X 19 i 6 := fun i => hF 19 i 6 (hd 1907 (by decide))
  have a3b : ∀ i, X1 19 i 0 = X 19 i 0 := fun i => hF 19 i 0 (hd 1901 (by decide))
  have a4 : ∀ i, X1 7 i 0 = X 7 i 0 := fun i => hF 7 i 0 (hd 701 (by decide))
  have a5 : ∀ i j, X1 8 i j = X 8 i j := fun i j => hF 8 i j (hd 800 (by decide))
  have a10 : ∀ i, X1 28 i 1 = X 28 i 1 := fun i => hF 28 i 1 (hd 2802 (by decide))
  have b1 : ∀ j, Y1 2 0 j = Y 2 0 j := fun j => hH 2 0 j (he 200 (by decide))
  have b2 : ∀ j, Y1 30 0 j = Y 30 0 j := fun j => hH 30 0 j (he 3000 (by decide))
  have b3 : ∀ j, Y1 4 0 j = Y 4 0 j := fun j => hH 4 0 j (he 400 (by decide))
  have b4 : Y1 0 0 6 = Y 0 0 6 := hH 0 0 6 (he 7 (by decide))
  have b5 : Y1 0 0 7 = Y 0 0 7 := hH 0 0 7 (he 8 (by decide))
  have b6 : ∀ j, Y1 1 0 j = Y 1 0 j := fun j => hH 1 0 j (he 100 (by decide))
  have b7 : ∀ i, Y1 15 i 0 = Y 15 i 0 := fun i => hH 15 i 0 (he 1501 (by decide))
  have b8 : ∀ i j, Y1 24 i j = Y 24 i j := fun i j => hH 24 i j (he 2400 (by decide))
  have b9 : ∀ i, Y1 28 i 0 = Y 28 i 0 := fun i => hH 28 i 0 (he 2801 (by decide))
  have b10 : ∀ i, Y1 28 i 3 = Y 28 i 3 := fun i => hH 28 i 3 (he 2804 (by decide))
  unfold CInv cTh cNt cSv cTy cTt cCk cRc cNo at *
  simp only [a1, a2, a3, a3b, a4, a5, a10, b1, b2, b3, b4, b5, b6, b7, b8, b9, b10]
  exact h
/-! what the records keep of things and rows -/
def cRv (X : Nat → Int → Int → Int) : Prop := ∀ q j, 0 ≤ q → q < 6 → 0 ≤ j → j < 150 → 2 ≤ X 11 q j → -1 ≤ X 12 q j ∧ X 12 q j ≤ 149
def cRx (X : Nat → Int → Int → Int) (g e : Int) : Prop := ∀ q j, 0 ≤ q → q < 6 → 0 ≤ j → j < 150 → ¬ (q = g ∧ j = e) → 2 ≤ X 11 q j → -1 ≤ X 12 q j ∧ X 12 q j ≤ 149
section CV
variable {M N : List Nat} {cnt cnt1 : Nat → Int} {X X1 : Nat → Int → Int → Int} {Y Y1 : Nat → Int → Int → Option Int} {ln : Int → Int}
theorem cRv.frm (h : cRv X) (hF : Frm M X X1) (hd : ∀ c ∈ [1100, 1200], c ∉ M) : cRv X1 := fun q j a b c d => by
  rw [hF 11 q j (hd 1100 (by decide)), hF 12 q j (hd 1200 (by decide))]; exact h q j a b c d
theorem cRx.frm {g e : Int} (h : cRx X g e) (hF : Frm M X X1) (hd : ∀ c ∈ [1100, 1200], c ∉ M) : cRx X1 g e := fun q j a b c d => by
  rw [hF 11 q j (hd 1100 (by decide)), hF 12 q j (hd 1200 (by decide))]; exact h q j a b c d
theorem u3_ij {α : Type} {Z : Nat → Int → Int → α} {k : Nat} {i j i1 j1 : Int} {v : α} (h : ¬ (i1 = i ∧ j1 = j)) : u3 Z k i j v k i1 j1 = Z k i1 j1 := by
  simp only [u3]
  rw [if_neg (fun q => h q.2)]
theorem cRv.lane {g e v : Int} (h : cRv X) : cRx (u3 X 11 g e v) g e := fun q j a b c d hn => by
  rw [u3_ij hn, u3_k _ _ _ _ (by first | exact Nat.ne_of_beq_eq_false rfl | decide)]; exact h q j a b c d
theorem cRx.val {g e v : Int} (h : cRx X g e) (hv : 2 ≤ X 11 g e → -1 ≤ v ∧ v ≤ 149) : cRv (u3 X 12 g e v) := fun q j a b c d => by
  by_cases hn : q = g ∧ j = e
  · obtain ⟨rfl, rfl⟩ := hn
    rw [u3_k _ _ _ _ (by first | exact Nat.ne_of_beq_eq_false rfl | decide), u3_s]; exact hv
  · rw [u3_k _ _ _ _ (by first | exact Nat.ne_of_beq_eq_false rfl | decide), u3_ij hn]; exact h q j a b c d hn
/-! the class's changes of state -/
theorem cinv_note (h : CInv cnt X Y ln) (hF : Frm [2802, 2803, 2902] X X1) (hH : Frm [2801, 2804] Y Y1) {n : Int} (e1 : ∀ m, m ≠ n → X1 28 m 1 = X 28 m 1 ∧ Y1 28 m 0 = Y 28 m 0 ∧ Y1 28 m 3 = Y 28 m 3) (hn : (Y1 28 n 0 ≠ none → X1 28 n 1 ≤ 4) ∧ (Y1 28 n 0 = none → ∀ w, Y1 28 n 3 = some w → X1 28 n 1 < ln w)) : CInv cnt X1 Y1 ln := by
  obtain ⟨a, b, c, d, e, f, g, k⟩ := h
  have a1 : X1 0 0 1 = X 0 0 1 := hF 0 0 1 (show 2 ∉ _ by decide)
  have a2 : X1 0 0 3 = X 0 0 3 := hF 0 0 3 (show 4 ∉ _ by decide)
  have a3 : ∀ i, X1 19 i 6 = X 19 i 6 := fun i => hF 19 i 6 (show 1907 ∉ _ by decide)
  have a3b : ∀ i, X1 19 i 0 = X 19 i 0 := fun i => hF 19 i 0 (show 1901 ∉ _ by decide)
  have a4 : ∀ i, X1 7 i 0 = X 7 i 0 := fun i => hF 7 i 0 (show 701 ∉ _ by decide)
  have a5 : ∀ i j, X1 8 i j = X 8 i j := fun i j => hF 8 i j (show 800 ∉ _ by decide)
  have b1 : ∀ j, Y1 2 0 j = Y 2 0 j := fun j => hH 2 0 j (show 200 ∉ _ by decide)
  have b2 : ∀ j, Y1 30 0 j = Y 30 0 j := fun j => hH 30 0 j (show 3000 ∉ _ by decide)
  have b3 : ∀ j, Y1 4 0 j = Y 4 0 j := fun j => hH 4 0 j (show 400 ∉ _ by decide)
  have b4 : Y1 0 0 6 = Y 0 0 6 := hH 0 0 6 (show 7 ∉ _ by decide)
  have b5 : Y1 0 0 7 = Y 0 0 7 := hH 0 0 7 (show 8 ∉ _ by decide)
  have b6 : ∀ j, Y1 1 0 j = Y 1 0 j := fun j => hH 1 0 j (show 100 ∉ _ by decide)
  have b7 : ∀ i, Y1 15 i 0 = Y 15 i 0 := fun i => hH 15 i 0 (show 1501 ∉ _ by decide)
  have b8 : ∀ i j, Y1 24 i j = Y 24 i j := fun i j => hH 24 i j (show 2400 ∉ _ by decide)
  refine ⟨?_, ?_, ?_, ?_, ?_, ?_, ?_, ?_⟩
  · unfold cTh at *; simp only [b1]; exact a
  · unfold cNt at *; simp only [b2]; exact b
  · unfold cSv at *; simp only [b3, b4, b5]; exact c
  · unfold cTy at *; simp only [a1, a3b, b6]; exact d
  · unfold cTt at *; simp only [a2, b7]; exact e
  · unfold cCk at *; simp only [a1, a3, b8]; exact f
  · unfold cRc at *; simp only [a1, a4, a5]; exact g
  · intro m m0 m1
    by_cases hm : m = n
    · rw [hm]; exact hn
    · obtain ⟨q1, q2, q3⟩ := e1 m hm
      rw [q1, q2, q3]; exact k m m0 m1
theorem cinv_y15 {x q : Int} (h : CInv cnt X Y ln) : CInv cnt X (u3 Y 15 x 0 (some q)) ln := by
  have e : ∀ (k : Nat) (i j : Int), k ≠ 15 → u3 Y 15 x 0 (some q) k i j = Y k i j := fun k i j hk => by rw [u3_k _ _ _ _ hk]
  obtain ⟨a, b, c, d, f, g, k, o⟩ := h
  refine ⟨?_, ?_, ?_, ?_, ?_, ?_, k, ?_⟩
  · unfold cTh at *; simp only [e 2 _ _ (by decide)]; exact a
  · unfold cNt at *; simp only [e 30 _ _ (by decide)]; exact b
  · unfold cSv at *; simp only [e 4 _ _ (by decide), e 0 _ _ (by decide)]; exact c
  · unfold cTy at *; simp only [e 1 _ _ (by decide)]; exact d
  · intro x' h0 h1
    by_cases hx : x' = x
    · rw [hx, u3_s]; exact fun q => by cases q
    · rw [u3_ij (fun q => hx q.1)]; exact f x' h0 h1
  · unfold cCk at *; simp only [e 24 _ _ (by decide)]; exact g
  · unfold cNo at *; simp only [e 28 _ _ (by decide)]; exact o
/-- things come or go -/
theorem cinv_things (h : CInv cnt X Y ln) (hF : Frm [4] X X1) (ht : ∀ x, 0 ≤ x → x < X1 0 0 3 → X 0 0 3 ≤ x → Y 15 x 0 ≠ none) : CInv cnt X1 Y ln := by
  obtain ⟨a, b, c, d, e, f, g, k⟩ := h
  have a1 : X1 0 0 1 = X 0 0 1 := hF 0 0 1 (show 2 ∉ _ by decide)
  have a3 : ∀ i, X1 19 i 6 = X 19 i 6 := fun i => hF 19 i 6 (show 1907 ∉ _ by decide)
  have a3b : ∀ i, X1 19 i 0 = X 19 i 0 := fun i => hF 19 i 0 (show 1901 ∉ _ by decide)
  have a4 : ∀ i, X1 7 i 0 = X 7 i 0 := fun i => hF 7 i 0 (show 701 ∉ _ by decide)
  have a5 : ∀ i j, X1 8 i j = X 8 i j := fun i j => hF 8 i j (show 800 ∉ _ by decide)
  have a6 : ∀ i, X1 28 i 1 = X 28 i 1 := fun i => hF 28 i 1 (show 2802 ∉ _ by decide)
  refine ⟨a, b, c, ?_, fun x h0 h1 => ?_, ?_, ?_, ?_⟩
  · unfold cTy at *; simp only [a1, a3b]; exact d
  · by_cases hx : x < X 0 0 3
    · exact e x h0 hx
    · exact ht x h0 h1 (by omega)
  · unfold cCk at *; simp only [a1, a3]; exact f
  · unfold cRc at *; simp only [a1, a4, a5]; exact g
  · unfold cNo at *; simp only [a6]; exact k
/-- checks come or go -/
theorem cinv_checks {q : Int} (h : CInv cnt X Y ln) (hF : Frm [1907] X X1) (hH : Frm [2400] Y Y1) (e1 : ∀ i, i ≠ q → X1 19 i 6 = X 19 i 6) (e2 : ∀ i j, ¬ (i = q ∧ X 19 q 6 ≤ j) → Y1 24 i j = Y 24 i j) (ht : ∀ j, 0 ≤ j → j < X1 19 q 6 → X 19 q 6 ≤ j → Y1 24 q j ≠ none) : CInv cnt X1 Y1 ln := by
  obtain ⟨a, b, c, d, e, f, g, k⟩ := h
  have a1 : X1 0 0 1 = X 0 0 1 := hF 0 0 1 (show 2 ∉ _ by decide)
  have a2 : X1 0 0 3 = X 0 0 3 := hF 0 0 3 (show 4 ∉ _ by decide)
  have a3b : ∀ i, X1 19 i 0 = X 19 i 0 := fun i => hF 19 i 0 (show 1901 ∉ _ by decide)
  have a4 : ∀ i, X1 7 i 0 = X 7 i 0 := fun i => hF 7 i 0 (show 701 ∉ _ by decide)
  have a5 : ∀ i j, X1 8 i j = X 8 i j := fun i j => hF 8 i j (show 800 ∉ _ by decide)
  have a6 : ∀ i, X1 28 i 1 = X 28 i 1 := fun i => hF 28 i 1 (show 2802 ∉ _ by decide)
  have b1 : ∀ j, Y1 2 0 j = Y 2 0 j := fun j => hH 2 0 j (show 200 ∉ _ by decide)
  have b2 : ∀ j, Y1 30 0 j = Y 30 0 j := fun j => hH 30 0 j (show 3000 ∉ _ by decide)
  have b3 : ∀ j, Y1 4 0 j = Y 4 0 j := fun j => hH 4 0 j (show 400 ∉ _ by decide)
  have b4 : Y1 0 0 6 = Y 0 0 6 := hH 0 0 6 (show 7 ∉ _ by decide)
  have b5 : Y1 0 0 7 = Y 0 0 7 := hH 0 0 7 (show 8 ∉ _ by decide)
  have b6 : ∀ j, Y1 1 0 j = Y 1 0 j := fun j => hH 1 0 j (show 100 ∉ _ by decide)
  have b7 : ∀ i, Y1 15 i 0 = Y 15 i 0 := fun i => hH 15 i 0 (show 1501 ∉ _ by decide)
  have b9 : ∀ i, Y1 28 i 0 = Y 28 i 0 := fun i => hH 28 i 0 (show 2801 ∉ _ by decide)
  have b10 : ∀ i, Y1 28 i 3 = Y 28 i 3 := fun i => hH 28 i 3 (show 2804 ∉ _ by decide)
  refine ⟨?_, ?_, ?_, ?_, ?_, ?_, ?_, ?_⟩
  · unfold cTh at *; simp only [b1]; exact a
  · unfold cNt at *; simp only [b2]; exact b
  · unfold cSv at *; simp only [b3, b4, b5]; exact c
  · unfold cTy at *; simp only [a1, a3b, b6]; exact d
  · unfold cTt at *; simp only [a2, b7]; exact e
  · intro i j i0 i1 j0 j1
    rw [a1] at i1
    by_cases hi : i = q
    · subst hi
      by_cases hj : j < X 19 i 6
      · rw [e2 i j (fun w => by omega)]; exact f i j i0 i1 j0 hj
      · exact ht j j0 j1 (by omega)
    · rw [e1 i hi] at j1
      rw [e2 i j (fun w => hi w.1)]; exact f i j i0 i1 j0 j1
  · unfold cRc at *; simp only [a1, a4, a5]; exact g
  · unfold cNo at *; simp only [a6, b9, b10]; exact k
/-- records begin anew, or one comes -/
theorem cinv_record {g : Int} (h : CInv cnt X Y ln) (hF : Frm [1504, 701, 800, 900, 707] X X1) (hH : Frm [500] Y Y1) (e1 : ∀ i, i ≠ g → X1 7 i 0 = X 7 i 0 ∧ ∀ j, X1 8 i j = X 8 i j) (e2 : ∀ r, 0 ≤ r → r < X1 7 g 0 → X1 8 g r < X 0 0 1) : CInv cnt X1 Y1 ln := by
  obtain ⟨a, b, c, d, e, f, k, o⟩ := h
  have a1 : X1 0 0 1 = X 0 0 1 := hF 0 0 1 (show 2 ∉ _ by decide)
  have a2 : X1 0 0 3 = X 0 0 3 := hF 0 0 3 (show 4 ∉ _ by decide)
  have a3 : ∀ i, X1 19 i 6 = X 19 i 6 := fun i => hF 19 i 6 (show 1907 ∉ _ by decide)
  have a3b : ∀ i, X1 19 i 0 = X 19 i 0 := fun i => hF 19 i 0 (show 1901 ∉ _ by decide)
  have a6 : ∀ i, X1 28 i 1 = X 28 i 1 := fun i => hF 28 i 1 (show 2802 ∉ _ by decide)
  have b1 : ∀ j, Y1 2 0 j = Y 2 0 j := fun j => hH 2 0 j (show 200 ∉ _ by decide)
  have b2 : ∀ j, Y1 30 0 j = Y 30 0 j := fun j => hH 30 0 j (show 3000 ∉ _ by decide)
  have b3 : ∀ j, Y1 4 0 j = Y 4 0 j := fun j => hH 4 0 j (show 400 ∉ _ by decide)
  have b4 : Y1 0 0 6 = Y 0 0 6 := hH 0 0 6 (show 7 ∉ _ by decide)
  have b5 : Y1 0 0 7 = Y 0 0 7 := hH 0 0 7 (show 8 ∉ _ by decide)
  have b6 : ∀ j, Y1 1 0 j = Y 1 0 j := fun j => hH 1 0 j (show 100 ∉ _ by decide)
  have b7 : ∀ i, Y1 15 i 0 = Y 15 i 0 := fun i => hH 15 i 0 (show 1501 ∉ _ by decide)
  have b8 : ∀ i j, Y1 24 i j = Y 24 i j := fun i j => hH 24 i j (show 2400 ∉ _ by decide)
  have b9 : ∀ i, Y1 28 i 0 = Y 28 i 0 := fun i => hH 28 i 0 (show 2801 ∉ _ by decide)
  have b10 : ∀ i, Y1 28 i 3 = Y 28 i 3 := fun i => hH 28 i 3 (show 2804 ∉ _ by decide)
  refine ⟨?_, ?_, ?_, ?_, ?_, ?_, ?_, ?_⟩
  · unfold cTh at *; simp only [b1]; exact a
  · unfold cNt at *; simp only [b2]; exact b
  · unfold cSv at *; simp only [b3, b4, b5]; exact c
  · unfold cTy at *; simp only [a1, a3b, b6]; exact d
  · unfold cTt at *; simp only [a2, b7]; exact e
  · unfold cCk at *; simp only [a1, a3, b8]; exact f
  · intro q r q0 q1 r0 r1
    rw [a1]
    by_cases hq : q = g
    · subst hq; exact e2 r r0 r1
    · rw [(e1 q hq).1] at r1
      rw [(e1 q hq).2]; exact k q r q0 q1 r0 r1
  · unfold cNo at *; simp only [a6, b9, b10]; exact o
theorem cinv_swap {sv a b : Int} (h : CInv cnt X Y ln) : CInv cnt X (u3 (u3 Y 4 0 sv (some a)) 0 0 6 (some b)) ln := by
  have e : ∀ (k : Nat) (i j : Int), k ≠ 4 → k ≠ 0 → u3 (u3 Y 4 0 sv (some a)) 0 0 6 (some b) k i j = Y k i j := fun k i j hk h0 => by rw [u3_k _ _ _ _ h0, u3_k _ _ _ _ hk]
  obtain ⟨p1, p2, c, d, f, g, k, o⟩ := h
  refine ⟨?_, ?_, ⟨fun q q0 q1 => ?_, ?_, ?_⟩, ?_, ?_, ?_, k, ?_⟩
  · unfold cTh at *; simp only [e 2 _ _ (by decide) (by decide)]; exact p1
  · unfold cNt at *; simp only [e 30 _ _ (by decide) (by decide)]; exact p2
  · rw [u3_k _ _ _ _ (by first | exact Nat.ne_of_beq_eq_false rfl | decide)]
    by_cases hq : q = sv
    · rw [hq, u3_s]; exact fun q => by cases q
    · rw [u3_j _ _ _ _ hq]; exact c.1 q q0 q1
  · rw [u3_s]; exact fun q => by cases q
  · rw [u3_j _ _ _ _ (by decide), u3_k _ _ _ _ (by first | exact Nat.ne_of_beq_eq_false rfl | decide)]; exact c.2.2
  · unfold cTy at *; simp only [e 1 _ _ (by decide) (by decide)]; exact d
  · unfold cTt at *; simp only [e 15 _ _ (by decide) (by decide)]; exact f
  · unfold cCk at *; simp only [e 24 _ _ (by decide) (by decide)]; exact g
  · unfold cNo at *; simp only [e 28 _ _ (by decide) (by decide)]; exact o
/-- a type comes: its number is T -/
theorem cinv_type {T : Int} (h : CInv cnt X Y ln) (hT : T = X 0 0 1) (hc : cnt1 19 = T + 1) (hF : Frm [1901, 1902, 1907, 2000, 2100, 2200, 2300, 2] X X1) (hH : Frm [2400, 100] Y Y1) (e0 : X1 0 0 1 = T + 1) (e1 : ∀ i, i ≠ T → X1 19 i 0 = X 19 i 0 ∧ X1 19 i 6 = X 19 i 6 ∧ (∀ j, Y1 24 i j = Y 24 i j) ∧ Y1 1 0 i = Y 1 0 i) (e2 : X1 19 T 0 = T ∧ X1 19 T 6 = 0 ∧ Y1 1 0 T = some T) {ln1 : Int → Int} (hl : ln1 = ln) : CInv cnt1 X1 Y1 ln1 := by
  subst hl
  obtain ⟨a, b, c, d, e, f, g, k⟩ := h
  have a2 : X1 0 0 3 = X 0 0 3 := hF 0 0 3 (show 4 ∉ _ by decide)
  have a4 : ∀ i, X1 7 i 0 = X 7 i 0 := fun i => hF 7 i 0 (show 701 ∉ _ by decide)
  have a5 : ∀ i j, X1 8 i j = X 8 i j := fun i j => hF 8 i j (show 800 ∉ _ by decide)
  have a6 : ∀ i, X1 28 i 1 = X 28 i 1 := fun i => hF 28 i 1 (show 2802 ∉ _ by decide)
  have b1 : ∀ j, Y1 2 0 j = Y 2 0 j := fun j => hH 2 0 j (show 200 ∉ _ by decide)
  have b2 : ∀ j, Y1 30 0 j = Y 30 0 j := fun j => hH 30 0 j (show 3000 ∉ _ by decide)
  have b3 : ∀ j, Y1 4 0 j = Y 4 0 j := fun j => hH 4 0 j (show 400 ∉ _ by decide)
  have b4 : Y1 0 0 6 = Y 0 0 6 := hH 0 0 6 (show 7 ∉ _ by decide)
  have b5 : Y1 0 0 7 = Y 0 0 7 := hH 0 0 7 (show 8 ∉ _ by decide)
  have b7 : ∀ i, Y1 15 i 0 = Y 15 i 0 := fun i => hH 15 i 0 (show 1501 ∉ _ by decide)
  have b9 : ∀ i, Y1 28 i 0 = Y 28 i 0 := fun i => hH 28 i 0 (show 2801 ∉ _ by decide)
  have b10 : ∀ i, Y1 28 i 3 = Y 28 i 3 := fun i => hH 28 i 3 (show 2804 ∉ _ by decide)
  refine ⟨?_, ?_, ?_, ⟨by omega, fun t t0 t1 => ?_⟩, ?_, fun q j q0 q1 j0 j1 => ?_, fun q r q0 q1 r0 r1 => ?_, ?_⟩
  · unfold cTh at *; simp only [b1]; exact a
  · unfold cNt at *; simp only [b2]; exact b
  · unfold cSv at *; simp only [b3, b4, b5]; exact c
  · by_cases ht : t = T
    · rw [ht]; exact ⟨e2.2.2, e2.1⟩
    · rw [(e1 t ht).1, (e1 t ht).2.2.2]; exact d.2 t t0 (by omega)
  · unfold cTt at *; simp only [a2, b7]; exact e
  · by_cases ht : q = T
    · rw [ht, e2.2.1] at j1; omega
    · rw [(e1 q ht).2.1] at j1
      rw [(e1 q ht).2.2.1]; exact f q j q0 (by omega) j0 j1
  · rw [a4] at r1
    rw [a5]
    have := g q r q0 q1 r0 r1
    omega
  · unfold cNo at *; simp only [a6, b9, b10]; exact k
end CV
end
section
set_option maxHeartbeats 4000000 in
set_option maxRecDepth 100000 in
theorem c_X8_isBelow (l : Launch) (D : va_G) (tc : Nat → ClassId) (base : Nat) (ad : Nat → Int → Nat) (cnt : Nat → Int) (X : Nat → Int → Int → Int) (Y : Nat → Int → Int → Option Int) (ln : Int → Int) (a b : Int) (ha : -2147483648 ≤ a ∧ a ≤ 2147483647) (hb : -2147483648 ≤ b ∧ b ≤ 2147483647) : KI l D tc base yX8_isBelow wsX8_isBelow ({ frames := 0, cells := 0, slots := 0, locals := 0 } : Room) [.int (jI a), .int (jI b)] (ad, cnt, X, Y, ln) 0 0 (fun z u => u = (ad, cnt, X, Y, ln) ∧ ((z = 1 ∧ 0 ≤ a ∧ a < b) ∨ (z = 0 ∧ Hid (¬ (0 ≤ a ∧ a < b))))) := by
  refine K_of (cc := cX8_isBelow) (maxL := 2) (ret := (some .boolean)) (by decide) rfl (Nat.le_of_ble_eq_true rfl) ?_
  intro p e s m below meth c ls hx hb hr hml hown hts hlocks hl hK hw hS
  have hown : s.vm.findClass RX8 = some m.cls := hown
  obtain ⟨av9, hav9⟩ : ∃ a9 : Array Value, a9 = ([.int (jI a), .int (jI b)] : List Value).toArray := ⟨_, rfl⟩
  rw [← hav9] at hts ⊢
  obtain ⟨Q9, hQ9⟩ : ∃ q9Q : State → Prop, q9Q = MQ below (QI D tc base (fun z u => u = (ad, cnt, X, Y, ln) ∧ ((z = 1 ∧ 0 ≤ a ∧ a < b) ∨ (z = 0 ∧ Hid (¬ (0 ≤ a ∧ a < b)))))) av9 s 0 0 (frA base) := ⟨_, rfl⟩
  rw [← hQ9]
  have hl : lv_has ls 2 [(0, .int (jI a)), (1, .int (jI b))] := hl
  refine lv_iload_n hx hb dX8_isBelow_0 rfl (lv_at hl 0 rfl) ?_
  refine x_if_lt (tgt := 13) hx hb (by omega) dX8_isBelow_1 (by decide) (fun c1 => ?_) (fun c1 => ?_)
  · refine lv_iconst (v := jI 0) hx hb dX8_isBelow_13 rfl ?_
    rw [hQ9]
    refine ret_z (mc := 0) (ms := 0) hx hb hr hlocks hw hS (by first | exact Nat.le_of_ble_eq_true rfl | omega) (by first | exact Nat.le_of_ble_eq_true rfl | omega) dX8_isBelow_14 (by omega) ?_
    exact ⟨rfl, Or.inr ⟨rfl, (by first | omega | (intro q; first | omega | (simp only [Hid] at *; omega)))⟩⟩
  · refine lv_iload_n hx hb dX8_isBelow_4 rfl (lv_at hl 0 rfl) ?_
    refine lv_iload_n hx hb dX8_isBelow_5 rfl (lv_at hl 1 rfl) ?_
    refine x_icmp_ge (tgt := 13) hx hb (by omega) (by omega) dX8_isBelow_6 (by decide) (fun c2 => ?_) (fun c2 => ?_)
    · refine lv_iconst (v := jI 0) hx hb dX8_isBelow_13 rfl ?_
      rw [hQ9]
      refine ret_z (mc := 0) (ms := 0) hx hb hr hlocks hw hS (by first | exact Nat.le_of_ble_eq_true rfl | omega) (by first | exact Nat.le_of_ble_eq_true rfl | omega) dX8_isBelow_14 (by omega) ?_
      exact ⟨rfl, Or.inr ⟨rfl, (by first | omega | (intro q; first | omega | (simp only [Hid] at *; omega)))⟩⟩
    · refine lv_iconst (v := jI 1) hx hb dX8_isBelow_9 rfl ?_
      refine lv_goto (tgt := 14) hx hb dX8_isBelow_10 (by decide) ?_
      rw [hQ9]
      refine ret_z (mc := 0) (ms := 0) hx hb hr hlocks hw hS (by first | exact Nat.le_of_ble_eq_true rfl | omega) (by first | exact Nat.le_of_ble_eq_true rfl | omega) dX8_isBelow_14 (by omega) ?_
      exact ⟨rfl, Or.inl ⟨rfl, by omega⟩⟩

set_option maxHeartbeats 4000000 in
set_option maxRecDepth 100000 in
theorem c_X8_isRowLane (l : Launch) (D : va_G) (tc : Nat → ClassId) (base : Nat) (ad : Nat → Int → Nat) (cnt : Nat → Int) (X : Nat → Int → Int → Int) (Y : Nat → Int → Int → Option Int) (ln : Int → Int) (a : Int) (ha : -2147483648 ≤ a ∧ a ≤ 2147483647) : KI l D tc base yX8_isRowLane wsX8_isRowLane ({ frames := 0, cells := 0, slots := 0, locals := 0 } : Room) [.int (jI a)] (ad, cnt, X, Y, ln) 0 0 (fun z u => u = (ad, cnt, X, Y, ln) ∧ ((z = 1 ∧ 3 ≤ a) ∨ (z = 0 ∧ Hid (¬ (3 ≤ a))))) := by
  refine K_of (cc := cX8_isRowLane) (maxL := 1) (ret := (some .boolean)) (by decide) rfl (Nat.le_of_ble_eq_true rfl) ?_
  intro p e s m below meth c ls hx hb hr hml hown hts hlocks hl hK hw hS
  have hown : s.vm.findClass RX8 = some m.cls := hown
  obtain ⟨av9, hav9⟩ : ∃ a9 : Array Value, a9 = ([.int (jI a)] : List Value).toArray := ⟨_, rfl⟩
  rw [← hav9] at hts ⊢
  obtain ⟨Q9, hQ9⟩ : ∃ q9Q : State → Prop, q9Q = MQ below (QI D tc base (fun z u => u = (ad, cnt, X, Y, ln) ∧ ((z = 1 ∧ 3 ≤ a) ∨ (z = 0 ∧ Hid (¬ (3 ≤ a)))))) av9 s 0 0 (frA base) := ⟨_, rfl⟩
  rw [← hQ9]
  have hl : lv_has ls 1 [(0, .int (jI a))] := hl
  refine lv_iload_n hx hb dX8_isRowLane_0 rfl (lv_at hl 0 rfl) ?_
  refine lv_iconst (v := jI 3) hx hb dX8_isRowLane_1 rfl ?_
  refine x_icmp_lt (tgt := 9) hx hb (by omega) (by omega) dX8_isRowLane_2 (by decide) (fun c1 => ?_) (fun c1 => ?_)
  · refine lv_iconst (v := jI 0) hx hb dX8_isRowLane_9 rfl ?_
    rw [hQ9]
    refine ret_z (mc := 0) (ms := 0) hx hb hr hlocks hw hS (by first | exact Nat.le_of_ble_eq_true rfl | omega) (by first | exact Nat.le_of_ble_eq_true rfl | omega) dX8_isRowLane_10 (by omega) ?_
    exact ⟨rfl, Or.inr ⟨rfl, (by first | omega | (intro q; first | omega | (simp only [Hid] at *; omega)))⟩⟩
  · refine lv_iconst (v := jI 1) hx hb dX8_isRowLane_5 rfl ?_
    refine lv_goto (tgt := 10) hx hb dX8_isRowLane_6 (by decide) ?_
    rw [hQ9]
    refine ret_z (mc := 0) (ms := 0) hx hb hr hlocks hw hS (by first | exact Nat.le_of_ble_eq_true rfl | omega) (by first | exact Nat.le_of_ble_eq_true rfl | omega) dX8_isRowLane_10 (by omega) ?_
    exact ⟨rfl, Or.inl ⟨rfl, by omega⟩⟩

set_option maxHeartbeats 4000000 in
set_option maxRecDepth 100000 in
theorem c_X8_failed (l : Launch) (D : va_G) (tc : Nat → ClassId) (base : Nat) (ad : Nat → Int → Nat) (cnt : Nat → Int) (X : Nat → Int → Int → Int) (Y : Nat → Int → Int → Option Int) (ln : Int → Int) (a : Int) (ha : -100 ≤ a ∧ a ≤ 100) : KI l D tc base yX8_failed wsX8_failed ({ frames := 0, cells := 0, slots := 0, locals := 0 } : Room) [.int (jI a)] (ad, cnt, X, Y, ln) 0 0 (fun z u => u = (ad, cnt, X, Y, ln) ∧ z = -10 - a) := by
  refine K_of (cc := cX8_failed) (maxL := 1) (ret := (some .int)) (by decide) rfl (Nat.le_of_ble_eq_true rfl) ?_
  intro p e s m below meth c ls hx hb hr hml hown hts hlocks hl hK hw hS
  have hown : s.vm.findClass RX8 = some m.cls := hown
  obtain ⟨av9, hav9⟩ : ∃ a9 : Array Value, a9 = ([.int (jI a)] : List Value).toArray := ⟨_, rfl⟩
  rw [← hav9] at hts ⊢
  obtain ⟨Q9, hQ9⟩ : ∃ q9Q : State → Prop, q9Q = MQ below (QI D tc base (fun z u => u = (ad, cnt, X, Y, ln) ∧ z = -10 - a)) av9 s 0 0 (frA base) := ⟨_, rfl⟩
  rw [← hQ9]
  have hl : lv_has ls 1 [(0, .int (jI a))] := hl
  refine lv_bipush (v := jI (-10)) hx hb dX8_failed_0 (by decide) ?_
  refine lv_iload_n hx hb dX8_failed_2 rfl (lv_at hl 0 rfl) ?_
  refine x_isub hx hb dX8_failed_3 ?_
  rw [hQ9]
  refine ret_i (mc := 0) (ms := 0) hx hb hr hlocks hw hS (by first | exact Nat.le_of_ble_eq_true rfl | omega) (by first | exact Nat.le_of_ble_eq_true rfl | omega) dX8_failed_4 ?_
  exact ⟨rfl, rfl⟩

set_option maxHeartbeats 4000000 in
set_option maxRecDepth 100000 in
theorem c_X8_isWordInUse (l : Launch) (D : va_G) (tc : Nat → ClassId) (base : Nat) (ad : Nat → Int → Nat) (cnt : Nat → Int) (X : Nat → Int → Int → Int) (Y : Nat → Int → Int → Option Int) (ln : Int → Int) (hR : Rng X) (hFx : Fx cnt) (hLn : LnOK ln) (v : Int) (hv : -9223372036854775808 ≤ v ∧ v ≤ 9223372036854775807) : KI l D tc base yX8_isWordInUse wsX8_isWordInUse ({ frames := 0, cells := 0, slots := 0, locals := 0 } : Room) [.ref (ad 0 0), .long (jL v)] (ad, cnt, X, Y, ln) 0 0 (fun z u => u = (ad, cnt, X, Y, ln) ∧ ((z = 1 ∧ 0 ≤ v ∧ v < 16 ∧ X 3 0 v = 1) ∨ (z = 0 ∧ Hid (¬ (0 ≤ v ∧ v < 16 ∧ X 3 0 v = 1))))) := by
  refine K_of (cc := cX8_isWordInUse) (maxL := 3) (ret := (some .boolean)) (by decide) rfl (Nat.le_of_ble_eq_true rfl) ?_
  intro p e s m below meth c ls hx hb hr hml hown hts hlocks hl hK hw hS
  have hown : s.vm.findClass RX8 = some m.cls := hown
  obtain ⟨av9, hav9⟩ : ∃ a9 : Array Value, a9 = ([.ref (ad 0 0), .long (jL v)] : List Value).toArray := ⟨_, rfl⟩
  rw [← hav9] at hts ⊢
  obtain ⟨Q9, hQ9⟩ : ∃ q9Q : State → Prop, q9Q = MQ below (QI D tc base (fun z u => u = (ad, cnt, X, Y, ln) ∧ ((z = 1 ∧ 0 ≤ v ∧ v < 16 ∧ X 3 0 v = 1) ∨ (z = 0 ∧ Hid (¬ (0 ≤ v ∧ v < 16 ∧ X 3 0 v = 1)))))) av9 s 0 0 (frA base) := ⟨_, rfl⟩
  rw [← hQ9]
  have hi8 : ∀ w ∈ wsX80, w ∈ wsX8_isWordInUse := fun w h => List.mem_cons_of_mem _ (List.mem_append_right _ h)
  have hf8 : fctx s m _ RX8 wsX8_isWordInUse D tc RX8 TX8 12 8 := ⟨hts, hi8, hown, hK.1, rfl⟩
  have lk21 := hts (.fieldLink RX8 21 (TX8 4).1 (TX8 4).2.1 (TX8 4).2.2.1) (gj_X8_isWordInUse_0 _ (gp_1 gp_h))
  have hc0 : cnt 0 = 1 := hFx.at 0 1 (by decide)
  have hc3 : cnt 3 = 1 := hFx.at 3 1 (by decide)
  have hl : lv_has ls 3 [(0, .ref (ad 0 0)), (1, .long (jL v))] := hl
  refine lv_lload_n hx hb dX8_isWordInUse_0 rfl (lv_at hl 1 rfl) ?_
  refine lv_lconst (v := jL 0) hx hb dX8_isWordInUse_1 (by decide) ?_
  refine x_lcmp hx hb (by omega) (by omega) dX8_isWordInUse_2 ?_
  obtain ⟨z1, ez1⟩ : ∃ y : Int, y = cmpZ v 0 := ⟨_, rfl⟩
  rw [← ez1]
  have gz1 : (z1 < 0 ↔ (v : Int) < 0) ∧ (z1 = 0 ↔ (v : Int) = 0) ∧ -1 ≤ z1 ∧ z1 ≤ 1 := by rw [ez1]; exact ⟨cmpZ_lt, cmpZ_eq, (cmpZ_r _ _).1, (cmpZ_r _ _).2⟩
  clear ez1
  refine x_if_lt (tgt := 28) hx hb (by omega) dX8_isWordInUse_3 (by decide) (fun c2 => ?_) (fun c2 => ?_)
  · replace c2 := cz_ltT gz1 c2
    clear gz1
    refine lv_iconst (v := jI 0) hx hb dX8_isWordInUse_28 rfl ?_
    rw [hQ9]
    refine ret_z (mc := 0) (ms := 0) hx hb hr hlocks hw hS (by first | exact Nat.le_of_ble_eq_true rfl | omega) (by first | exact Nat.le_of_ble_eq_true rfl | omega) dX8_isWordInUse_29 (by omega) ?_
    exact ⟨rfl, Or.inr ⟨rfl, (by first | omega | (intro q; first | omega | (simp only [Hid] at *; omega)))⟩⟩
  · replace c2 := cz_ltF gz1 c2
    clear gz1
    refine lv_lload_n hx hb dX8_isWordInUse_6 rfl (lv_at hl 1 rfl) ?_
    refine lv_ldc2 (v := jL 16) hx hb hown (hts (.constantLong RX8 275 (16)) (by first | exact gj_X8_isWordInUse_0 _ (gp_h) | decide +kernel)) dX8_isWordInUse_7 ?_
    refine x_lcmp hx hb (by omega) (by omega) dX8_isWordInUse_10 ?_
    obtain ⟨z3, ez3⟩ : ∃ y : Int, y = cmpZ v 16 := ⟨_, rfl⟩
    rw [← ez3]
    have gz3 : (z3 < 0 ↔ (v : Int) < 16) ∧ (z3 = 0 ↔ (v : Int) = 16) ∧ -1 ≤ z3 ∧ z3 ≤ 1 := by rw [ez3]; exact ⟨cmpZ_lt, cmpZ_eq, (cmpZ_r _ _).1, (cmpZ_r _ _).2⟩
    clear ez3
    refine x_if_ge (tgt := 28) hx hb (by omega) dX8_isWordInUse_11 (by decide) (fun c4 => ?_) (fun c4 => ?_)
    · replace c4 := cz_geT gz3 c4
      clear gz3
      refine lv_iconst (v := jI 0) hx hb dX8_isWordInUse_28 rfl ?_
      rw [hQ9]
      refine ret_z (mc := 0) (ms := 0) hx hb hr hlocks hw hS (by first | exact Nat.le_of_ble_eq_true rfl | omega) (by first | exact Nat.le_of_ble_eq_true rfl | omega) dX8_isWordInUse_29 (by omega) ?_
      exact ⟨rfl, Or.inr ⟨rfl, (by first | omega | (intro q; first | omega | (simp only [Hid] at *; omega)))⟩⟩
    · replace c4 := cz_geF gz3 c4
      clear gz3
      refine lv_aload_n hx hb dX8_isWordInUse_14 rfl (lv_at hl 0 rfl) ?_
      refine x_geto hx hb hf8 hw (by first | exact Int.le_refl 0 | omega) (by first | exact zlt hc0 | omega) sl_0_4 lk21 dX8_isWordInUse_15 ?_
      refine lv_lload_n hx hb dX8_isWordInUse_18 rfl (lv_at hl 1 rfl) ?_
      refine x_l2i hx hb dX8_isWordInUse_19 ?_
      refine x_zald hx hb hK.1 hw (by first | exact Int.le_refl 0 | omega) (by first | exact zlt hc3 | omega) ar_3 (len_E ar_3 (by first | exact Nat.ne_of_beq_eq_false rfl | decide)) (by omega) (by omega) (by omega) dX8_isWordInUse_20 ?_
      have f5 : 0 ≤ X 3 0 v ∧ X 3 0 v ≤ 1 := hR 3 0 v
      refine x_if_eq (tgt := 28) hx hb (by omega) dX8_isWordInUse_21 (by decide) (fun c6 => ?_) (fun c6 => ?_)
      · refine lv_iconst (v := jI 0) hx hb dX8_isWordInUse_28 rfl ?_
        rw [hQ9]
        refine ret_z (mc := 0) (ms := 0) hx hb hr hlocks hw hS (by first | exact Nat.le_of_ble_eq_true rfl | omega) (by first | exact Nat.le_of_ble_eq_true rfl | omega) dX8_isWordInUse_29 (by omega) ?_
        exact ⟨rfl, Or.inr ⟨rfl, (by first | omega | (intro q; first | omega | (simp only [Hid] at *; omega)))⟩⟩
      · refine lv_iconst (v := jI 1) hx hb dX8_isWordInUse_24 rfl ?_
        refine lv_goto (tgt := 29) hx hb dX8_isWordInUse_25 (by decide) ?_
        rw [hQ9]
        refine ret_z (mc := 0) (ms := 0) hx hb hr hlocks hw hS (by first | exact Nat.le_of_ble_eq_true rfl | omega) (by first | exact Nat.le_of_ble_eq_true rfl | omega) dX8_isWordInUse_29 (by omega) ?_
        exact ⟨rfl, Or.inl ⟨rfl, by omega⟩⟩

set_option maxHeartbeats 4000000 in
set_option maxRecDepth 100000 in
theorem c_X7_hasField (l : Launch) (D : va_G) (tc : Nat → ClassId) (base : Nat) (ad : Nat → Int → Nat) (cnt : Nat → Int) (X : Nat → Int → Int → Int) (Y : Nat → Int → Int → Option Int) (ln : Int → Int) (hR : Rng X) (hFx : Fx cnt) (hLn : LnOK ln) (q k : Int) (hq : 0 ≤ q ∧ q < cnt 19) (hk : -2147483648 ≤ k ∧ k ≤ 2147483647) : KI l D tc base yX7_hasField wsX7_hasField ({ frames := 1, cells := 0, slots := 0, locals := 21 } : Room) [.ref (ad 19 q), .int (jI k)] (ad, cnt, X, Y, ln) 0 0 (fun z u => u = (ad, cnt, X, Y, ln) ∧ ((z = 1 ∧ 0 ≤ k ∧ k < X 19 q 1 ∧ k ≤ 4) ∨ (z = 0 ∧ Hid (¬ (0 ≤ k ∧ k < X 19 q 1))))) := by
  refine K_of (cc := cX7_hasField) (maxL := 2) (ret := (some .boolean)) (by decide) rfl (Nat.le_of_ble_eq_true rfl) ?_
  intro p e s m below meth c ls hx hb hr hml hown hts hlocks hl hK hw hS
  have hown : s.vm.findClass RX7 = some m.cls := hown
  obtain ⟨av9, hav9⟩ : ∃ a9 : Array Value, a9 = ([.ref (ad 19 q), .int (jI k)] : List Value).toArray := ⟨_, rfl⟩
  rw [← hav9] at hts ⊢
  obtain ⟨Q9, hQ9⟩ : ∃ q9Q : State → Prop, q9Q = MQ below (QI D tc base (fun z u => u = (ad, cnt, X, Y, ln) ∧ ((z = 1 ∧ 0 ≤ k ∧ k < X 19 q 1 ∧ k ≤ 4) ∨ (z = 0 ∧ Hid (¬ (0 ≤ k ∧ k < X 19 q 1)))))) av9 s 0 0 (frA base) := ⟨_, rfl⟩
  rw [← hQ9]
  have hi7 : ∀ w ∈ wsX70, w ∈ wsX7_hasField := fun w h => List.mem_cons_of_mem _ (List.mem_append_right _ h)
  have hf7 : fctx s m _ RX7 wsX7_hasField D tc RX7 TX7 8 7 := ⟨hts, hi7, hown, hK.1, rfl⟩
  have lk36 := hts (.fieldLink RX7 36 (TX7 1).1 (TX7 1).2.1 (TX7 1).2.2.1) (gj_X7_hasField_0 _ (gp_h))
  have hl : lv_has ls 2 [(0, .ref (ad 19 q)), (1, .int (jI k))] := hl
  have ffc : 0 ≤ X 19 q 1 ∧ X 19 q 1 ≤ 5 := hR 19 q 1
  refine lv_iload_n hx hb dX7_hasField_0 rfl (lv_at hl 1 rfl) ?_
  refine lv_aload_n hx hb dX7_hasField_1 rfl (lv_at hl 0 rfl) ?_
  refine x_geti (jz := 1) hx hb hf7 hw (by omega) (by omega) sl_19_1 rfl lk36 dX7_hasField_2 ?_
  have f1 : 0 ≤ X 19 q 1 ∧ X 19 q 1 ≤ 5 := hR 19 q 1
  refine gos_i (run_SN (As := [.int (jI k), .int (jI (X 19 q 1))]) (rest := []) (host := RX8) hx hb hml hown hts (c_X8_isBelow l D tc base ad cnt X Y ln k (X 19 q 1) (by omega) (by omega)) ⟨va_cnB 2 hts gX7_hasField_X8_isBelow_n39 rfl rfl rfl hK.2.1 (hts (.initialized RX8) (by first | exact gj_X7_hasField_0 _ (gp_1 (gp_1 gp_h)) | decide +kernel)) (by decide +kernel) ⟨Nat.le_of_ble_eq_true rfl, Nat.le_of_ble_eq_true rfl⟩, hts (.static yX8_isBelow) (by first | exact gj_X7_hasField_0 _ (gp_1 gp_h) | decide +kernel), trivial⟩ hK hw rfl hl.1 rfl (Nat.le_of_ble_eq_true rfl) dX7_hasField_5 ⟨Nat.le_of_ble_eq_true rfl, Nat.le_of_ble_eq_true rfl⟩) hS (fun z2 u3 H locs p4 hw hS => ?_)
  obtain ⟨eu3, p4⟩ := p4
  subst eu3
  rcases p4 with ⟨ez2, p4⟩ | ⟨ez2, p4⟩
  · subst ez2
    rw [hQ9]
    refine ret_z (mc := 0) (ms := 0) hx hb hr hlocks hw hS (by first | exact Nat.le_of_ble_eq_true rfl | omega) (by first | exact Nat.le_of_ble_eq_true rfl | omega) dX7_hasField_8 (by omega) ?_
    exact ⟨rfl, Or.inl ⟨rfl, by omega⟩⟩
  · subst ez2
    rw [hQ9]
    refine ret_z (mc := 0) (ms := 0) hx hb hr hlocks hw hS (by first | exact Nat.le_of_ble_eq_true rfl | omega) (by first | exact Nat.le_of_ble_eq_true rfl | omega) dX7_hasField_8 (by omega) ?_
    exact ⟨rfl, Or.inr ⟨rfl, (by first | omega | (intro q; first | omega | (simp only [Hid] at *; omega)))⟩⟩

set_option maxHeartbeats 4000000 in
set_option maxRecDepth 100000 in
theorem c_X7_hasLane (l : Launch) (D : va_G) (tc : Nat → ClassId) (base : Nat) (ad : Nat → Int → Nat) (cnt : Nat → Int) (X : Nat → Int → Int → Int) (Y : Nat → Int → Int → Option Int) (ln : Int → Int) (hR : Rng X) (hFx : Fx cnt) (hLn : LnOK ln) (q k lane : Int) (hq : 0 ≤ q ∧ q < cnt 19) (hk : -2147483648 ≤ k ∧ k ≤ 2147483647) (hlane : -2147483648 ≤ lane ∧ lane ≤ 2147483647) : KI l D tc base yX7_hasLane wsX7_hasLane ({ frames := 2, cells := 0, slots := 0, locals := 42 } : Room) [.ref (ad 19 q), .int (jI k), .int (jI lane)] (ad, cnt, X, Y, ln) 0 0 (fun z u => u = (ad, cnt, X, Y, ln) ∧ ((z = 1 ∧ 0 ≤ k ∧ k < X 19 q 1 ∧ k ≤ 4 ∧ X 21 q k = lane) ∨ (z = 0 ∧ Hid (¬ (0 ≤ k ∧ k < X 19 q 1 ∧ X 21 q k = lane))))) := by
  refine K_of (cc := cX7_hasLane) (maxL := 3) (ret := (some .boolean)) (by decide) rfl (Nat.le_of_ble_eq_true rfl) ?_
  intro p e s m below meth c ls hx hb hr hml hown hts hlocks hl hK hw hS
  have hown : s.vm.findClass RX7 = some m.cls := hown
  obtain ⟨av9, hav9⟩ : ∃ a9 : Array Value, a9 = ([.ref (ad 19 q), .int (jI k), .int (jI lane)] : List Value).toArray := ⟨_, rfl⟩
  rw [← hav9] at hts ⊢
  obtain ⟨Q9, hQ9⟩ : ∃ q9Q : State → Prop, q9Q = MQ below (QI D tc base (fun z u => u = (ad, cnt, X, Y, ln) ∧ ((z = 1 ∧ 0 ≤ k ∧ k < X 19 q 1 ∧ k ≤ 4 ∧ X 21 q k = lane) ∨ (z = 0 ∧ Hid (¬ (0 ≤ k ∧ k < X 19 q 1 ∧ X 21 q k = lane)))))) av9 s 0 0 (frA base) := ⟨_, rfl⟩
  rw [← hQ9]
  have hi7 : ∀ w ∈ wsX70, w ∈ wsX7_hasLane := fun w h => List.mem_cons_of_mem _ (List.mem_append_right _ h)
  have hf7 : fctx s m _ RX7 wsX7_hasLane D tc RX7 TX7 8 7 := ⟨hts, hi7, hown, hK.1, rfl⟩
  have lk15 := hts (.fieldLink RX7 15 (TX7 3).1 (TX7 3).2.1 (TX7 3).2.2.1) (gj_X7_hasLane_0 _ (gp_h))
  have hc21 : cnt 21 = cnt 19 := hFx.2.1 21 (by decide)
  have hl : lv_has ls 3 [(0, .ref (ad 19 q)), (1, .int (jI k)), (2, .int (jI lane))] := hl
  refine lv_aload_n hx hb dX7_hasLane_0 rfl (lv_at hl 0 rfl) ?_
  refine lv_iload_n hx hb dX7_hasLane_1 rfl (lv_at hl 1 rfl) ?_
  refine gos_i (run_V (As := [.int (jI k)]) (rest := []) hx hb hml hown hts (c_X7_hasField l D tc base ad cnt X Y ln hR hFx hLn q k (by omega) (by omega)) (cwV 1 hts gX7_hasLane_X7_hasField rfl rfl rfl (by first | exact hd_X7_hasField | decide +kernel) ⟨Nat.le_of_ble_eq_true rfl, Nat.le_of_ble_eq_true rfl⟩) hK hw (by first | exact Int.le_refl 0 | omega) (by first | exact zlt hc19 | omega) sl_19_0 rfl rfl hl.1 rfl (Nat.le_of_ble_eq_true rfl) dX7_hasLane_2 ⟨Nat.le_of_ble_eq_true rfl, Nat.le_of_ble_eq_true rfl⟩) hS (fun z1 u2 H locs p3 hw hS => ?_)
  obtain ⟨eu2, p3⟩ := p3
  subst eu2
  rcases p3 with ⟨ez1, p3⟩ | ⟨ez1, p3⟩
  · subst ez1
    refine x_if_eqF (tgt := 22) hx hb (by omega) (by decide) dX7_hasLane_5 (by decide) ?_
    refine lv_aload_n hx hb dX7_hasLane_8 rfl (lv_at hl 0 rfl) ?_
    refine x_geto hx hb hf7 hw (by omega) (by omega) sl_19_3 lk15 dX7_hasLane_9 ?_
    refine lv_iload_n hx hb dX7_hasLane_12 rfl (lv_at hl 1 rfl) ?_
    refine x_iald hx hb hK.1 hw (by omega) (by omega) ar_21 (len_E ar_21 (by first | exact Nat.ne_of_beq_eq_false rfl | decide)) (by omega) (by omega) (by omega) dX7_hasLane_13 ?_
    have f4 : 0 ≤ X 21 q k ∧ X 21 q k ≤ 5 := hR 21 q k
    refine lv_iload_n hx hb dX7_hasLane_14 rfl (lv_at hl 2 rfl) ?_
    refine x_icmp_ne (tgt := 22) hx hb (by omega) (by omega) dX7_hasLane_15 (by decide) (fun c5 => ?_) (fun c5 => ?_)
    · refine lv_iconst (v := jI 0) hx hb dX7_hasLane_22 rfl ?_
      rw [hQ9]
      refine ret_z (mc := 0) (ms := 0) hx hb hr hlocks hw hS (by first | exact Nat.le_of_ble_eq_true rfl | omega) (by first | exact Nat.le_of_ble_eq_true rfl | omega) dX7_hasLane_23 (by omega) ?_
      exact ⟨rfl, Or.inr ⟨rfl, (by first | omega | (intro q; first | omega | (simp only [Hid] at *; omega)))⟩⟩
    · refine lv_iconst (v := jI 1) hx hb dX7_hasLane_18 rfl ?_
      refine lv_goto (tgt := 23) hx hb dX7_hasLane_19 (by decide) ?_
      rw [hQ9]
      refine ret_z (mc := 0) (ms := 0) hx hb hr hlocks hw hS (by first | exact Nat.le_of_ble_eq_true rfl | omega) (by first | exact Nat.le_of_ble_eq_true rfl | omega) dX7_hasLane_23 (by omega) ?_
      exact ⟨rfl, Or.inl ⟨rfl, by omega⟩⟩
  · subst ez1
    refine x_if_eqT (tgt := 22) hx hb (by omega) (by decide) dX7_hasLane_5 (by decide) ?_
    refine lv_iconst (v := jI 0) hx hb dX7_hasLane_22 rfl ?_
    rw [hQ9]
    refine ret_z (mc := 0) (ms := 0) hx hb hr hlocks hw hS (by first | exact Nat.le_of_ble_eq_true rfl | omega) (by first | exact Nat.le_of_ble_eq_true rfl | omega) dX7_hasLane_23 (by omega) ?_
    exact ⟨rfl, Or.inr ⟨rfl, (by first | omega | (intro q; first | omega | (simp only [Hid] at *; omega)))⟩⟩

set_option maxHeartbeats 4000000 in
set_option maxRecDepth 100000 in
theorem c_X7_hasRowLane (l : Launch) (D : va_G) (tc : Nat → ClassId) (base : Nat) (ad : Nat → Int → Nat) (cnt : Nat → Int) (X : Nat → Int → Int → Int) (Y : Nat → Int → Int → Option Int) (ln : Int → Int) (hR : Rng X) (hFx : Fx cnt) (hLn : LnOK ln) (q k : Int) (hq : 0 ≤ q ∧ q < cnt 19) (hk : -2147483648 ≤ k ∧ k ≤ 2147483647) : KI l D tc base yX7_hasRowLane wsX7_hasRowLane ({ frames := 2, cells := 0, slots := 0, locals := 42 } : Room) [.ref (ad 19 q), .int (jI k)] (ad, cnt, X, Y, ln) 0 0 (fun z u => u = (ad, cnt, X, Y, ln) ∧ ((z = 1 ∧ 0 ≤ k ∧ k < X 19 q 1 ∧ k ≤ 4 ∧ 3 ≤ X 21 q k) ∨ (z = 0 ∧ Hid (¬ (0 ≤ k ∧ k < X 19 q 1 ∧ 3 ≤ X 21 q k))))) := by
  refine K_of (cc := cX7_hasRowLane) (maxL := 2) (ret := (some .boolean)) (by decide) rfl (Nat.le_of_ble_eq_true rfl) ?_
  intro p e s m below meth c ls hx hb hr hml hown hts hlocks hl hK hw hS
  have hown : s.vm.findClass RX7 = some m.cls := hown
  obtain ⟨av9, hav9⟩ : ∃ a9 : Array Value, a9 = ([.ref (ad 19 q), .int (jI k)] : List Value).toArray := ⟨_, rfl⟩
  rw [← hav9] at hts ⊢
  obtain ⟨Q9, hQ9⟩ : ∃ q9Q : State → Prop, q9Q = MQ below (QI D tc base (fun z u => u = (ad, cnt, X, Y, ln) ∧ ((z = 1 ∧ 0 ≤ k ∧ k < X 19 q 1 ∧ k ≤ 4 ∧ 3 ≤ X 21 q k) ∨ (z = 0 ∧ Hid (¬ (0 ≤ k ∧ k < X 19 q 1 ∧ 3 ≤ X 21 q k)))))) av9 s 0 0 (frA base) := ⟨_, rfl⟩
  rw [← hQ9]
  have hi7 : ∀ w ∈ wsX70, w ∈ wsX7_hasRowLane := fun w h => List.mem_cons_of_mem _ (List.mem_append_right _ h)
  have hf7 : fctx s m _ RX7 wsX7_hasRowLane D tc RX7 TX7 8 7 := ⟨hts, hi7, hown, hK.1, rfl⟩
  have lk15 := hts (.fieldLink RX7 15 (TX7 3).1 (TX7 3).2.1 (TX7 3).2.2.1) (gj_X7_hasRowLane_0 _ (gp_h))
  have hc21 : cnt 21 = cnt 19 := hFx.2.1 21 (by decide)
  have hl : lv_has ls 2 [(0, .ref (ad 19 q)), (1, .int (jI k))] := hl
  refine lv_aload_n hx hb dX7_hasRowLane_0 rfl (lv_at hl 0 rfl) ?_
  refine lv_iload_n hx hb dX7_hasRowLane_1 rfl (lv_at hl 1 rfl) ?_
  refine gos_i (run_V (As := [.int (jI k)]) (rest := []) hx hb hml hown hts (c_X7_hasField l D tc base ad cnt X Y ln hR hFx hLn q k (by omega) (by omega)) (cwV 1 hts gX7_hasRowLane_X7_hasField rfl rfl rfl (by first | exact hd_X7_hasField | decide +kernel) ⟨Nat.le_of_ble_eq_true rfl, Nat.le_of_ble_eq_true rfl⟩) hK hw (by first | exact Int.le_refl 0 | omega) (by first | exact zlt hc19 | omega) sl_19_0 rfl rfl hl.1 rfl (Nat.le_of_ble_eq_true rfl) dX7_hasRowLane_2 ⟨Nat.le_of_ble_eq_true rfl, Nat.le_of_ble_eq_true rfl⟩) hS (fun z1 u2 H locs p3 hw hS => ?_)
  obtain ⟨eu2, p3⟩ := p3
  subst eu2
  rcases p3 with ⟨ez1, p3⟩ | ⟨ez1, p3⟩
  · subst ez1
    refine x_if_eqF (tgt := 24) hx hb (by omega) (by decide) dX7_hasRowLane_5 (by decide) ?_
    refine lv_aload_n hx hb dX7_hasRowLane_8 rfl (lv_at hl 0 rfl) ?_
    refine x_geto hx hb hf7 hw (by omega) (by omega) sl_19_3 lk15 dX7_hasRowLane_9 ?_
    refine lv_iload_n hx hb dX7_hasRowLane_12 rfl (lv_at hl 1 rfl) ?_
    refine x_iald hx hb hK.1 hw (by omega) (by omega) ar_21 (len_E ar_21 (by first | exact Nat.ne_of_beq_eq_false rfl | decide)) (by omega) (by omega) (by omega) dX7_hasRowLane_13 ?_
    have f4 : 0 ≤ X 21 q k ∧ X 21 q k ≤ 5 := hR 21 q k
    refine gos_i (run_SN (As := [.int (jI (X 21 q k))]) (rest := []) (host := RX8) hx hb hml hown hts (c_X8_isRowLane l D tc base ad cnt X Y ln (X 21 q k) (by omega)) ⟨va_cnB 1 hts gX7_hasRowLane_X8_isRowLane_n47 rfl rfl rfl hK.2.2.1 (hts (.initialized RX8) (by first | exact gj_X7_hasRowLane_0 _ (gp_4 (gp_4 gp_h)) | decide +kernel)) (by decide +kernel) ⟨Nat.le_of_ble_eq_true rfl, Nat.le_of_ble_eq_true rfl⟩, hts (.static yX8_isRowLane) (by first | exact gj_X7_hasRowLane_0 _ (gp_4 (gp_4 (gp_1 (gp_1 gp_h)))) | decide +kernel), trivial⟩ hK hw rfl hl.1 rfl (Nat.le_of_ble_eq_true rfl) dX7_hasRowLane_14 ⟨Nat.le_of_ble_eq_true rfl, Nat.le_of_ble_eq_true rfl⟩) hS (fun z5 u6 H locs p7 hw hS => ?_)
    obtain ⟨eu6, p7⟩ := p7
    subst eu6
    rcases p7 with ⟨ez5, p7⟩ | ⟨ez5, p7⟩
    · subst ez5
      refine x_if_eqF (tgt := 24) hx hb (by omega) (by decide) dX7_hasRowLane_17 (by decide) ?_
      refine lv_iconst (v := jI 1) hx hb dX7_hasRowLane_20 rfl ?_
      refine lv_goto (tgt := 25) hx hb dX7_hasRowLane_21 (by decide) ?_
      rw [hQ9]
      refine ret_z (mc := 0) (ms := 0) hx hb hr hlocks hw hS (by first | exact Nat.le_of_ble_eq_true rfl | omega) (by first | exact Nat.le_of_ble_eq_true rfl | omega) dX7_hasRowLane_25 (by omega) ?_
      exact ⟨rfl, Or.inl ⟨rfl, by omega⟩⟩
    · subst ez5
      refine x_if_eqT (tgt := 24) hx hb (by omega) (by decide) dX7_hasRowLane_17 (by decide) ?_
      refine lv_iconst (v := jI 0) hx hb dX7_hasRowLane_24 rfl ?_
      rw [hQ9]
      refine ret_z (mc := 0) (ms := 0) hx hb hr hlocks hw hS (by first | exact Nat.le_of_ble_eq_true rfl | omega) (by first | exact Nat.le_of_ble_eq_true rfl | omega) dX7_hasRowLane_25 (by omega) ?_
      exact ⟨rfl, Or.inr ⟨rfl, (by first | omega | (intro q; first | omega | (simp only [Hid] at *; omega)))⟩⟩
  · subst ez1
    refine x_if_eqT (tgt := 24) hx hb (by omega) (by decide) dX7_hasRowLane_5 (by decide) ?_
    refine lv_iconst (v := jI 0) hx hb dX7_hasRowLane_24 rfl ?_
    rw [hQ9]
    refine ret_z (mc := 0) (ms := 0) hx hb hr hlocks hw hS (by first | exact Nat.le_of_ble_eq_true rfl | omega) (by first | exact Nat.le_of_ble_eq_true rfl | omega) dX7_hasRowLane_25 (by omega) ?_
    exact ⟨rfl, Or.inr ⟨rfl, (by first | omega | (intro q; first | omega | (simp only [Hid] at *; omega)))⟩⟩

set_option maxHeartbeats 4000000 in
set_option maxRecDepth 100000 in
theorem c_X7_fieldNamed (l : Launch) (D : va_G) (tc : Nat → ClassId) (base : Nat) (ad : Nat → Int → Nat) (cnt : Nat → Int) (X : Nat → Int → Int → Int) (Y : Nat → Int → Int → Option Int) (ln : Int → Int) (hR : Rng X) (hFx : Fx cnt) (hLn : LnOK ln) (q name : Int) (hq : 0 ≤ q ∧ q < cnt 19) (hname : -2147483648 ≤ name ∧ name ≤ 2147483647) : KI l D tc base yX7_fieldNamed wsX7_fieldNamed ({ frames := 0, cells := 0, slots := 0, locals := 0 } : Room) [.ref (ad 19 q), .int (jI name)] (ad, cnt, X, Y, ln) 0 0 (fun z u => u = (ad, cnt, X, Y, ln) ∧ -1 ≤ z ∧ z < X 19 q 1 ∧ z ≤ 4 ∧ z = nmAt (X 20 q) name (X 19 q 1).toNat) := by
  refine K_of (cc := cX7_fieldNamed) (maxL := 3) (ret := (some .int)) (by decide) rfl (Nat.le_of_ble_eq_true rfl) ?_
  intro p e s m below meth c ls hx hb hr hml hown hts hlocks hl hK hw hS
  have hown : s.vm.findClass RX7 = some m.cls := hown
  obtain ⟨av9, hav9⟩ : ∃ a9 : Array Value, a9 = ([.ref (ad 19 q), .int (jI name)] : List Value).toArray := ⟨_, rfl⟩
  rw [← hav9] at hts ⊢
  obtain ⟨Q9, hQ9⟩ : ∃ q9Q : State → Prop, q9Q = MQ below (QI D tc base (fun z u => u = (ad, cnt, X, Y, ln) ∧ -1 ≤ z ∧ z < X 19 q 1 ∧ z ≤ 4 ∧ z = nmAt (X 20 q) name (X 19 q 1).toNat)) av9 s 0 0 (frA base) := ⟨_, rfl⟩
  rw [← hQ9]
  have hi7 : ∀ w ∈ wsX70, w ∈ wsX7_fieldNamed := fun w h => List.mem_cons_of_mem _ (List.mem_append_right _ h)
  have hf7 : fctx s m _ RX7 wsX7_fieldNamed D tc RX7 TX7 8 7 := ⟨hts, hi7, hown, hK.1, rfl⟩
  have lk9 := hts (.fieldLink RX7 9 (TX7 2).1 (TX7 2).2.1 (TX7 2).2.2.1) (gj_X7_fieldNamed_0 _ (gp_1 gp_h))
  have lk36 := hts (.fieldLink RX7 36 (TX7 1).1 (TX7 1).2.1 (TX7 1).2.2.1) (gj_X7_fieldNamed_0 _ (gp_h))
  have hc20 : cnt 20 = cnt 19 := hFx.2.1 20 (by decide)
  have hl : lv_has ls 3 [(0, .ref (ad 19 q)), (1, .int (jI name))] := hl
  refine lv_iconst (v := jI 0) hx hb dX7_fieldNamed_0 rfl ?_
  refine lv_istore_n (lv' := [(2, .int (jI 0)), (0, .ref (ad 19 q)), (1, .int (jI name))]) hx hb dX7_fieldNamed_1 rfl hl (by decide) rfl (fun ls hl => ?_)
  have lp2 : ∀ (nn : Nat) (k : Int) (H : Heap) (locs : List Loc) (ls : Array Slot), (5 - k) < (nn : Int) → (0 ≤ k ∧ k ≤ 5) → (∀ j, 0 ≤ j → j < k → X 20 q j ≠ name) → wd D tc base (ad, cnt, X, Y, ln) H → va_S (frA base) s.heap H locs → lv_has ls 3 [(0, .ref (ad 19 q)), (1, .int (jI name)), (2, .int (jI k))] → W p l e ({ frames := 0, cells := 0, slots := 0, locals := 0 } : Room) s m av9 below meth c H locs 0 0 Q9 (F0 m 2 ls []) := by
    intro nn
    induction nn with
    | zero => intro k H locs ls hm hk hnn hw hS hl; exfalso; omega
    | succ nn ih2 =>
      intro k H locs ls hm hk hnn hw hS hl
      refine lv_iload_n hx hb dX7_fieldNamed_2 rfl (lv_at hl 2 rfl) ?_
      refine lv_aload_n hx hb dX7_fieldNamed_3 rfl (lv_at hl 0 rfl) ?_
      refine x_geti (jz := 1) hx hb hf7 hw (by omega) (by omega) sl_19_1 rfl lk36 dX7_fieldNamed_4 ?_
      have f1 : 0 ≤ X 19 q 1 ∧ X 19 q 1 ≤ 5 := hR 19 q 1
      refine x_icmp_ge (tgt := 28) hx hb (by omega) (by omega) dX7_fieldNamed_7 (by decide) (fun c2 => ?_) (fun c2 => ?_)
      · refine lv_iconst (v := jI (-1)) hx hb dX7_fieldNamed_28 rfl ?_
        rw [hQ9]
        refine ret_i (mc := 0) (ms := 0) hx hb hr hlocks hw hS (by first | exact Nat.le_of_ble_eq_true rfl | omega) (by first | exact Nat.le_of_ble_eq_true rfl | omega) dX7_fieldNamed_29 ?_
        exact ⟨rfl, by omega, by omega, by omega, (nmAt_no (fun j a b => hnn j a (by omega)) (by omega)).symm⟩
      · refine lv_aload_n hx hb dX7_fieldNamed_10 rfl (lv_at hl 0 rfl) ?_
        refine x_geto hx hb hf7 hw (by omega) (by omega) sl_19_2 lk9 dX7_fieldNamed_11 ?_
        refine lv_iload_n hx hb dX7_fieldNamed_14 rfl (lv_at hl 2 rfl) ?_
        refine x_iald hx hb hK.1 hw (by omega) (by omega) ar_20 (len_E ar_20 (by first | exact Nat.ne_of_beq_eq_false rfl | decide)) (by omega) (by omega) (by omega) dX7_fieldNamed_15 ?_
        have f3 : 0 ≤ X 20 q k ∧ X 20 q k ≤ 19 := hR 20 q k
        refine lv_iload_n hx hb dX7_fieldNamed_16 rfl (lv_at hl 1 rfl) ?_
        refine x_icmp_ne (tgt := 22) hx hb (by omega) (by omega) dX7_fieldNamed_17 (by decide) (fun c4 => ?_) (fun c4 => ?_)
        · refine lv_iinc (v := jI (k + 1)) (lv' := [(2, .int (jI (k + 1))), (0, .ref (ad 19 q)), (1, .int (jI name))]) hx hb dX7_fieldNamed_22 hl (k := 2) rfl (jI_add _ _) (by decide) rfl (fun ls hl => ?_)
          refine lv_goto (tgt := 2) hx hb dX7_fieldNamed_25 (by decide) ?_
          exact ih2 (k + 1) _ _ _ (by omega) (by omega) (fun j a b => if hj : j = k then (by rw [hj]; omega) else hnn j a (by omega)) hw hS (lv_sub hl [1, 2, 0] rfl)
        · refine lv_iload_n hx hb dX7_fieldNamed_20 rfl (lv_at hl 2 rfl) ?_
          rw [hQ9]
          refine ret_i (mc := 0) (ms := 0) hx hb hr hlocks hw hS (by first | exact Nat.le_of_ble_eq_true rfl | omega) (by first | exact Nat.le_of_ble_eq_true rfl | omega) dX7_fieldNamed_21 ?_
          exact ⟨rfl, by omega, by omega, by omega, (nmAt_yes hnn (by omega) (by omega)).symm⟩
  exact lp2 (5 - 0 : Int).toNat.succ 0 _ _ _ (by omega) (by omega) (fun j a b => by omega) hw hS (lv_sub hl [1, 2, 0] rfl)

set_option maxHeartbeats 4000000 in
set_option maxRecDepth 100000 in
theorem c_X8_typeNumbered (l : Launch) (D : va_G) (tc : Nat → ClassId) (base : Nat) (ad : Nat → Int → Nat) (cnt : Nat → Int) (X : Nat → Int → Int → Int) (Y : Nat → Int → Int → Option Int) (ln : Int → Int) (hR : Rng X) (hFx : Fx cnt) (hLn : LnOK ln) (hCI : CInv cnt X Y ln) (t : Int) (ht : -2147483648 ≤ t ∧ t ≤ 2147483647) : KR l D tc base 19 yX8_typeNumbered wsX8_typeNumbered ({ frames := 1, cells := 0, slots := 0, locals := 21 } : Room) [.ref (ad 0 0), .int (jI t)] (ad, cnt, X, Y, ln) 0 0 (fun o u => u = (ad, cnt, X, Y, ln) ∧ (∀ q, o = some q → q = t ∧ 0 ≤ t ∧ t < X 0 0 1 ∧ t ≤ 7 ∧ t < cnt 19) ∧ (o = none → Hid (¬ (0 ≤ t ∧ t < X 0 0 1)))) := by
  refine K_of (cc := cX8_typeNumbered) (maxL := 2) (ret := (some (.object "StateRecords$Type"))) (by decide) rfl (Nat.le_of_ble_eq_true rfl) ?_
  intro p e s m below meth c ls hx hb hr hml hown hts hlocks hl hK hw hS
  have hown : s.vm.findClass RX8 = some m.cls := hown
  obtain ⟨av9, hav9⟩ : ∃ a9 : Array Value, a9 = ([.ref (ad 0 0), .int (jI t)] : List Value).toArray := ⟨_, rfl⟩
  rw [← hav9] at hts ⊢
  obtain ⟨Q9, hQ9⟩ : ∃ q9Q : State → Prop, q9Q = MQ below (QR D tc base 19 (fun o u => u = (ad, cnt, X, Y, ln) ∧ (∀ q, o = some q → q = t ∧ 0 ≤ t ∧ t < X 0 0 1 ∧ t ≤ 7 ∧ t < cnt 19) ∧ (o = none → Hid (¬ (0 ≤ t ∧ t < X 0 0 1))))) av9 s 0 0 (frA base) := ⟨_, rfl⟩
  rw [← hQ9]
  have hi8 : ∀ w ∈ wsX80, w ∈ wsX8_typeNumbered := fun w h => List.mem_cons_of_mem _ (List.mem_append_right _ h)
  have hf8 : fctx s m _ RX8 wsX8_typeNumbered D tc RX8 TX8 12 8 := ⟨hts, hi8, hown, hK.1, rfl⟩
  have lk11 := hts (.fieldLink RX8 11 (TX8 0).1 (TX8 0).2.1 (TX8 0).2.2.1) (gj_X8_typeNumbered_0 _ (gp_1 gp_h))
  have lk63 := hts (.fieldLink RX8 63 (TX8 1).1 (TX8 1).2.1 (TX8 1).2.2.1) (gj_X8_typeNumbered_0 _ (gp_h))
  have hc0 : cnt 0 = 1 := hFx.at 0 1 (by decide)
  have hc1 : cnt 1 = 1 := hFx.at 1 1 (by decide)
  have hl : lv_has ls 2 [(0, .ref (ad 0 0)), (1, .int (jI t))] := hl
  have hct : cnt 19 = X 0 0 1 := hCI.2.2.2.1.1
  have ftc : 0 ≤ X 0 0 1 ∧ X 0 0 1 ≤ 8 := hR 0 0 1
  refine lv_iload_n hx hb dX8_typeNumbered_0 rfl (lv_at hl 1 rfl) ?_
  refine lv_aload_n hx hb dX8_typeNumbered_1 rfl (lv_at hl 0 rfl) ?_
  refine x_geti (jz := 1) hx hb hf8 hw (by first | exact Int.le_refl 0 | omega) (by first | exact zlt hc0 | omega) sl_0_1 rfl lk63 dX8_typeNumbered_2 ?_
  have f1 : 0 ≤ X 0 0 1 ∧ X 0 0 1 ≤ 8 := hR 0 0 1
  refine gos_i (run_S (As := [.int (jI t), .int (jI (X 0 0 1))]) (rest := []) hx hb hml hown hts (c_X8_isBelow l D tc base ad cnt X Y ln t (X 0 0 1) (by omega) (by omega)) (cwS 2 hts gX8_typeNumbered_X8_isBelow rfl rfl rfl (by first | exact hd_X8_isBelow | decide +kernel) ⟨Nat.le_of_ble_eq_true rfl, Nat.le_of_ble_eq_true rfl⟩) hK hw rfl hl.1 rfl (Nat.le_of_ble_eq_true rfl) dX8_typeNumbered_5 ⟨Nat.le_of_ble_eq_true rfl, Nat.le_of_ble_eq_true rfl⟩) hS (fun z2 u3 H locs p4 hw hS => ?_)
  obtain ⟨eu3, p4⟩ := p4
  subst eu3
  rcases p4 with ⟨ez2, p4⟩ | ⟨ez2, p4⟩
  · subst ez2
    refine x_if_eqF (tgt := 20) hx hb (by omega) (by decide) dX8_typeNumbered_8 (by decide) ?_
    refine lv_aload_n hx hb dX8_typeNumbered_11 rfl (lv_at hl 0 rfl) ?_
    refine x_geto hx hb hf8 hw (by first | exact Int.le_refl 0 | omega) (by first | exact zlt hc0 | omega) sl_0_0 lk11 dX8_typeNumbered_12 ?_
    refine lv_iload_n hx hb dX8_typeNumbered_15 rfl (lv_at hl 1 rfl) ?_
    refine x_aald hx hb hK.1 hw (by first | exact Int.le_refl 0 | omega) (by first | exact zlt hc1 | omega) ar_1 rfl (len_E ar_1 (by first | exact Nat.ne_of_beq_eq_false rfl | decide)) (by omega) (by omega) (by omega) dX8_typeNumbered_16 (fun y5 => ?_) (fun r6 y5 gr6 lr6 => ?_)
    · exfalso
      have h9 := (hCI.2.2.2.1.2 t (by omega) (by omega)).1; rw [h9] at y5; cases y5
    · have er6 : r6 = t := by have h9 := (hCI.2.2.2.1.2 t (by omega) (by omega)).1; rw [h9] at y5; cases y5; rfl
      rw [er6]
      refine lv_goto (tgt := 21) hx hb dX8_typeNumbered_17 (by decide) ?_
      rw [hQ9]
      refine ret_r (mc := 0) (ms := 0) (k := 19) (i := t) hx hb hr hlocks hw hS (by first | exact Nat.le_of_ble_eq_true rfl | omega) (by first | exact Nat.le_of_ble_eq_true rfl | omega) dX8_typeNumbered_21 ?_
      exact ⟨rfl, fun q e => by cases e; exact ⟨by omega, by omega, by omega, by omega, by omega⟩, fun e => by cases e⟩
  · subst ez2
    refine x_if_eqT (tgt := 20) hx hb (by omega) (by decide) dX8_typeNumbered_8 (by decide) ?_
    refine lv_null hx hb dX8_typeNumbered_20 ?_
    rw [hQ9]
    refine ret_n (mc := 0) (ms := 0) hx hb hr hlocks hw hS (by first | exact Nat.le_of_ble_eq_true rfl | omega) (by first | exact Nat.le_of_ble_eq_true rfl | omega) dX8_typeNumbered_21 ?_
    exact ⟨rfl, fun q e => (by cases e), fun _ q => by simp only [Hid] at *; omega⟩

set_option maxHeartbeats 4000000 in
set_option maxRecDepth 100000 in
theorem c_X8_thingNumbered (l : Launch) (D : va_G) (tc : Nat → ClassId) (base : Nat) (ad : Nat → Int → Nat) (cnt : Nat → Int) (X : Nat → Int → Int → Int) (Y : Nat → Int → Int → Option Int) (ln : Int → Int) (hR : Rng X) (hFx : Fx cnt) (hLn : LnOK ln) (hCI : CInv cnt X Y ln) (x : Int) (hx : -9223372036854775808 ≤ x ∧ x ≤ 9223372036854775807) : KR l D tc base 15 yX8_thingNumbered wsX8_thingNumbered ({ frames := 0, cells := 0, slots := 0, locals := 0 } : Room) [.ref (ad 0 0), .long (jL x)] (ad, cnt, X, Y, ln) 0 0 (fun o u => u = (ad, cnt, X, Y, ln) ∧ (∀ q, o = some q → q = x ∧ 0 ≤ x ∧ x < X 0 0 3 ∧ x ≤ 29) ∧ (o = none → Hid (¬ (0 ≤ x ∧ x < X 0 0 3)))) := by
  refine K_of (cc := cX8_thingNumbered) (maxL := 3) (ret := (some (.object "StateRecords$Thing"))) (by decide) rfl (Nat.le_of_ble_eq_true rfl) ?_
  intro p e s m below meth c ls hx hb hr hml hown hts hlocks hl hK hw hS
  have hown : s.vm.findClass RX8 = some m.cls := hown
  obtain ⟨av9, hav9⟩ : ∃ a9 : Array Value, a9 = ([.ref (ad 0 0), .long (jL x)] : List Value).toArray := ⟨_, rfl⟩
  rw [← hav9] at hts ⊢
  obtain ⟨Q9, hQ9⟩ : ∃ q9Q : State → Prop, q9Q = MQ below (QR D tc base 15 (fun o u => u = (ad, cnt, X, Y, ln) ∧ (∀ q, o = some q → q = x ∧ 0 ≤ x ∧ x < X 0 0 3 ∧ x ≤ 29) ∧ (o = none → Hid (¬ (0 ≤ x ∧ x < X 0 0 3))))) av9 s 0 0 (frA base) := ⟨_, rfl⟩
  rw [← hQ9]
  have hi8 : ∀ w ∈ wsX80, w ∈ wsX8_thingNumbered := fun w h => List.mem_cons_of_mem _ (List.mem_append_right _ h)
  have hf8 : fctx s m _ RX8 wsX8_thingNumbered D tc RX8 TX8 12 8 := ⟨hts, hi8, hown, hK.1, rfl⟩
  have lk17 := hts (.fieldLink RX8 17 (TX8 2).1 (TX8 2).2.1 (TX8 2).2.2.1) (gj_X8_thingNumbered_0 _ (gp_1 gp_h))
  have lk94 := hts (.fieldLink RX8 94 (TX8 3).1 (TX8 3).2.1 (TX8 3).2.2.1) (gj_X8_thingNumbered_0 _ (gp_h))
  have hc0 : cnt 0 = 1 := hFx.at 0 1 (by decide)
  have hc2 : cnt 2 = 1 := hFx.at 2 1 (by decide)
  have hc15 : cnt 15 = 30 := hFx.at 15 30 (by decide)
  have hl : lv_has ls 3 [(0, .ref (ad 0 0)), (1, .long (jL x))] := hl
  have ftc : 0 ≤ X 0 0 3 ∧ X 0 0 3 ≤ 30 := hR 0 0 3
  refine lv_lload_n hx hb dX8_thingNumbered_0 rfl (lv_at hl 1 rfl) ?_
  refine lv_lconst (v := jL 0) hx hb dX8_thingNumbered_1 (by decide) ?_
  refine x_lcmp hx hb (by omega) (by omega) dX8_thingNumbered_2 ?_
  obtain ⟨z1, ez1⟩ : ∃ y : Int, y = cmpZ x 0 := ⟨_, rfl⟩
  rw [← ez1]
  have gz1 : (z1 < 0 ↔ (x : Int) < 0) ∧ (z1 = 0 ↔ (x : Int) = 0) ∧ -1 ≤ z1 ∧ z1 ≤ 1 := by rw [ez1]; exact ⟨cmpZ_lt, cmpZ_eq, (cmpZ_r _ _).1, (cmpZ_r _ _).2⟩
  clear ez1
  refine x_if_lt (tgt := 26) hx hb (by omega) dX8_thingNumbered_3 (by decide) (fun c2 => ?_) (fun c2 => ?_)
  · replace c2 := cz_ltT gz1 c2
    clear gz1
    refine lv_null hx hb dX8_thingNumbered_26 ?_
    rw [hQ9]
    refine ret_n (mc := 0) (ms := 0) hx hb hr hlocks hw hS (by first | exact Nat.le_of_ble_eq_true rfl | omega) (by first | exact Nat.le_of_ble_eq_true rfl | omega) dX8_thingNumbered_27 ?_
    exact ⟨rfl, fun q e => (by cases e), fun _ q => by omega⟩
  · replace c2 := cz_ltF gz1 c2
    clear gz1
    refine lv_lload_n hx hb dX8_thingNumbered_6 rfl (lv_at hl 1 rfl) ?_
    refine lv_aload_n hx hb dX8_thingNumbered_7 rfl (lv_at hl 0 rfl) ?_
    refine x_geti (jz := 3) hx hb hf8 hw (by first | exact Int.le_refl 0 | omega) (by first | exact zlt hc0 | omega) sl_0_3 rfl lk94 dX8_thingNumbered_8 ?_
    have f3 : 0 ≤ X 0 0 3 ∧ X 0 0 3 ≤ 30 := hR 0 0 3
    refine x_i2l hx hb (by omega) dX8_thingNumbered_11 ?_
    refine x_lcmp hx hb (by omega) (by omega) dX8_thingNumbered_12 ?_
    obtain ⟨z4, ez4⟩ : ∃ y : Int, y = cmpZ x (X 0 0 3) := ⟨_, rfl⟩
    rw [← ez4]
    have gz4 : (z4 < 0 ↔ (x : Int) < (X 0 0 3)) ∧ (z4 = 0 ↔ (x : Int) = (X 0 0 3)) ∧ -1 ≤ z4 ∧ z4 ≤ 1 := by rw [ez4]; exact ⟨cmpZ_lt, cmpZ_eq, (cmpZ_r _ _).1, (cmpZ_r _ _).2⟩
    clear ez4
    refine x_if_ge (tgt := 26) hx hb (by omega) dX8_thingNumbered_13 (by decide) (fun c5 => ?_) (fun c5 => ?_)
    · replace c5 := cz_geT gz4 c5
      clear gz4
      refine lv_null hx hb dX8_thingNumbered_26 ?_
      rw [hQ9]
      refine ret_n (mc := 0) (ms := 0) hx hb hr hlocks hw hS (by first | exact Nat.le_of_ble_eq_true rfl | omega) (by first | exact Nat.le_of_ble_eq_true rfl | omega) dX8_thingNumbered_27 ?_
      exact ⟨rfl, fun q e => (by cases e), fun _ q => by omega⟩
    · replace c5 := cz_geF gz4 c5
      clear gz4
      refine lv_aload_n hx hb dX8_thingNumbered_16 rfl (lv_at hl 0 rfl) ?_
      refine x_geto hx hb hf8 hw (by first | exact Int.le_refl 0 | omega) (by first | exact zlt hc0 | omega) sl_0_2 lk17 dX8_thingNumbered_17 ?_
      refine lv_lload_n hx hb dX8_thingNumbered_20 rfl (lv_at hl 1 rfl) ?_
      refine x_l2i hx hb dX8_thingNumbered_21 ?_
      refine x_aald hx hb hK.1 hw (by first | exact Int.le_refl 0 | omega) (by first | exact zlt hc2 | omega) ar_2 rfl (len_E ar_2 (by first | exact Nat.ne_of_beq_eq_false rfl | decide)) (by omega) (by omega) (by omega) dX8_thingNumbered_22 (fun y6 => ?_) (fun r7 y6 gr7 lr7 => ?_)
      · exfalso
        have h9 := hCI.1 x (by omega) (by omega); rw [h9] at y6; cases y6
      · have er7 : r7 = x := by have h9 := hCI.1 x (by omega) (by omega); rw [h9] at y6; cases y6; rfl
        rw [er7]
        refine lv_goto (tgt := 27) hx hb dX8_thingNumbered_23 (by decide) ?_
        rw [hQ9]
        refine ret_r (mc := 0) (ms := 0) (k := 15) (i := x) hx hb hr hlocks hw hS (by first | exact Nat.le_of_ble_eq_true rfl | omega) (by first | exact Nat.le_of_ble_eq_true rfl | omega) dX8_thingNumbered_27 ?_
        exact ⟨rfl, fun q e => by cases e; exact ⟨by omega, by omega, by omega, by omega⟩, fun e => by cases e⟩
end
