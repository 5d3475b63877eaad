set_option maxHeartbeats 4000000 in
set_option maxRecDepth 100000 in
theorem c_X9_differs (l : Launch) (D : va_G) (tc : Nat → ClassId) (base : Nat) (ad : Nat → Int → Nat) (cnt : Nat → Int) (X : Nat → Int → Int → Int) (Y : Nat → Int → Int → Option Int) (ln : Int → Int) (hR : Rng X) (hFx : Fx cnt) (hMI : MInv X) (sv x : Int) (hsv : -2147483648 ≤ sv ∧ sv ≤ 2147483647) (hx : -2147483648 ≤ x ∧ x ≤ 2147483647) : KI l D tc base yX9_differs wsX9_differs ({ frames := 2, cells := 0, slots := 0, locals := 53 } : Room) [.ref (ad 40 0), .int (jI sv), .int (jI x)] (ad, cnt, X, Y, ln) 0 0 (fun z u => ∃ X1 : Nat → Int → Int → Int, u = (ad, cnt, X1, Y, ln) ∧ Rng X1 ∧ Frm [4001, 7100, 7200, 7300, 7400, 7500, 8000, 7000, 8100, 7700, 7800, 7900, 7600, 4042, 4043, 4044] X X1 ∧ MInv X1 ∧ (-2147483648 ≤ z ∧ z ≤ 2147483647) ∧ S4 X X1 ∧ S5 X X1 ∧ ((¬ ((0 ≤ sv ∧ sv < 4) ∧ X 70 0 sv ≠ 0 ∧ (0 ≤ x ∧ x < X 40 0 13)) ∧ z = -2) ∨ (((0 ≤ sv ∧ sv < 4) ∧ X 70 0 sv ≠ 0 ∧ (0 ≤ x ∧ x < X 40 0 13)) ∧ (rmT X1 (recR (fcM X) (lnM X) (mRid X) (mRid X) x 30) ∧ rmR X1 (recR (fcM X) (lnM X) (mRid X) (mRid X) x 30) ∧ rmV X1 (recR (fcM X) (lnM X) (mRid X) (mRid X) x 30) (recR (fcM X) (lnM X) (mRid X) (mRid X) x 30 0 0) 0) ∧ dfP (mxM X1 sv) (shM X1 sv) (fun r => X1 72 0 (30 * sv + r)) (vqM X1 sv) (fun r f => X1 73 0 (5 * (30 * sv + r) + f)) z))) := by
  refine K_of (cc := cX9_differs) (maxL := 12) (ret := (some .int)) (by decide) rfl (Nat.le_of_ble_eq_true rfl) ?_
  intro p e s m below meth c ls hx hb hr hml hown hts hlocks hl hK hw hS
  have hown : s.vm.findClass RX9 = some m.cls := hown
  obtain ⟨av9, hav9⟩ : ∃ a9 : Array Value, a9 = ([.ref (ad 40 0), .int (jI sv), .int (jI x)] : List Value).toArray := ⟨_, rfl⟩
  rw [← hav9] at hts ⊢
  obtain ⟨Q9, hQ9⟩ : ∃ q9Q : State → Prop, q9Q = MQ below (QI D tc base (fun z u => ∃ X1 : Nat → Int → Int → Int, u = (ad, cnt, X1, Y, ln) ∧ Rng X1 ∧ Frm [4001, 7100, 7200, 7300, 7400, 7500, 8000, 7000, 8100, 7700, 7800, 7900, 7600, 4042, 4043, 4044] X X1 ∧ MInv X1 ∧ (-2147483648 ≤ z ∧ z ≤ 2147483647) ∧ S4 X X1 ∧ S5 X X1 ∧ ((¬ ((0 ≤ sv ∧ sv < 4) ∧ X 70 0 sv ≠ 0 ∧ (0 ≤ x ∧ x < X 40 0 13)) ∧ z = -2) ∨ (((0 ≤ sv ∧ sv < 4) ∧ X 70 0 sv ≠ 0 ∧ (0 ≤ x ∧ x < X 40 0 13)) ∧ (rmT X1 (recR (fcM X) (lnM X) (mRid X) (mRid X) x 30) ∧ rmR X1 (recR (fcM X) (lnM X) (mRid X) (mRid X) x 30) ∧ rmV X1 (recR (fcM X) (lnM X) (mRid X) (mRid X) x 30) (recR (fcM X) (lnM X) (mRid X) (mRid X) x 30 0 0) 0) ∧ dfP (mxM X1 sv) (shM X1 sv) (fun r => X1 72 0 (30 * sv + r)) (vqM X1 sv) (fun r f => X1 73 0 (5 * (30 * sv + r) + f)) z)))) av9 s 0 0 (frA base) := ⟨_, rfl⟩
  rw [← hQ9]
  have hi9 : ∀ w ∈ wsX90, w ∈ wsX9_differs := fun w h => List.mem_cons_of_mem _ (List.mem_append_right _ h)
  have hf9 : fctx s m _ RX9 wsX9_differs D tc RX9 TX9 51 9 := ⟨hts, hi9, hown, hK.1, rfl⟩
  have lk81 := hts (.fieldLink RX9 81 (TX9 29).1 (TX9 29).2.1 (TX9 29).2.2.1) (gj_X9_differs_0 _ (gp_1 gp_h))
  have lk84 := hts (.fieldLink RX9 84 (TX9 30).1 (TX9 30).2.1 (TX9 30).2.2.1) (gj_X9_differs_0 _ (gp_1 (gp_1 gp_h)))
  have lk87 := hts (.fieldLink RX9 87 (TX9 31).1 (TX9 31).2.1 (TX9 31).2.2.1) (gj_X9_differs_0 _ (gp_1 (gp_1 (gp_1 gp_h))))
  have lk90 := hts (.fieldLink RX9 90 (TX9 32).1 (TX9 32).2.1 (TX9 32).2.2.1) (gj_X9_differs_0 _ (gp_4 gp_h))
  have lk93 := hts (.fieldLink RX9 93 (TX9 33).1 (TX9 33).2.1 (TX9 33).2.2.1) (gj_X9_differs_0 _ (gp_4 (gp_1 gp_h)))
  have lk96 := hts (.fieldLink RX9 96 (TX9 34).1 (TX9 34).2.1 (TX9 34).2.2.1) (gj_X9_differs_0 _ (gp_4 (gp_1 (gp_1 gp_h))))
  have lk145 := hts (.fieldLink RX9 145 (TX9 0).1 (TX9 0).2.1 (TX9 0).2.2.1) (gj_X9_differs_0 _ (gp_h))
  have hc40 : cnt 40 = 1 := hFx.at 40 1 (by decide)
  have hc70 : cnt 70 = 1 := hFx.at 70 1 (by decide)
  have hc71 : cnt 71 = 1 := hFx.at 71 1 (by decide)
  have hc72 : cnt 72 = 1 := hFx.at 72 1 (by decide)
  have hc73 : cnt 73 = 1 := hFx.at 73 1 (by decide)
  have hc74 : cnt 74 = 1 := hFx.at 74 1 (by decide)
  have hc75 : cnt 75 = 1 := hFx.at 75 1 (by decide)
  have hl : lv_has ls 12 [(0, .ref (ad 40 0)), (1, .int (jI sv)), (2, .int (jI x))] := hl
  have fstypes : 0 ≤ X 40 0 2 ∧ X 40 0 2 ≤ 8 := hR 40 0 2
  have fsthings : 0 ≤ X 40 0 13 ∧ X 40 0 13 ≤ 30 := hR 40 0 13
  have fsmarks : 0 ≤ X 40 0 20 ∧ X 40 0 20 ≤ 4 := hR 40 0 20
  have fsnotes : 0 ≤ X 40 0 22 ∧ X 40 0 22 ≤ 80 := hR 40 0 22
  refine lv_aload_n hx hb dX9_differs_0 rfl (lv_at hl 0 rfl) ?_
  refine lv_iconst (v := jI 0) hx hb dX9_differs_1 rfl ?_
  refine x_puti (jz := 0) hx hb hf9 ⟨tyX9_ok, nmX9⟩ hw hS (by first | exact Int.le_refl 0 | omega) (by first | exact zlt hc40 | omega) sl_40_0 rfl lk145 rfl (tyX9_ok 0 (by decide)) rfl rfl dX9_differs_2 (fun H locs hw hS => ?_)
  obtain ⟨X1, hX1⟩ : ∃ Xq, Xq = u3 X 40 0 0 0 := ⟨_, rfl⟩
  rw [← hX1] at hw
  have hRX1 : Rng X1 := by rw [hX1]; exact rng_set hR (show (-2147483648) ≤ 0 ∧ 0 ≤ 2147483647 by omega)
  have hVX1 : X1 40 0 0 = 0 := by rw [hX1]; exact u3_s _ _ _ _ _
  have hFX1 : Frm [4001, 7100, 7200, 7300, 7400, 7500, 8000, 7000, 8100, 7700, 7800, 7900, 7600, 4042, 4043, 4044] X X1 := by rw [hX1]; exact Frm.set Frm.rf (show 4001 ∈ [4001, 7100, 7200, 7300, 7400, 7500, 8000, 7000, 8100, 7700, 7800, 7900, 7600, 4042, 4043, 4044] by first | exact nlm_in rfl | decide)
  refine lv_aload_n hx hb dX9_differs_5 rfl (lv_at hl 0 rfl) ?_
  refine lv_iload_n hx hb dX9_differs_6 rfl (lv_at hl 1 rfl) ?_
  refine gos_i (run_V (As := [.int (jI sv)]) (rest := []) hx hb hml hown hts (c_X9_isSave l D tc base ad cnt X1 Y ln hRX1 hFx sv (by omega)) (cwV 1 hts gX9_differs_X9_isSave rfl rfl rfl (by first | exact hd_X9_isSave | decide +kernel) ⟨Nat.le_of_ble_eq_true rfl, Nat.le_of_ble_eq_true rfl⟩) hK hw (by first | exact Int.le_refl 0 | omega) (by first | exact zlt hc40 | omega) sl_40_0 rfl rfl hl.1 rfl (Nat.le_of_ble_eq_true rfl) dX9_differs_7 ⟨Nat.le_of_ble_eq_true rfl, Nat.le_of_ble_eq_true rfl⟩) hS (fun z2 u3 H locs p4 hw hS => ?_)
  obtain ⟨eu3, p4⟩ := p4
  subst eu3
  rcases p4 with ⟨ez2, p4⟩ | ⟨ez2, p4⟩
  · subst ez2
    refine x_if_eqF (tgt := 30) hx hb (by omega) (by decide) dX9_differs_10 (by decide) ?_
    refine lv_aload_n hx hb dX9_differs_13 rfl (lv_at hl 0 rfl) ?_
    refine x_geto hx hb hf9 hw (by first | exact Int.le_refl 0 | omega) (by first | exact zlt hc40 | omega) sl_40_29 lk81 dX9_differs_14 ?_
    refine lv_iload_n hx hb dX9_differs_17 rfl (lv_at hl 1 rfl) ?_
    refine x_iald hx hb hK.1 hw (by first | exact Int.le_refl 0 | omega) (by first | exact zlt hc70 | omega) ar_70 (len_E ar_70 (by first | exact Nat.ne_of_beq_eq_false rfl | decide)) (by omega) (by omega) (by omega) dX9_differs_18 ?_
    have e5 : ∀ p9 q9 : Int, X1 70 p9 q9 = X 70 p9 q9 := fun p9 q9 => by rw [hX1, u3_k _ _ _ _ (by first | exact Nat.ne_of_beq_eq_false rfl | decide)]
    rw [e5 0 sv]
    have f6 : 0 ≤ X 70 0 sv ∧ X 70 0 sv ≤ 30 := hR 70 0 sv
    refine x_if_eq (tgt := 30) hx hb (by omega) dX9_differs_19 (by decide) (fun c7 => ?_) (fun c7 => ?_)
    · refine lv_bipush (v := jI (-2)) hx hb dX9_differs_30 (by decide) ?_
      rw [hQ9]
      refine ret_i (mc := 0) (ms := 0) hx hb hr hlocks hw hS (by first | exact Nat.le_of_ble_eq_true rfl | omega) (by first | exact Nat.le_of_ble_eq_true rfl | omega) dX9_differs_32 ?_
      have q9 : Frm [4001] X X1 := by rw [hX1]; exact Frm.set Frm.rf (show 4001 ∈ [4001] by first | exact nlm_in rfl | decide)
      have hMq8 : MInv X1 := minv_frm hMI q9 (by decide)
      have q10 : Frm [4001] X X1 := by rw [hX1]; exact Frm.set Frm.rf (show 4001 ∈ [4001] by first | exact nlm_in rfl | decide)
      exact ⟨X1, rfl, hRX1, hFX1, hMq8, by omega, S4.frm q10 (by decide), S5.frm q10 (by decide), Or.inl ⟨(fun q => by (try delta Hid at *); omega), by omega⟩⟩
    · refine lv_aload_n hx hb dX9_differs_22 rfl (lv_at hl 0 rfl) ?_
      refine lv_iload_n hx hb dX9_differs_23 rfl (lv_at hl 2 rfl) ?_
      refine gos_i (run_V (As := [.int (jI x)]) (rest := []) hx hb hml hown hts (c_X9_isThing l D tc base ad cnt X1 Y ln hRX1 hFx x (by omega)) (cwV 1 hts gX9_differs_X9_isThing rfl rfl rfl (by first | exact hd_X9_isThing | decide +kernel) ⟨Nat.le_of_ble_eq_true rfl, Nat.le_of_ble_eq_true rfl⟩) hK hw (by first | exact Int.le_refl 0 | omega) (by first | exact zlt hc40 | omega) sl_40_0 rfl rfl hl.1 rfl (Nat.le_of_ble_eq_true rfl) dX9_differs_24 ⟨Nat.le_of_ble_eq_true rfl, Nat.le_of_ble_eq_true rfl⟩) hS (fun z11 u12 H locs p13 hw hS => ?_)
      obtain ⟨eu12, p13⟩ := p13
      subst eu12
      have e14 : X1 40 0 13 = X 40 0 13 := by rw [hX1, u3_j _ _ _ _ (by decide)]
      simp only [e14] at p13
      rcases p13 with ⟨ez11, p13⟩ | ⟨ez11, p13⟩
      · subst ez11
        refine x_if_neT (tgt := 33) hx hb (by omega) (by decide) dX9_differs_27 (by decide) ?_
        refine lv_aload_n hx hb dX9_differs_33 rfl (lv_at hl 0 rfl) ?_
        refine lv_iload_n hx hb dX9_differs_34 rfl (lv_at hl 2 rfl) ?_
        refine lv_iconst (v := jI 0) hx hb dX9_differs_35 rfl ?_
        have q16 : Frm [4001] X X1 := by rw [hX1]; exact Frm.set Frm.rf (show 4001 ∈ [4001] by first | exact nlm_in rfl | decide)
        have hMq15 : MInv X1 := minv_frm hMI q16 (by decide)
        have e17 : X1 40 0 13 = X 40 0 13 := by rw [hX1, u3_j _ _ _ _ (by decide)]
        refine gos_i (run_V (As := [.int (jI x), .int (jI 0)]) (rest := []) hx hb hml hown hts (c_X9_saves l D tc base ad cnt X1 Y ln hRX1 hFx hMq15 x 0 (by omega) (by simp only [e17]; omega) (by omega)) (cwV 2 hts gX9_differs_X9_saves rfl rfl rfl (by first | exact hd_X9_saves | decide +kernel) ⟨Nat.le_of_ble_eq_true rfl, Nat.le_of_ble_eq_true rfl⟩) hK hw (by first | exact Int.le_refl 0 | omega) (by first | exact zlt hc40 | omega) sl_40_0 rfl rfl hl.1 rfl (Nat.le_of_ble_eq_true rfl) dX9_differs_36 ⟨Nat.le_of_ble_eq_true rfl, Nat.le_of_ble_eq_true rfl⟩) hS (fun z18 u19 H locs p20 hw hS => ?_)
        obtain ⟨X21, eu19, hRX21, hG22, hMIX21, p20, h4X21, hcX21, hsvX21, h5X21, hm20X21⟩ := p20
        subst eu19
        have hFX21 : Frm [4001, 7100, 7200, 7300, 7400, 7500, 8000, 7000, 8100, 7700, 7800, 7900, 7600, 4042, 4043, 4044] X X21 := Frm.tr hFX1 (Frm.mono hG22 (by first | exact nls_of rfl | decide))
        refine lv_pop hx hb dX9_differs_39 rfl ?_
        have lp74 : ∀ (nn : Nat) (nz : Int) (r : Int) (H : Heap) (locs : List Loc) (ls : Array Slot), (30 - r) < (nn : Int) → (0 ≤ nz ∧ nz ≤ 30) → (0 ≤ r ∧ r ≤ 30) → (nz = mxM X21 sv) → (∀ r', 0 ≤ r' → r' < r → shM X21 sv r' ∧ ∀ f, 0 ≤ f → f < X21 72 0 (30 * sv + r') → vqM X21 sv r' f) → wd D tc base (ad, cnt, X21, Y, ln) H → va_S (frA base) s.heap H locs → lv_has ls 12 [(0, .ref (ad 40 0)), (1, .int (jI sv)), (2, .int (jI x)), (3, .int (jI nz)), (4, .int (jI r))] → W p l e ({ frames := 2, cells := 0, slots := 0, locals := 53 } : Room) s m av9 below meth c H locs 0 0 Q9 (F0 m 74 ls []) := by
          intro nn
          induction nn with
          | zero => intro nz r H locs ls hm hnz hr0 hnzv hall hw hS hl; exfalso; omega
          | succ nn ih74 =>
            intro nz r H locs ls hm hnz hr0 hnzv hall hw hS hl
            refine lv_iload hx hb dX9_differs_74 (lv_at hl 4 rfl) ?_
            refine lv_iload_n hx hb dX9_differs_76 rfl (lv_at hl 3 rfl) ?_
            refine x_icmp_ge (tgt := 417) hx hb (by omega) (by omega) dX9_differs_77 (by decide) (fun c23 => ?_) (fun c23 => ?_)
            · refine lv_iconst (v := jI (-1)) hx hb dX9_differs_417 rfl ?_
              rw [hQ9]
              refine ret_i (mc := 0) (ms := 0) hx hb hr hlocks hw hS (by first | exact Nat.le_of_ble_eq_true rfl | omega) (by first | exact Nat.le_of_ble_eq_true rfl | omega) dX9_differs_418 ?_
              have q24 : Frm [4001] X X1 := by rw [hX1]; exact Frm.set Frm.rf (show 4001 ∈ [4001] by first | exact nlm_in rfl | decide)
              have hrd25 := rdr_eq (L := [4001]) q24 (by decide)
              have hsx26 := hsvX21
              rw [hrd25.1, hrd25.2.1, hrd25.2.2, Frm.arr q24 48 (by decide +kernel) (by decide), Frm.arr q24 55 (by decide +kernel) (by decide)] at hsx26
              exact ⟨X21, rfl, hRX21, hFX21, hMIX21, by omega, S4.tr (S4.frm q24 (by decide)) h4X21, S5.tr (S5.frm q24 (by decide)) h5X21, Or.inr ⟨(by (try delta Hid at *); omega), (by rcases hsx26 with ⟨-, q, -⟩ | ⟨-, -, q⟩; exact absurd q (by decide); exact q), Or.inl ⟨rfl, fun r9 a b => hall r9 a (by omega)⟩⟩⟩
            · refine lv_iload hx hb dX9_differs_80 (lv_at hl 4 rfl) ?_
              refine lv_aload_n hx hb dX9_differs_82 rfl (lv_at hl 0 rfl) ?_
              refine x_geto hx hb hf9 hw (by first | exact Int.le_refl 0 | omega) (by first | exact zlt hc40 | omega) sl_40_29 lk81 dX9_differs_83 ?_
              refine lv_iload_n hx hb dX9_differs_86 rfl (lv_at hl 1 rfl) ?_
              refine x_iald hx hb hK.1 hw (by first | exact Int.le_refl 0 | omega) (by first | exact zlt hc70 | omega) ar_70 (len_E ar_70 (by first | exact Nat.ne_of_beq_eq_false rfl | decide)) (by omega) (by omega) (by omega) dX9_differs_87 ?_
              have f27 : 0 ≤ X21 70 0 sv ∧ X21 70 0 sv ≤ 30 := hRX21 70 0 sv
              refine x_icmp_ge (tgt := 102) hx hb (by omega) (by omega) dX9_differs_88 (by decide) (fun c28 => ?_) (fun c28 => ?_)
              · refine lv_bipush (v := jI 100) hx hb dX9_differs_102 (by decide) ?_
                refine lv_iload hx hb dX9_differs_104 (lv_at hl 4 rfl) ?_
                refine x_imul hx hb dX9_differs_106 ?_
                refine lv_bipush (v := jI 99) hx hb dX9_differs_107 (by decide) ?_
                refine x_iadd hx hb dX9_differs_109 ?_
                rw [hQ9]
                refine ret_i (mc := 0) (ms := 0) hx hb hr hlocks hw hS (by first | exact Nat.le_of_ble_eq_true rfl | omega) (by first | exact Nat.le_of_ble_eq_true rfl | omega) dX9_differs_110 ?_
                have q29 : Frm [4001] X X1 := by rw [hX1]; exact Frm.set Frm.rf (show 4001 ∈ [4001] by first | exact nlm_in rfl | decide)
                have hrd30 := rdr_eq (L := [4001]) q29 (by decide)
                have hsx31 := hsvX21
                rw [hrd30.1, hrd30.2.1, hrd30.2.2, Frm.arr q29 48 (by decide +kernel) (by decide), Frm.arr q29 55 (by decide +kernel) (by decide)] at hsx31
                exact ⟨X21, rfl, hRX21, hFX21, hMIX21, by omega, S4.tr (S4.frm q29 (by decide)) h4X21, S5.tr (S5.frm q29 (by decide)) h5X21, Or.inr ⟨(by (try delta Hid at *); omega), (by rcases hsx31 with ⟨-, q, -⟩ | ⟨-, -, q⟩; exact absurd q (by decide); exact q), Or.inr ⟨r, by omega, by omega, hall, Or.inl ⟨(fun q => by have q1 := q.1; have q2 := q.2.1; omega), by omega⟩⟩⟩⟩
              · refine lv_iload hx hb dX9_differs_91 (lv_at hl 4 rfl) ?_
                refine lv_aload_n hx hb dX9_differs_93 rfl (lv_at hl 0 rfl) ?_
                refine x_geto hx hb hf9 hw (by first | exact Int.le_refl 0 | omega) (by first | exact zlt hc40 | omega) sl_40_29 lk81 dX9_differs_94 ?_
                refine lv_iconst (v := jI 4) hx hb dX9_differs_97 rfl ?_
                refine x_iald hx hb hK.1 hw (by first | exact Int.le_refl 0 | omega) (by first | exact zlt hc70 | omega) ar_70 (len_E ar_70 (by first | exact Nat.ne_of_beq_eq_false rfl | decide)) (by omega) (by omega) (by omega) dX9_differs_98 ?_
                have f32 : 0 ≤ X21 70 0 4 ∧ X21 70 0 4 ≤ 30 := hRX21 70 0 4
                refine x_icmp_lt (tgt := 111) hx hb (by omega) (by omega) dX9_differs_99 (by decide) (fun c33 => ?_) (fun c33 => ?_)
                · refine lv_bipush (v := jI 30) hx hb dX9_differs_111 (by decide) ?_
                  refine lv_iload_n hx hb dX9_differs_113 rfl (lv_at hl 1 rfl) ?_
                  refine x_imul hx hb dX9_differs_114 ?_
                  refine lv_iload hx hb dX9_differs_115 (lv_at hl 4 rfl) ?_
                  refine x_iadd hx hb dX9_differs_117 ?_
                  refine lv_istore (lv' := [(5, .int (jI ((30 * sv) + r))), (0, .ref (ad 40 0)), (1, .int (jI sv)), (2, .int (jI x)), (3, .int (jI nz)), (4, .int (jI r))]) hx hb dX9_differs_118 hl (by decide) rfl (fun ls hl => ?_)
                  refine lv_bipush (v := jI 120) hx hb dX9_differs_120 (by decide) ?_
                  refine lv_iload hx hb dX9_differs_122 (lv_at hl 5 rfl) ?_
                  refine x_iadd hx hb dX9_differs_124 ?_
                  refine lv_istore (lv' := [(6, .int (jI (120 + r))), (5, .int (jI ((30 * sv) + r))), (0, .ref (ad 40 0)), (1, .int (jI sv)), (2, .int (jI x)), (3, .int (jI nz)), (4, .int (jI r))]) hx hb dX9_differs_125 hl (by decide) rfl (fun ls hl => ?_)
                  have lp171 : ∀ (nn : Nat) (sm : Int) (k : Int) (H : Heap) (locs : List Loc) (ls : Array Slot), (5 - k) < (nn : Int) → (0 ≤ sm ∧ sm ≤ 1) → (0 ≤ k ∧ k ≤ 5) → (sm = 1 → X21 71 0 (30 * sv + r) = X21 71 0 (120 + r) ∧ X21 72 0 (30 * sv + r) = X21 72 0 (120 + r) ∧ ∀ j, 0 ≤ j → j < k → X21 73 0 (5 * (30 * sv + r) + j) = X21 73 0 (5 * (120 + r) + j) ∧ X21 74 0 (5 * (30 * sv + r) + j) = X21 74 0 (5 * (120 + r) + j)) → (sm = 0 → ¬ shM X21 sv r) → wd D tc base (ad, cnt, X21, Y, ln) H → va_S (frA base) s.heap H locs → lv_has ls 12 [(0, .ref (ad 40 0)), (1, .int (jI sv)), (2, .int (jI x)), (3, .int (jI nz)), (4, .int (jI r)), (5, .int (jI ((30 * sv) + r))), (6, .int (jI (120 + r))), (7, .int (jI sm)), (8, .int (jI k))] → W p l e ({ frames := 2, cells := 0, slots := 0, locals := 53 } : Room) s m av9 below meth c H locs 0 0 Q9 (F0 m 171 ls []) := by
                    intro nn
                    induction nn with
                    | zero => intro sm k H locs ls hm hsm hk hsm1 hsm0 hw hS hl; exfalso; omega
                    | succ nn ih171 =>
                      intro sm k H locs ls hm hsm hk hsm1 hsm0 hw hS hl
                      skip
                      refine lv_iload hx hb dX9_differs_171 (lv_at hl 7 rfl) ?_
                      have lp272 : ∀ (nn : Nat) (k : Int) (H : Heap) (locs : List Loc) (ls : Array Slot), (5 - k) < (nn : Int) → (0 ≤ k ∧ k ≤ 5) → (shM X21 sv r) → (∀ f, 0 ≤ f → f < k → vqM X21 sv r f) → wd D tc base (ad, cnt, X21, Y, ln) H → va_S (frA base) s.heap H locs → lv_has ls 12 [(0, .ref (ad 40 0)), (1, .int (jI sv)), (2, .int (jI x)), (3, .int (jI nz)), (4, .int (jI r)), (5, .int (jI ((30 * sv) + r))), (6, .int (jI (120 + r))), (8, .int (jI k))] → W p l e ({ frames := 2, cells := 0, slots := 0, locals := 53 } : Room) s m av9 below meth c H locs 0 0 Q9 (F0 m 272 ls []) := by
                        intro nn
                        induction nn with
                        | zero => intro k H locs ls hm hk hsh hvk hw hS hl; exfalso; omega
                        | succ nn ih272 =>
                          intro k H locs ls hm hk hsh hvk hw hS hl
                          refine lv_iload hx hb dX9_differs_272 (lv_at hl 7 rfl) ?_
                          refine lv_aload_n hx hb dX9_differs_274 rfl (lv_at hl 0 rfl) ?_
                          refine x_geto hx hb hf9 hw (by first | exact Int.le_refl 0 | omega) (by first | exact zlt hc40 | omega) sl_40_31 lk87 dX9_differs_275 ?_
                          refine lv_iload hx hb dX9_differs_278 (lv_at hl 5 rfl) ?_
                          refine x_iald hx hb hK.1 hw (by first | exact Int.le_refl 0 | omega) (by first | exact zlt hc72 | omega) ar_72 (len_E ar_72 (by first | exact Nat.ne_of_beq_eq_false rfl | decide)) (by omega) (by omega) (by omega) dX9_differs_280 ?_
                          have f34 : 0 ≤ X21 72 0 ((30 * sv) + r) ∧ X21 72 0 ((30 * sv) + r) ≤ 5 := hRX21 72 0 ((30 * sv) + r)
                          refine x_icmp_ge (tgt := 411) hx hb (by omega) (by omega) dX9_differs_281 (by decide) (fun c35 => ?_) (fun c35 => ?_)
                          · refine lv_iinc (v := jI (r + 1)) (lv' := [(4, .int (jI (r + 1))), (0, .ref (ad 40 0)), (1, .int (jI sv)), (2, .int (jI x)), (3, .int (jI nz)), (5, .int (jI ((30 * sv) + r))), (6, .int (jI (120 + r))), (8, .int (jI k))]) hx hb dX9_differs_411 hl (k := 4) rfl (jI_add _ _) (by decide) rfl (fun ls hl => ?_)
                            refine lv_goto (tgt := 74) hx hb dX9_differs_414 (by decide) ?_
                            exact ih74 nz (r + 1) _ _ _ (by omega) (by omega) (by omega) (hnzv) (fun r' a b => if hr9 : r' = r then (by rw [hr9]; exact ⟨hsh, fun f f0 f1 => hvk f f0 (by omega)⟩) else hall r' a (by omega)) hw hS (lv_sub hl [1, 2, 3, 4, 0] rfl)
                          · refine lv_aload_n hx hb dX9_differs_284 rfl (lv_at hl 0 rfl) ?_
                            refine x_geto hx hb hf9 hw (by first | exact Int.le_refl 0 | omega) (by first | exact zlt hc40 | omega) sl_40_34 lk96 dX9_differs_285 ?_
                            refine lv_iconst (v := jI 5) hx hb dX9_differs_288 rfl ?_
                            refine lv_iload hx hb dX9_differs_289 (lv_at hl 5 rfl) ?_
                            refine x_imul hx hb dX9_differs_291 ?_
                            refine lv_iload hx hb dX9_differs_292 (lv_at hl 7 rfl) ?_
                            refine x_iadd hx hb dX9_differs_294 ?_
                            obtain ⟨hv1, hv2, hv3⟩ := (hMIX21.2.2.1 sv r (by omega) (by omega) (by omega) (by omega)).2 k (by omega) (by omega)
                            refine x_lald hx hb hK.1 hw (by first | exact Int.le_refl 0 | omega) (by first | exact zlt hc75 | omega) ar_75 (len_E ar_75 (by first | exact Nat.ne_of_beq_eq_false rfl | decide)) (by omega) (by omega) (by omega) dX9_differs_295 ?_
                            have f36 : (-9223372036854775808) ≤ X21 75 0 ((5 * ((30 * sv) + r)) + k) ∧ X21 75 0 ((5 * ((30 * sv) + r)) + k) ≤ 9223372036854775807 := hRX21 75 0 ((5 * ((30 * sv) + r)) + k)
                            refine lv_lstore (lv' := [(9, .long (jL (X21 75 0 ((5 * ((30 * sv) + r)) + k)))), (0, .ref (ad 40 0)), (1, .int (jI sv)), (2, .int (jI x)), (3, .int (jI nz)), (4, .int (jI r)), (5, .int (jI ((30 * sv) + r))), (6, .int (jI (120 + r))), (8, .int (jI k))]) hx hb dX9_differs_296 hl (by decide) rfl (fun ls hl => ?_)
                            refine lv_lload hx hb dX9_differs_298 (lv_at hl 0 rfl) ?_
                            refine lv_aload_n hx hb dX9_differs_300 rfl (lv_at hl 1 rfl) ?_
                            refine x_geto hx hb hf9 hw (by first | exact Int.le_refl 0 | omega) (by first | exact zlt hc40 | omega) sl_40_34 lk96 dX9_differs_301 ?_
                            refine lv_iconst (v := jI 5) hx hb dX9_differs_304 rfl ?_
                            refine lv_iload hx hb dX9_differs_305 (lv_at hl 7 rfl) ?_
                            refine x_imul hx hb dX9_differs_307 ?_
                            refine lv_iload hx hb dX9_differs_308 (lv_at hl 8 rfl) ?_
                            refine x_iadd hx hb dX9_differs_310 ?_
                            refine x_lald hx hb hK.1 hw (by first | exact Int.le_refl 0 | omega) (by first | exact zlt hc75 | omega) ar_75 (len_E ar_75 (by first | exact Nat.ne_of_beq_eq_false rfl | decide)) (by omega) (by omega) (by omega) dX9_differs_311 ?_
                            have f37 : (-9223372036854775808) ≤ X21 75 0 ((5 * (120 + r)) + k) ∧ X21 75 0 ((5 * (120 + r)) + k) ≤ 9223372036854775807 := hRX21 75 0 ((5 * (120 + r)) + k)
                            refine x_lcmp hx hb (by omega) (by omega) dX9_differs_312 ?_
                            obtain ⟨z38, ez38⟩ : ∃ y : Int, y = cmpZ (X21 75 0 ((5 * ((30 * sv) + r)) + k)) (X21 75 0 ((5 * (120 + r)) + k)) := ⟨_, rfl⟩
                            rw [← ez38]
                            have gz38 : (z38 < 0 ↔ ((X21 75 0 ((5 * ((30 * sv) + r)) + k)) : Int) < (X21 75 0 ((5 * (120 + r)) + k))) ∧ (z38 = 0 ↔ ((X21 75 0 ((5 * ((30 * sv) + r)) + k)) : Int) = (X21 75 0 ((5 * (120 + r)) + k))) ∧ -1 ≤ z38 ∧ z38 ≤ 1 := by rw [ez38]; exact ⟨cmpZ_lt, cmpZ_eq, (cmpZ_r _ _).1, (cmpZ_r _ _).2⟩
                            clear ez38
                            refine x_if_eq (tgt := 320) hx hb (by omega) dX9_differs_313 (by decide) (fun c39 => ?_) (fun c39 => ?_)
                            · replace c39 := cz_eqT gz38 c39
                              clear gz38
                              refine lv_iconst (v := jI 0) hx hb dX9_differs_320 rfl ?_
                              refine lv_istore (lv' := [(11, .int (jI 0)), (9, .long (jL (X21 75 0 ((5 * ((30 * sv) + r)) + k)))), (0, .ref (ad 40 0)), (1, .int (jI sv)), (2, .int (jI x)), (3, .int (jI nz)), (4, .int (jI r)), (5, .int (jI ((30 * sv) + r))), (6, .int (jI (120 + r))), (8, .int (jI k))]) hx hb dX9_differs_321 hl (by decide) rfl (fun ls hl => ?_)
                              refine lv_iload hx hb dX9_differs_323 (lv_at hl 0 rfl) ?_
                              refine x_if_neF (tgt := 374) hx hb (by omega) (by decide) dX9_differs_325 (by decide) ?_
                              refine lv_aload_n hx hb dX9_differs_328 rfl (lv_at hl 2 rfl) ?_
                              refine x_geto hx hb hf9 hw (by first | exact Int.le_refl 0 | omega) (by first | exact zlt hc40 | omega) sl_40_33 lk93 dX9_differs_329 ?_
                              refine lv_iconst (v := jI 5) hx hb dX9_differs_332 rfl ?_
                              refine lv_iload hx hb dX9_differs_333 (lv_at hl 7 rfl) ?_
                              refine x_imul hx hb dX9_differs_335 ?_
                              refine lv_iload hx hb dX9_differs_336 (lv_at hl 9 rfl) ?_
                              refine x_iadd hx hb dX9_differs_338 ?_
                              refine x_iald hx hb hK.1 hw (by first | exact Int.le_refl 0 | omega) (by first | exact zlt hc74 | omega) ar_74 (len_E ar_74 (by first | exact Nat.ne_of_beq_eq_false rfl | decide)) (by omega) (by omega) (by omega) dX9_differs_339 ?_
                              have f40 : 0 ≤ X21 74 0 ((5 * ((30 * sv) + r)) + k) ∧ X21 74 0 ((5 * ((30 * sv) + r)) + k) ≤ 5 := hRX21 74 0 ((5 * ((30 * sv) + r)) + k)
                              refine lv_iconst (v := jI 2) hx hb dX9_differs_340 rfl ?_
                              refine x_icmp_le (tgt := 378) hx hb (by omega) (by omega) dX9_differs_341 (by decide) (fun c41 => ?_) (fun c41 => ?_)
                              · refine lv_iconst (v := jI 0) hx hb dX9_differs_378 rfl ?_
                                refine lv_istore (lv' := [(11, .int (jI 0)), (9, .long (jL (X21 75 0 ((5 * ((30 * sv) + r)) + k)))), (0, .ref (ad 40 0)), (1, .int (jI sv)), (2, .int (jI x)), (3, .int (jI nz)), (4, .int (jI r)), (5, .int (jI ((30 * sv) + r))), (6, .int (jI (120 + r))), (8, .int (jI k))]) hx hb dX9_differs_379 hl (by decide) rfl (fun ls hl => ?_)
                                refine lv_iload hx hb dX9_differs_381 (lv_at hl 0 rfl) ?_
                                refine x_if_eqT (tgt := 405) hx hb (by omega) (by decide) dX9_differs_383 (by decide) ?_
                                refine lv_iinc (v := jI (k + 1)) (lv' := [(8, .int (jI (k + 1))), (11, .int (jI 0)), (9, .long (jL (X21 75 0 ((5 * ((30 * sv) + r)) + k)))), (0, .ref (ad 40 0)), (1, .int (jI sv)), (2, .int (jI x)), (3, .int (jI nz)), (4, .int (jI r)), (5, .int (jI ((30 * sv) + r))), (6, .int (jI (120 + r)))]) hx hb dX9_differs_405 hl (k := 9) rfl (jI_add _ _) (by decide) rfl (fun ls hl => ?_)
                                refine lv_goto (tgt := 272) hx hb dX9_differs_408 (by decide) ?_
                                exact ih272 (k + 1) _ _ _ (by omega) (by omega) (hsh) (fun f a b => if hf9 : f = k then (by rw [hf9]; exact (by (try delta Hid at *); first | exact ⟨by omega, fun a9 b9 => (by exfalso; omega)⟩ | exact ⟨by omega, fun a9 b9 => (by rcases hrdf with ⟨e9, h9⟩ | ⟨e9, h9⟩; exact h9; exfalso; omega)⟩)) else hvk f a (by omega)) hw hS (lv_sub hl [3, 4, 5, 6, 7, 8, 9, 0] rfl)
                              · refine lv_lload hx hb dX9_differs_344 (lv_at hl 1 rfl) ?_
                                refine lv_lconst (v := jL 0) hx hb dX9_differs_346 (by decide) ?_
                                refine x_lcmp hx hb (by omega) (by omega) dX9_differs_347 ?_
                                obtain ⟨z42, ez42⟩ : ∃ y : Int, y = cmpZ (X21 75 0 ((5 * ((30 * sv) + r)) + k)) 0 := ⟨_, rfl⟩
                                rw [← ez42]
                                have gz42 : (z42 < 0 ↔ ((X21 75 0 ((5 * ((30 * sv) + r)) + k)) : Int) < 0) ∧ (z42 = 0 ↔ ((X21 75 0 ((5 * ((30 * sv) + r)) + k)) : Int) = 0) ∧ -1 ≤ z42 ∧ z42 ≤ 1 := by rw [ez42]; exact ⟨cmpZ_lt, cmpZ_eq, (cmpZ_r _ _).1, (cmpZ_r _ _).2⟩
                                clear ez42
                                refine x_if_lt (tgt := 378) hx hb (by omega) dX9_differs_348 (by decide) (fun c43 => ?_) (fun c43 => ?_)
                                · replace c43 := cz_ltT gz42 c43
                                  clear gz42
                                  refine lv_iconst (v := jI 0) hx hb dX9_differs_378 rfl ?_
                                  refine lv_istore (lv' := [(11, .int (jI 0)), (9, .long (jL (X21 75 0 ((5 * ((30 * sv) + r)) + k)))), (0, .ref (ad 40 0)), (1, .int (jI sv)), (2, .int (jI x)), (3, .int (jI nz)), (4, .int (jI r)), (5, .int (jI ((30 * sv) + r))), (6, .int (jI (120 + r))), (8, .int (jI k))]) hx hb dX9_differs_379 hl (by decide) rfl (fun ls hl => ?_)
                                  refine lv_iload hx hb dX9_differs_381 (lv_at hl 0 rfl) ?_
                                  refine x_if_eqT (tgt := 405) hx hb (by omega) (by decide) dX9_differs_383 (by decide) ?_
                                  refine lv_iinc (v := jI (k + 1)) (lv' := [(8, .int (jI (k + 1))), (11, .int (jI 0)), (9, .long (jL (X21 75 0 ((5 * ((30 * sv) + r)) + k)))), (0, .ref (ad 40 0)), (1, .int (jI sv)), (2, .int (jI x)), (3, .int (jI nz)), (4, .int (jI r)), (5, .int (jI ((30 * sv) + r))), (6, .int (jI (120 + r)))]) hx hb dX9_differs_405 hl (k := 9) rfl (jI_add _ _) (by decide) rfl (fun ls hl => ?_)
                                  refine lv_goto (tgt := 272) hx hb dX9_differs_408 (by decide) ?_
                                  exact ih272 (k + 1) _ _ _ (by omega) (by omega) (hsh) (fun f a b => if hf9 : f = k then (by rw [hf9]; exact (by (try delta Hid at *); first | exact ⟨by omega, fun a9 b9 => (by exfalso; omega)⟩ | exact ⟨by omega, fun a9 b9 => (by rcases hrdf with ⟨e9, h9⟩ | ⟨e9, h9⟩; exact h9; exfalso; omega)⟩)) else hvk f a (by omega)) hw hS (lv_sub hl [3, 4, 5, 6, 7, 8, 9, 0] rfl)
                                · replace c43 := cz_ltF gz42 c43
                                  clear gz42
                                  refine lv_aload_n hx hb dX9_differs_351 rfl (lv_at hl 2 rfl) ?_
                                  refine lv_sipush (v := jI 150) hx hb dX9_differs_352 (by decide) ?_
                                  refine lv_iload_n hx hb dX9_differs_355 rfl (lv_at hl 3 rfl) ?_
                                  refine x_imul hx hb dX9_differs_356 ?_
                                  refine lv_lload hx hb dX9_differs_357 (lv_at hl 1 rfl) ?_
                                  refine x_l2i hx hb dX9_differs_359 ?_
                                  refine x_iadd hx hb dX9_differs_360 ?_
                                  refine lv_sipush (v := jI 600) hx hb dX9_differs_361 (by decide) ?_
                                  refine lv_lload hx hb dX9_differs_364 (lv_at hl 1 rfl) ?_
                                  refine x_l2i hx hb dX9_differs_366 ?_
                                  refine x_iadd hx hb dX9_differs_367 ?_
                                  refine gos_i (run_V (As := [.int (jI ((150 * sv) + (X21 75 0 ((5 * ((30 * sv) + r)) + k)))), .int (jI (600 + (X21 75 0 ((5 * ((30 * sv) + r)) + k))))]) (rest := []) hx hb hml hown hts (c_X9_rowsDiffer l D tc base ad cnt X21 Y ln hRX21 hFx hMIX21 ((150 * sv) + (X21 75 0 ((5 * ((30 * sv) + r)) + k))) (600 + (X21 75 0 ((5 * ((30 * sv) + r)) + k))) (by omega) (by omega)) (cwV 2 hts gX9_differs_X9_rowsDiffer rfl rfl rfl (by first | exact hd_X9_rowsDiffer | decide +kernel) ⟨Nat.le_of_ble_eq_true rfl, Nat.le_of_ble_eq_true rfl⟩) hK hw (by first | exact Int.le_refl 0 | omega) (by first | exact zlt hc40 | omega) sl_40_0 rfl rfl hl.1 rfl (Nat.le_of_ble_eq_true rfl) dX9_differs_368 ⟨Nat.le_of_ble_eq_true rfl, Nat.le_of_ble_eq_true rfl⟩) hS (fun z44 u45 H locs p46 hw hS => ?_)
                                  obtain ⟨eu45, p46, hrdf⟩ := p46
                                  subst eu45
                                  refine x_if_eq (tgt := 378) hx hb (by omega) dX9_differs_371 (by decide) (fun c47 => ?_) (fun c47 => ?_)
                                  · refine lv_iconst (v := jI 0) hx hb dX9_differs_378 rfl ?_
                                    refine lv_istore (lv' := [(11, .int (jI 0)), (9, .long (jL (X21 75 0 ((5 * ((30 * sv) + r)) + k)))), (0, .ref (ad 40 0)), (1, .int (jI sv)), (2, .int (jI x)), (3, .int (jI nz)), (4, .int (jI r)), (5, .int (jI ((30 * sv) + r))), (6, .int (jI (120 + r))), (8, .int (jI k))]) hx hb dX9_differs_379 hl (by decide) rfl (fun ls hl => ?_)
                                    refine lv_iload hx hb dX9_differs_381 (lv_at hl 0 rfl) ?_
                                    refine x_if_eqT (tgt := 405) hx hb (by omega) (by decide) dX9_differs_383 (by decide) ?_
                                    refine lv_iinc (v := jI (k + 1)) (lv' := [(8, .int (jI (k + 1))), (11, .int (jI 0)), (9, .long (jL (X21 75 0 ((5 * ((30 * sv) + r)) + k)))), (0, .ref (ad 40 0)), (1, .int (jI sv)), (2, .int (jI x)), (3, .int (jI nz)), (4, .int (jI r)), (5, .int (jI ((30 * sv) + r))), (6, .int (jI (120 + r)))]) hx hb dX9_differs_405 hl (k := 9) rfl (jI_add _ _) (by decide) rfl (fun ls hl => ?_)
                                    refine lv_goto (tgt := 272) hx hb dX9_differs_408 (by decide) ?_
                                    exact ih272 (k + 1) _ _ _ (by omega) (by omega) (hsh) (fun f a b => if hf9 : f = k then (by rw [hf9]; exact (by (try delta Hid at *); first | exact ⟨by omega, fun a9 b9 => (by exfalso; omega)⟩ | exact ⟨by omega, fun a9 b9 => (by rcases hrdf with ⟨e9, h9⟩ | ⟨e9, h9⟩; exact h9; exfalso; omega)⟩)) else hvk f a (by omega)) hw hS (lv_sub hl [3, 4, 5, 6, 7, 8, 9, 0] rfl)
                                  · refine lv_iconst (v := jI 1) hx hb dX9_differs_374 rfl ?_
                                    refine lv_goto (tgt := 379) hx hb dX9_differs_375 (by decide) ?_
                                    refine lv_istore (lv' := [(11, .int (jI 1)), (9, .long (jL (X21 75 0 ((5 * ((30 * sv) + r)) + k)))), (0, .ref (ad 40 0)), (1, .int (jI sv)), (2, .int (jI x)), (3, .int (jI nz)), (4, .int (jI r)), (5, .int (jI ((30 * sv) + r))), (6, .int (jI (120 + r))), (8, .int (jI k))]) hx hb dX9_differs_379 hl (by decide) rfl (fun ls hl => ?_)
                                    refine lv_iload hx hb dX9_differs_381 (lv_at hl 0 rfl) ?_
                                    refine x_if_eqF (tgt := 405) hx hb (by omega) (by decide) dX9_differs_383 (by decide) ?_
                                    refine lv_bipush (v := jI 100) hx hb dX9_differs_386 (by decide) ?_
                                    refine lv_iload hx hb dX9_differs_388 (lv_at hl 6 rfl) ?_
                                    refine x_imul hx hb dX9_differs_390 ?_
                                    refine lv_aload_n hx hb dX9_differs_391 rfl (lv_at hl 2 rfl) ?_
                                    refine x_geto hx hb hf9 hw (by first | exact Int.le_refl 0 | omega) (by first | exact zlt hc40 | omega) sl_40_32 lk90 dX9_differs_392 ?_
                                    refine lv_iconst (v := jI 5) hx hb dX9_differs_395 rfl ?_
                                    refine lv_iload hx hb dX9_differs_396 (lv_at hl 7 rfl) ?_
                                    refine x_imul hx hb dX9_differs_398 ?_
                                    refine lv_iload hx hb dX9_differs_399 (lv_at hl 9 rfl) ?_
                                    refine x_iadd hx hb dX9_differs_401 ?_
                                    refine x_iald hx hb hK.1 hw (by first | exact Int.le_refl 0 | omega) (by first | exact zlt hc73 | omega) ar_73 (len_E ar_73 (by first | exact Nat.ne_of_beq_eq_false rfl | decide)) (by omega) (by omega) (by omega) dX9_differs_402 ?_
                                    have f48 : 0 ≤ X21 73 0 ((5 * ((30 * sv) + r)) + k) ∧ X21 73 0 ((5 * ((30 * sv) + r)) + k) ≤ 19 := hRX21 73 0 ((5 * ((30 * sv) + r)) + k)
                                    refine x_iadd hx hb dX9_differs_403 ?_
                                    rw [hQ9]
                                    refine ret_i (mc := 0) (ms := 0) hx hb hr hlocks hw hS (by first | exact Nat.le_of_ble_eq_true rfl | omega) (by first | exact Nat.le_of_ble_eq_true rfl | omega) dX9_differs_404 ?_
                                    have q49 : Frm [4001] X X1 := by rw [hX1]; exact Frm.set Frm.rf (show 4001 ∈ [4001] by first | exact nlm_in rfl | decide)
                                    have hrd50 := rdr_eq (L := [4001]) q49 (by decide)
                                    have hsx51 := hsvX21
                                    rw [hrd50.1, hrd50.2.1, hrd50.2.2, Frm.arr q49 48 (by decide +kernel) (by decide), Frm.arr q49 55 (by decide +kernel) (by decide)] at hsx51
                                    refine ⟨X21, rfl, hRX21, hFX21, hMIX21, ?g9p547, ?g9p548, ?g9p549, ?g9p550⟩
                                    case g9p547 => omega
                                    case g9p548 => exact S4.tr (S4.frm q49 (by decide)) h4X21
                                    case g9p549 => exact S5.tr (S5.frm q49 (by decide)) h5X21
                                    case g9p550 => exact Or.inr ⟨(by (try delta Hid at *); omega), (by rcases hsx51 with ⟨-, q, -⟩ | ⟨-, -, q⟩; exact absurd q (by decide); exact q), Or.inr ⟨r, by omega, by omega, hall, Or.inr ⟨hsh, k, by omega, (show k < X21 72 0 (30 * sv + r) by omega), hvk, (fun q => by (try delta Hid at *); first | (have q1 := q.1; omega) | exact absurd (q.2 (by omega) (by omega)) (by assumption) | (rcases hrdf with ⟨e9, h9⟩ | ⟨e9, h9⟩; omega; exact h9 (q.2 (by omega) (by omega)))), (show _ = 100 * r + X21 73 0 (5 * (30 * sv + r) + k) by omega)⟩⟩⟩
                            · replace c39 := cz_eqF gz38 c39
                              clear gz38
                              refine lv_iconst (v := jI 1) hx hb dX9_differs_316 rfl ?_
                              refine lv_goto (tgt := 321) hx hb dX9_differs_317 (by decide) ?_
                              refine lv_istore (lv' := [(11, .int (jI 1)), (9, .long (jL (X21 75 0 ((5 * ((30 * sv) + r)) + k)))), (0, .ref (ad 40 0)), (1, .int (jI sv)), (2, .int (jI x)), (3, .int (jI nz)), (4, .int (jI r)), (5, .int (jI ((30 * sv) + r))), (6, .int (jI (120 + r))), (8, .int (jI k))]) hx hb dX9_differs_321 hl (by decide) rfl (fun ls hl => ?_)
                              refine lv_iload hx hb dX9_differs_323 (lv_at hl 0 rfl) ?_
                              refine x_if_neT (tgt := 374) hx hb (by omega) (by decide) dX9_differs_325 (by decide) ?_
                              refine lv_iconst (v := jI 1) hx hb dX9_differs_374 rfl ?_
                              refine lv_goto (tgt := 379) hx hb dX9_differs_375 (by decide) ?_
                              refine lv_istore (lv' := [(11, .int (jI 1)), (9, .long (jL (X21 75 0 ((5 * ((30 * sv) + r)) + k)))), (0, .ref (ad 40 0)), (1, .int (jI sv)), (2, .int (jI x)), (3, .int (jI nz)), (4, .int (jI r)), (5, .int (jI ((30 * sv) + r))), (6, .int (jI (120 + r))), (8, .int (jI k))]) hx hb dX9_differs_379 hl (by decide) rfl (fun ls hl => ?_)
                              refine lv_iload hx hb dX9_differs_381 (lv_at hl 0 rfl) ?_
                              refine x_if_eqF (tgt := 405) hx hb (by omega) (by decide) dX9_differs_383 (by decide) ?_
                              refine lv_bipush (v := jI 100) hx hb dX9_differs_386 (by decide) ?_
                              refine lv_iload hx hb dX9_differs_388 (lv_at hl 6 rfl) ?_
                              refine x_imul hx hb dX9_differs_390 ?_
                              refine lv_aload_n hx hb dX9_differs_391 rfl (lv_at hl 2 rfl) ?_
                              refine x_geto hx hb hf9 hw (by first | exact Int.le_refl 0 | omega) (by first | exact zlt hc40 | omega) sl_40_32 lk90 dX9_differs_392 ?_
                              refine lv_iconst (v := jI 5) hx hb dX9_differs_395 rfl ?_
                              refine lv_iload hx hb dX9_differs_396 (lv_at hl 7 rfl) ?_
                              refine x_imul hx hb dX9_differs_398 ?_
                              refine lv_iload hx hb dX9_differs_399 (lv_at hl 9 rfl) ?_
                              refine x_iadd hx hb dX9_differs_401 ?_
                              refine x_iald hx hb hK.1 hw (by first | exact Int.le_refl 0 | omega) (by first | exact zlt hc73 | omega) ar_73 (len_E ar_73 (by first | exact Nat.ne_of_beq_eq_false rfl | decide)) (by omega) (by omega) (by omega) dX9_differs_402 ?_
                              have f52 : 0 ≤ X21 73 0 ((5 * ((30 * sv) + r)) + k) ∧ X21 73 0 ((5 * ((30 * sv) + r)) + k) ≤ 19 := hRX21 73 0 ((5 * ((30 * sv) + r)) + k)
                              refine x_iadd hx hb dX9_differs_403 ?_
                              rw [hQ9]
                              refine ret_i (mc := 0) (ms := 0) hx hb hr hlocks hw hS (by first | exact Nat.le_of_ble_eq_true rfl | omega) (by first | exact Nat.le_of_ble_eq_true rfl | omega) dX9_differs_404 ?_
                              have q53 : Frm [4001] X X1 := by rw [hX1]; exact Frm.set Frm.rf (show 4001 ∈ [4001] by first | exact nlm_in rfl | decide)
                              have hrd54 := rdr_eq (L := [4001]) q53 (by decide)
                              have hsx55 := hsvX21
                              rw [hrd54.1, hrd54.2.1, hrd54.2.2, Frm.arr q53 48 (by decide +kernel) (by decide), Frm.arr q53 55 (by decide +kernel) (by decide)] at hsx55
                              refine ⟨X21, rfl, hRX21, hFX21, hMIX21, ?g9p551, ?g9p552, ?g9p553, ?g9p554⟩
                              case g9p551 => omega
                              case g9p552 => exact S4.tr (S4.frm q53 (by decide)) h4X21
                              case g9p553 => exact S5.tr (S5.frm q53 (by decide)) h5X21
                              case g9p554 => exact Or.inr ⟨(by (try delta Hid at *); omega), (by rcases hsx55 with ⟨-, q, -⟩ | ⟨-, -, q⟩; exact absurd q (by decide); exact q), Or.inr ⟨r, by omega, by omega, hall, Or.inr ⟨hsh, k, by omega, (show k < X21 72 0 (30 * sv + r) by omega), hvk, (fun q => by (try delta Hid at *); first | (have q1 := q.1; omega) | exact absurd (q.2 (by omega) (by omega)) (by assumption) | (rcases hrdf with ⟨e9, h9⟩ | ⟨e9, h9⟩; omega; exact h9 (q.2 (by omega) (by omega)))), (show _ = 100 * r + X21 73 0 (5 * (30 * sv + r) + k) by omega)⟩⟩⟩
                      refine x_if_eq (tgt := 255) hx hb (by omega) dX9_differs_173 (by decide) (fun c56 => ?_) (fun c56 => ?_)
                      · refine lv_iload hx hb dX9_differs_255 (lv_at hl 7 rfl) ?_
                        refine x_if_ne (tgt := 269) hx hb (by omega) dX9_differs_257 (by decide) (fun c57 => ?_) (fun c57 => ?_)
                        · refine lv_iconst (v := jI 0) hx hb dX9_differs_269 rfl ?_
                          refine lv_istore (lv' := [(8, .int (jI 0)), (0, .ref (ad 40 0)), (1, .int (jI sv)), (2, .int (jI x)), (3, .int (jI nz)), (4, .int (jI r)), (5, .int (jI ((30 * sv) + r))), (6, .int (jI (120 + r))), (7, .int (jI sm))]) hx hb dX9_differs_270 hl (by decide) rfl (fun ls hl => ?_)
                          exact lp272 (5 - 0 : Int).toNat.succ 0 _ _ _ (by omega) (by omega) ((by obtain ⟨q1, q2, q3⟩ := hsm1 (by omega); exact ⟨by omega, by omega, q1, q2, fun j a b => q3 j a (by omega)⟩)) (fun f a b => by omega) hw hS (lv_sub hl [1, 2, 3, 4, 5, 6, 7, 0] rfl)
                        · refine lv_bipush (v := jI 100) hx hb dX9_differs_260 (by decide) ?_
                          refine lv_iload hx hb dX9_differs_262 (lv_at hl 4 rfl) ?_
                          refine x_imul hx hb dX9_differs_264 ?_
                          refine lv_bipush (v := jI 99) hx hb dX9_differs_265 (by decide) ?_
                          refine x_iadd hx hb dX9_differs_267 ?_
                          rw [hQ9]
                          refine ret_i (mc := 0) (ms := 0) hx hb hr hlocks hw hS (by first | exact Nat.le_of_ble_eq_true rfl | omega) (by first | exact Nat.le_of_ble_eq_true rfl | omega) dX9_differs_268 ?_
                          have q58 : Frm [4001] X X1 := by rw [hX1]; exact Frm.set Frm.rf (show 4001 ∈ [4001] by first | exact nlm_in rfl | decide)
                          have hrd59 := rdr_eq (L := [4001]) q58 (by decide)
                          have hsx60 := hsvX21
                          rw [hrd59.1, hrd59.2.1, hrd59.2.2, Frm.arr q58 48 (by decide +kernel) (by decide), Frm.arr q58 55 (by decide +kernel) (by decide)] at hsx60
                          exact ⟨X21, rfl, hRX21, hFX21, hMIX21, by omega, S4.tr (S4.frm q58 (by decide)) h4X21, S5.tr (S5.frm q58 (by decide)) h5X21, Or.inr ⟨(by (try delta Hid at *); omega), (by rcases hsx60 with ⟨-, q, -⟩ | ⟨-, -, q⟩; exact absurd q (by decide); exact q), Or.inr ⟨r, by omega, by omega, hall, Or.inl ⟨hsm0 (by omega), by omega⟩⟩⟩⟩
                      · refine lv_iload hx hb dX9_differs_176 (lv_at hl 8 rfl) ?_
                        refine lv_aload_n hx hb dX9_differs_178 rfl (lv_at hl 0 rfl) ?_
                        refine x_geto hx hb hf9 hw (by first | exact Int.le_refl 0 | omega) (by first | exact zlt hc40 | omega) sl_40_31 lk87 dX9_differs_179 ?_
                        refine lv_iload hx hb dX9_differs_182 (lv_at hl 5 rfl) ?_
                        refine x_iald hx hb hK.1 hw (by first | exact Int.le_refl 0 | omega) (by first | exact zlt hc72 | omega) ar_72 (len_E ar_72 (by first | exact Nat.ne_of_beq_eq_false rfl | decide)) (by omega) (by omega) (by omega) dX9_differs_184 ?_
                        have f61 : 0 ≤ X21 72 0 ((30 * sv) + r) ∧ X21 72 0 ((30 * sv) + r) ≤ 5 := hRX21 72 0 ((30 * sv) + r)
                        refine x_icmp_ge (tgt := 255) hx hb (by omega) (by omega) dX9_differs_185 (by decide) (fun c62 => ?_) (fun c62 => ?_)
                        · refine lv_iload hx hb dX9_differs_255 (lv_at hl 7 rfl) ?_
                          refine x_if_ne (tgt := 269) hx hb (by omega) dX9_differs_257 (by decide) (fun c63 => ?_) (fun c63 => ?_)
                          · refine lv_iconst (v := jI 0) hx hb dX9_differs_269 rfl ?_
                            refine lv_istore (lv' := [(8, .int (jI 0)), (0, .ref (ad 40 0)), (1, .int (jI sv)), (2, .int (jI x)), (3, .int (jI nz)), (4, .int (jI r)), (5, .int (jI ((30 * sv) + r))), (6, .int (jI (120 + r))), (7, .int (jI sm))]) hx hb dX9_differs_270 hl (by decide) rfl (fun ls hl => ?_)
                            exact lp272 (5 - 0 : Int).toNat.succ 0 _ _ _ (by omega) (by omega) ((by obtain ⟨q1, q2, q3⟩ := hsm1 (by omega); exact ⟨by omega, by omega, q1, q2, fun j a b => q3 j a (by omega)⟩)) (fun f a b => by omega) hw hS (lv_sub hl [1, 2, 3, 4, 5, 6, 7, 0] rfl)
                          · refine lv_bipush (v := jI 100) hx hb dX9_differs_260 (by decide) ?_
                            refine lv_iload hx hb dX9_differs_262 (lv_at hl 4 rfl) ?_
                            refine x_imul hx hb dX9_differs_264 ?_
                            refine lv_bipush (v := jI 99) hx hb dX9_differs_265 (by decide) ?_
                            refine x_iadd hx hb dX9_differs_267 ?_
                            rw [hQ9]
                            refine ret_i (mc := 0) (ms := 0) hx hb hr hlocks hw hS (by first | exact Nat.le_of_ble_eq_true rfl | omega) (by first | exact Nat.le_of_ble_eq_true rfl | omega) dX9_differs_268 ?_
                            have q64 : Frm [4001] X X1 := by rw [hX1]; exact Frm.set Frm.rf (show 4001 ∈ [4001] by first | exact nlm_in rfl | decide)
                            have hrd65 := rdr_eq (L := [4001]) q64 (by decide)
                            have hsx66 := hsvX21
                            rw [hrd65.1, hrd65.2.1, hrd65.2.2, Frm.arr q64 48 (by decide +kernel) (by decide), Frm.arr q64 55 (by decide +kernel) (by decide)] at hsx66
                            exact ⟨X21, rfl, hRX21, hFX21, hMIX21, by omega, S4.tr (S4.frm q64 (by decide)) h4X21, S5.tr (S5.frm q64 (by decide)) h5X21, Or.inr ⟨(by (try delta Hid at *); omega), (by rcases hsx66 with ⟨-, q, -⟩ | ⟨-, -, q⟩; exact absurd q (by decide); exact q), Or.inr ⟨r, by omega, by omega, hall, Or.inl ⟨hsm0 (by omega), by omega⟩⟩⟩⟩
                        · refine lv_aload_n hx hb dX9_differs_188 rfl (lv_at hl 0 rfl) ?_
                          refine x_geto hx hb hf9 hw (by first | exact Int.le_refl 0 | omega) (by first | exact zlt hc40 | omega) sl_40_32 lk90 dX9_differs_189 ?_
                          refine lv_iconst (v := jI 5) hx hb dX9_differs_192 rfl ?_
                          refine lv_iload hx hb dX9_differs_193 (lv_at hl 5 rfl) ?_
                          refine x_imul hx hb dX9_differs_195 ?_
                          refine lv_iload hx hb dX9_differs_196 (lv_at hl 8 rfl) ?_
                          refine x_iadd hx hb dX9_differs_198 ?_
                          refine x_iald hx hb hK.1 hw (by first | exact Int.le_refl 0 | omega) (by first | exact zlt hc73 | omega) ar_73 (len_E ar_73 (by first | exact Nat.ne_of_beq_eq_false rfl | decide)) (by omega) (by omega) (by omega) dX9_differs_199 ?_
                          have f67 : 0 ≤ X21 73 0 ((5 * ((30 * sv) + r)) + k) ∧ X21 73 0 ((5 * ((30 * sv) + r)) + k) ≤ 19 := hRX21 73 0 ((5 * ((30 * sv) + r)) + k)
                          refine lv_aload_n hx hb dX9_differs_200 rfl (lv_at hl 0 rfl) ?_
                          refine x_geto hx hb hf9 hw (by first | exact Int.le_refl 0 | omega) (by first | exact zlt hc40 | omega) sl_40_32 lk90 dX9_differs_201 ?_
                          refine lv_iconst (v := jI 5) hx hb dX9_differs_204 rfl ?_
                          refine lv_iload hx hb dX9_differs_205 (lv_at hl 6 rfl) ?_
                          refine x_imul hx hb dX9_differs_207 ?_
                          refine lv_iload hx hb dX9_differs_208 (lv_at hl 8 rfl) ?_
                          refine x_iadd hx hb dX9_differs_210 ?_
                          refine x_iald hx hb hK.1 hw (by first | exact Int.le_refl 0 | omega) (by first | exact zlt hc73 | omega) ar_73 (len_E ar_73 (by first | exact Nat.ne_of_beq_eq_false rfl | decide)) (by omega) (by omega) (by omega) dX9_differs_211 ?_
                          have f68 : 0 ≤ X21 73 0 ((5 * (120 + r)) + k) ∧ X21 73 0 ((5 * (120 + r)) + k) ≤ 19 := hRX21 73 0 ((5 * (120 + r)) + k)
                          refine x_icmp_ne (tgt := 246) hx hb (by omega) (by omega) dX9_differs_212 (by decide) (fun c69 => ?_) (fun c69 => ?_)
                          · refine lv_iconst (v := jI 0) hx hb dX9_differs_246 rfl ?_
                            refine lv_istore (lv' := [(7, .int (jI 0)), (0, .ref (ad 40 0)), (1, .int (jI sv)), (2, .int (jI x)), (3, .int (jI nz)), (4, .int (jI r)), (5, .int (jI ((30 * sv) + r))), (6, .int (jI (120 + r))), (8, .int (jI k))]) hx hb dX9_differs_247 hl (by decide) rfl (fun ls hl => ?_)
                            refine lv_iinc (v := jI (k + 1)) (lv' := [(8, .int (jI (k + 1))), (7, .int (jI 0)), (0, .ref (ad 40 0)), (1, .int (jI sv)), (2, .int (jI x)), (3, .int (jI nz)), (4, .int (jI r)), (5, .int (jI ((30 * sv) + r))), (6, .int (jI (120 + r)))]) hx hb dX9_differs_249 hl (k := 8) rfl (jI_add _ _) (by decide) rfl (fun ls hl => ?_)
                            refine lv_goto (tgt := 171) hx hb dX9_differs_252 (by decide) ?_
                            exact ih171 0 (k + 1) _ _ _ (by omega) (by omega) (by omega) (fun q => (by obtain ⟨q1, q2, q3⟩ := hsm1 (by omega); exact ⟨q1, q2, fun j a b => if hj : j = k then (by rw [hj]; exact ⟨by omega, by omega⟩) else q3 j a (by omega)⟩)) (fun q e => (by have h9 := e.2.2.2.2 k (by omega) (by omega); omega)) hw hS (lv_sub hl [2, 3, 4, 5, 6, 7, 8, 1, 0] rfl)
                          · refine lv_aload_n hx hb dX9_differs_215 rfl (lv_at hl 0 rfl) ?_
                            refine x_geto hx hb hf9 hw (by first | exact Int.le_refl 0 | omega) (by first | exact zlt hc40 | omega) sl_40_33 lk93 dX9_differs_216 ?_
                            refine lv_iconst (v := jI 5) hx hb dX9_differs_219 rfl ?_
                            refine lv_iload hx hb dX9_differs_220 (lv_at hl 5 rfl) ?_
                            refine x_imul hx hb dX9_differs_222 ?_
                            refine lv_iload hx hb dX9_differs_223 (lv_at hl 8 rfl) ?_
                            refine x_iadd hx hb dX9_differs_225 ?_
                            refine x_iald hx hb hK.1 hw (by first | exact Int.le_refl 0 | omega) (by first | exact zlt hc74 | omega) ar_74 (len_E ar_74 (by first | exact Nat.ne_of_beq_eq_false rfl | decide)) (by omega) (by omega) (by omega) dX9_differs_226 ?_
                            have f70 : 0 ≤ X21 74 0 ((5 * ((30 * sv) + r)) + k) ∧ X21 74 0 ((5 * ((30 * sv) + r)) + k) ≤ 5 := hRX21 74 0 ((5 * ((30 * sv) + r)) + k)
                            refine lv_aload_n hx hb dX9_differs_227 rfl (lv_at hl 0 rfl) ?_
                            refine x_geto hx hb hf9 hw (by first | exact Int.le_refl 0 | omega) (by first | exact zlt hc40 | omega) sl_40_33 lk93 dX9_differs_228 ?_
                            refine lv_iconst (v := jI 5) hx hb dX9_differs_231 rfl ?_
                            refine lv_iload hx hb dX9_differs_232 (lv_at hl 6 rfl) ?_
                            refine x_imul hx hb dX9_differs_234 ?_
                            refine lv_iload hx hb dX9_differs_235 (lv_at hl 8 rfl) ?_
                            refine x_iadd hx hb dX9_differs_237 ?_
                            refine x_iald hx hb hK.1 hw (by first | exact Int.le_refl 0 | omega) (by first | exact zlt hc74 | omega) ar_74 (len_E ar_74 (by first | exact Nat.ne_of_beq_eq_false rfl | decide)) (by omega) (by omega) (by omega) dX9_differs_238 ?_
                            have f71 : 0 ≤ X21 74 0 ((5 * (120 + r)) + k) ∧ X21 74 0 ((5 * (120 + r)) + k) ≤ 5 := hRX21 74 0 ((5 * (120 + r)) + k)
                            refine x_icmp_ne (tgt := 246) hx hb (by omega) (by omega) dX9_differs_239 (by decide) (fun c72 => ?_) (fun c72 => ?_)
                            · refine lv_iconst (v := jI 0) hx hb dX9_differs_246 rfl ?_
                              refine lv_istore (lv' := [(7, .int (jI 0)), (0, .ref (ad 40 0)), (1, .int (jI sv)), (2, .int (jI x)), (3, .int (jI nz)), (4, .int (jI r)), (5, .int (jI ((30 * sv) + r))), (6, .int (jI (120 + r))), (8, .int (jI k))]) hx hb dX9_differs_247 hl (by decide) rfl (fun ls hl => ?_)
                              refine lv_iinc (v := jI (k + 1)) (lv' := [(8, .int (jI (k + 1))), (7, .int (jI 0)), (0, .ref (ad 40 0)), (1, .int (jI sv)), (2, .int (jI x)), (3, .int (jI nz)), (4, .int (jI r)), (5, .int (jI ((30 * sv) + r))), (6, .int (jI (120 + r)))]) hx hb dX9_differs_249 hl (k := 8) rfl (jI_add _ _) (by decide) rfl (fun ls hl => ?_)
                              refine lv_goto (tgt := 171) hx hb dX9_differs_252 (by decide) ?_
                              exact ih171 0 (k + 1) _ _ _ (by omega) (by omega) (by omega) (fun q => (by obtain ⟨q1, q2, q3⟩ := hsm1 (by omega); exact ⟨q1, q2, fun j a b => if hj : j = k then (by rw [hj]; exact ⟨by omega, by omega⟩) else q3 j a (by omega)⟩)) (fun q e => (by have h9 := e.2.2.2.2 k (by omega) (by omega); omega)) hw hS (lv_sub hl [2, 3, 4, 5, 6, 7, 8, 1, 0] rfl)
                            · refine lv_iconst (v := jI 1) hx hb dX9_differs_242 rfl ?_
                              refine lv_goto (tgt := 247) hx hb dX9_differs_243 (by decide) ?_
                              refine lv_istore (lv' := [(7, .int (jI 1)), (0, .ref (ad 40 0)), (1, .int (jI sv)), (2, .int (jI x)), (3, .int (jI nz)), (4, .int (jI r)), (5, .int (jI ((30 * sv) + r))), (6, .int (jI (120 + r))), (8, .int (jI k))]) hx hb dX9_differs_247 hl (by decide) rfl (fun ls hl => ?_)
                              refine lv_iinc (v := jI (k + 1)) (lv' := [(8, .int (jI (k + 1))), (7, .int (jI 1)), (0, .ref (ad 40 0)), (1, .int (jI sv)), (2, .int (jI x)), (3, .int (jI nz)), (4, .int (jI r)), (5, .int (jI ((30 * sv) + r))), (6, .int (jI (120 + r)))]) hx hb dX9_differs_249 hl (k := 8) rfl (jI_add _ _) (by decide) rfl (fun ls hl => ?_)
                              refine lv_goto (tgt := 171) hx hb dX9_differs_252 (by decide) ?_
                              exact ih171 1 (k + 1) _ _ _ (by omega) (by omega) (by omega) (fun q => (by obtain ⟨q1, q2, q3⟩ := hsm1 (by omega); exact ⟨q1, q2, fun j a b => if hj : j = k then (by rw [hj]; exact ⟨by omega, by omega⟩) else q3 j a (by omega)⟩)) (fun q e => (by have h9 := e.2.2.2.2 k (by omega) (by omega); omega)) hw hS (lv_sub hl [2, 3, 4, 5, 6, 7, 8, 1, 0] rfl)
                  refine lv_aload_n hx hb dX9_differs_127 rfl (lv_at hl 2 rfl) ?_
                  refine x_geto hx hb hf9 hw (by first | exact Int.le_refl 0 | omega) (by first | exact zlt hc40 | omega) sl_40_30 lk84 dX9_differs_128 ?_
                  refine lv_iload hx hb dX9_differs_131 (lv_at hl 1 rfl) ?_
                  refine x_iald hx hb hK.1 hw (by first | exact Int.le_refl 0 | omega) (by first | exact zlt hc71 | omega) ar_71 (len_E ar_71 (by first | exact Nat.ne_of_beq_eq_false rfl | decide)) (by omega) (by omega) (by omega) dX9_differs_133 ?_
                  have f73 : 0 ≤ X21 71 0 ((30 * sv) + r) ∧ X21 71 0 ((30 * sv) + r) ≤ 7 := hRX21 71 0 ((30 * sv) + r)
                  refine lv_aload_n hx hb dX9_differs_134 rfl (lv_at hl 2 rfl) ?_
                  refine x_geto hx hb hf9 hw (by first | exact Int.le_refl 0 | omega) (by first | exact zlt hc40 | omega) sl_40_30 lk84 dX9_differs_135 ?_
                  refine lv_iload hx hb dX9_differs_138 (lv_at hl 0 rfl) ?_
                  refine x_iald hx hb hK.1 hw (by first | exact Int.le_refl 0 | omega) (by first | exact zlt hc71 | omega) ar_71 (len_E ar_71 (by first | exact Nat.ne_of_beq_eq_false rfl | decide)) (by omega) (by omega) (by omega) dX9_differs_140 ?_
                  have f74 : 0 ≤ X21 71 0 (120 + r) ∧ X21 71 0 (120 + r) ≤ 7 := hRX21 71 0 (120 + r)
                  refine x_icmp_ne (tgt := 165) hx hb (by omega) (by omega) dX9_differs_141 (by decide) (fun c75 => ?_) (fun c75 => ?_)
                  · refine lv_iconst (v := jI 0) hx hb dX9_differs_165 rfl ?_
                    refine lv_istore (lv' := [(7, .int (jI 0)), (6, .int (jI (120 + r))), (5, .int (jI ((30 * sv) + r))), (0, .ref (ad 40 0)), (1, .int (jI sv)), (2, .int (jI x)), (3, .int (jI nz)), (4, .int (jI r))]) hx hb dX9_differs_166 hl (by decide) rfl (fun ls hl => ?_)
                    refine lv_iconst (v := jI 0) hx hb dX9_differs_168 rfl ?_
                    refine lv_istore (lv' := [(8, .int (jI 0)), (7, .int (jI 0)), (6, .int (jI (120 + r))), (5, .int (jI ((30 * sv) + r))), (0, .ref (ad 40 0)), (1, .int (jI sv)), (2, .int (jI x)), (3, .int (jI nz)), (4, .int (jI r))]) hx hb dX9_differs_169 hl (by decide) rfl (fun ls hl => ?_)
                    exact lp171 (5 - 0 : Int).toNat.succ 0 0 _ _ _ (by omega) (by omega) (by omega) (fun q => ⟨by omega, by omega, fun j a b => by omega⟩) (fun q e => by obtain ⟨q1, q2, q3, q4, -⟩ := e; omega) hw hS (lv_sub hl [4, 5, 6, 7, 8, 3, 2, 1, 0] rfl)
                  · refine lv_aload_n hx hb dX9_differs_144 rfl (lv_at hl 2 rfl) ?_
                    refine x_geto hx hb hf9 hw (by first | exact Int.le_refl 0 | omega) (by first | exact zlt hc40 | omega) sl_40_31 lk87 dX9_differs_145 ?_
                    refine lv_iload hx hb dX9_differs_148 (lv_at hl 1 rfl) ?_
                    refine x_iald hx hb hK.1 hw (by first | exact Int.le_refl 0 | omega) (by first | exact zlt hc72 | omega) ar_72 (len_E ar_72 (by first | exact Nat.ne_of_beq_eq_false rfl | decide)) (by omega) (by omega) (by omega) dX9_differs_150 ?_
                    have f76 : 0 ≤ X21 72 0 ((30 * sv) + r) ∧ X21 72 0 ((30 * sv) + r) ≤ 5 := hRX21 72 0 ((30 * sv) + r)
                    refine lv_aload_n hx hb dX9_differs_151 rfl (lv_at hl 2 rfl) ?_
                    refine x_geto hx hb hf9 hw (by first | exact Int.le_refl 0 | omega) (by first | exact zlt hc40 | omega) sl_40_31 lk87 dX9_differs_152 ?_
                    refine lv_iload hx hb dX9_differs_155 (lv_at hl 0 rfl) ?_
                    refine x_iald hx hb hK.1 hw (by first | exact Int.le_refl 0 | omega) (by first | exact zlt hc72 | omega) ar_72 (len_E ar_72 (by first | exact Nat.ne_of_beq_eq_false rfl | decide)) (by omega) (by omega) (by omega) dX9_differs_157 ?_
                    have f77 : 0 ≤ X21 72 0 (120 + r) ∧ X21 72 0 (120 + r) ≤ 5 := hRX21 72 0 (120 + r)
                    refine x_icmp_ne (tgt := 165) hx hb (by omega) (by omega) dX9_differs_158 (by decide) (fun c78 => ?_) (fun c78 => ?_)
                    · refine lv_iconst (v := jI 0) hx hb dX9_differs_165 rfl ?_
                      refine lv_istore (lv' := [(7, .int (jI 0)), (6, .int (jI (120 + r))), (5, .int (jI ((30 * sv) + r))), (0, .ref (ad 40 0)), (1, .int (jI sv)), (2, .int (jI x)), (3, .int (jI nz)), (4, .int (jI r))]) hx hb dX9_differs_166 hl (by decide) rfl (fun ls hl => ?_)
                      refine lv_iconst (v := jI 0) hx hb dX9_differs_168 rfl ?_
                      refine lv_istore (lv' := [(8, .int (jI 0)), (7, .int (jI 0)), (6, .int (jI (120 + r))), (5, .int (jI ((30 * sv) + r))), (0, .ref (ad 40 0)), (1, .int (jI sv)), (2, .int (jI x)), (3, .int (jI nz)), (4, .int (jI r))]) hx hb dX9_differs_169 hl (by decide) rfl (fun ls hl => ?_)
                      exact lp171 (5 - 0 : Int).toNat.succ 0 0 _ _ _ (by omega) (by omega) (by omega) (fun q => ⟨by omega, by omega, fun j a b => by omega⟩) (fun q e => by obtain ⟨q1, q2, q3, q4, -⟩ := e; omega) hw hS (lv_sub hl [4, 5, 6, 7, 8, 3, 2, 1, 0] rfl)
                    · refine lv_iconst (v := jI 1) hx hb dX9_differs_161 rfl ?_
                      refine lv_goto (tgt := 166) hx hb dX9_differs_162 (by decide) ?_
                      refine lv_istore (lv' := [(7, .int (jI 1)), (6, .int (jI (120 + r))), (5, .int (jI ((30 * sv) + r))), (0, .ref (ad 40 0)), (1, .int (jI sv)), (2, .int (jI x)), (3, .int (jI nz)), (4, .int (jI r))]) hx hb dX9_differs_166 hl (by decide) rfl (fun ls hl => ?_)
                      refine lv_iconst (v := jI 0) hx hb dX9_differs_168 rfl ?_
                      refine lv_istore (lv' := [(8, .int (jI 0)), (7, .int (jI 1)), (6, .int (jI (120 + r))), (5, .int (jI ((30 * sv) + r))), (0, .ref (ad 40 0)), (1, .int (jI sv)), (2, .int (jI x)), (3, .int (jI nz)), (4, .int (jI r))]) hx hb dX9_differs_169 hl (by decide) rfl (fun ls hl => ?_)
                      exact lp171 (5 - 0 : Int).toNat.succ 1 0 _ _ _ (by omega) (by omega) (by omega) (fun q => ⟨by omega, by omega, fun j a b => by omega⟩) (fun q e => by obtain ⟨q1, q2, q3, q4, -⟩ := e; omega) hw hS (lv_sub hl [4, 5, 6, 7, 8, 3, 2, 1, 0] rfl)
                · refine lv_bipush (v := jI 100) hx hb dX9_differs_102 (by decide) ?_
                  refine lv_iload hx hb dX9_differs_104 (lv_at hl 4 rfl) ?_
                  refine x_imul hx hb dX9_differs_106 ?_
                  refine lv_bipush (v := jI 99) hx hb dX9_differs_107 (by decide) ?_
                  refine x_iadd hx hb dX9_differs_109 ?_
                  rw [hQ9]
                  refine ret_i (mc := 0) (ms := 0) hx hb hr hlocks hw hS (by first | exact Nat.le_of_ble_eq_true rfl | omega) (by first | exact Nat.le_of_ble_eq_true rfl | omega) dX9_differs_110 ?_
                  have q79 : Frm [4001] X X1 := by rw [hX1]; exact Frm.set Frm.rf (show 4001 ∈ [4001] by first | exact nlm_in rfl | decide)
                  have hrd80 := rdr_eq (L := [4001]) q79 (by decide)
                  have hsx81 := hsvX21
                  rw [hrd80.1, hrd80.2.1, hrd80.2.2, Frm.arr q79 48 (by decide +kernel) (by decide), Frm.arr q79 55 (by decide +kernel) (by decide)] at hsx81
                  exact ⟨X21, rfl, hRX21, hFX21, hMIX21, by omega, S4.tr (S4.frm q79 (by decide)) h4X21, S5.tr (S5.frm q79 (by decide)) h5X21, Or.inr ⟨(by (try delta Hid at *); omega), (by rcases hsx81 with ⟨-, q, -⟩ | ⟨-, -, q⟩; exact absurd q (by decide); exact q), Or.inr ⟨r, by omega, by omega, hall, Or.inl ⟨(fun q => by have q1 := q.1; have q2 := q.2.1; omega), by omega⟩⟩⟩⟩
        refine lv_aload_n hx hb dX9_differs_40 rfl (lv_at hl 0 rfl) ?_
        refine x_geto hx hb hf9 hw (by first | exact Int.le_refl 0 | omega) (by first | exact zlt hc40 | omega) sl_40_29 lk81 dX9_differs_41 ?_
        refine lv_iload_n hx hb dX9_differs_44 rfl (lv_at hl 1 rfl) ?_
        refine x_iald hx hb hK.1 hw (by first | exact Int.le_refl 0 | omega) (by first | exact zlt hc70 | omega) ar_70 (len_E ar_70 (by first | exact Nat.ne_of_beq_eq_false rfl | decide)) (by omega) (by omega) (by omega) dX9_differs_45 ?_
        have f82 : 0 ≤ X21 70 0 sv ∧ X21 70 0 sv ≤ 30 := hRX21 70 0 sv
        refine lv_aload_n hx hb dX9_differs_46 rfl (lv_at hl 0 rfl) ?_
        refine x_geto hx hb hf9 hw (by first | exact Int.le_refl 0 | omega) (by first | exact zlt hc40 | omega) sl_40_29 lk81 dX9_differs_47 ?_
        refine lv_iconst (v := jI 4) hx hb dX9_differs_50 rfl ?_
        refine x_iald hx hb hK.1 hw (by first | exact Int.le_refl 0 | omega) (by first | exact zlt hc70 | omega) ar_70 (len_E ar_70 (by first | exact Nat.ne_of_beq_eq_false rfl | decide)) (by omega) (by omega) (by omega) dX9_differs_51 ?_
        have f83 : 0 ≤ X21 70 0 4 ∧ X21 70 0 4 ≤ 30 := hRX21 70 0 4
        refine x_icmp_le (tgt := 64) hx hb (by omega) (by omega) dX9_differs_52 (by decide) (fun c84 => ?_) (fun c84 => ?_)
        · refine lv_aload_n hx hb dX9_differs_64 rfl (lv_at hl 0 rfl) ?_
          refine x_geto hx hb hf9 hw (by first | exact Int.le_refl 0 | omega) (by first | exact zlt hc40 | omega) sl_40_29 lk81 dX9_differs_65 ?_
          refine lv_iconst (v := jI 4) hx hb dX9_differs_68 rfl ?_
          refine x_iald hx hb hK.1 hw (by first | exact Int.le_refl 0 | omega) (by first | exact zlt hc70 | omega) ar_70 (len_E ar_70 (by first | exact Nat.ne_of_beq_eq_false rfl | decide)) (by omega) (by omega) (by omega) dX9_differs_69 ?_
          have f85 : 0 ≤ X21 70 0 4 ∧ X21 70 0 4 ≤ 30 := hRX21 70 0 4
          refine lv_istore_n (lv' := [(3, .int (jI (X21 70 0 4))), (0, .ref (ad 40 0)), (1, .int (jI sv)), (2, .int (jI x))]) hx hb dX9_differs_70 rfl hl (by decide) rfl (fun ls hl => ?_)
          refine lv_iconst (v := jI 0) hx hb dX9_differs_71 rfl ?_
          refine lv_istore (lv' := [(4, .int (jI 0)), (3, .int (jI (X21 70 0 4))), (0, .ref (ad 40 0)), (1, .int (jI sv)), (2, .int (jI x))]) hx hb dX9_differs_72 hl (by decide) rfl (fun ls hl => ?_)
          exact lp74 (30 - 0 : Int).toNat.succ (X21 70 0 4) 0 _ _ _ (by omega) (by omega) (by omega) (by unfold mxM; split <;> omega) (fun r' a b => by omega) hw hS (lv_sub hl [2, 3, 4, 1, 0] rfl)
        · refine lv_aload_n hx hb dX9_differs_55 rfl (lv_at hl 0 rfl) ?_
          refine x_geto hx hb hf9 hw (by first | exact Int.le_refl 0 | omega) (by first | exact zlt hc40 | omega) sl_40_29 lk81 dX9_differs_56 ?_
          refine lv_iload_n hx hb dX9_differs_59 rfl (lv_at hl 1 rfl) ?_
          refine x_iald hx hb hK.1 hw (by first | exact Int.le_refl 0 | omega) (by first | exact zlt hc70 | omega) ar_70 (len_E ar_70 (by first | exact Nat.ne_of_beq_eq_false rfl | decide)) (by omega) (by omega) (by omega) dX9_differs_60 ?_
          have f86 : 0 ≤ X21 70 0 sv ∧ X21 70 0 sv ≤ 30 := hRX21 70 0 sv
          refine lv_goto (tgt := 70) hx hb dX9_differs_61 (by decide) ?_
          refine lv_istore_n (lv' := [(3, .int (jI (X21 70 0 sv))), (0, .ref (ad 40 0)), (1, .int (jI sv)), (2, .int (jI x))]) hx hb dX9_differs_70 rfl hl (by decide) rfl (fun ls hl => ?_)
          refine lv_iconst (v := jI 0) hx hb dX9_differs_71 rfl ?_
          refine lv_istore (lv' := [(4, .int (jI 0)), (3, .int (jI (X21 70 0 sv))), (0, .ref (ad 40 0)), (1, .int (jI sv)), (2, .int (jI x))]) hx hb dX9_differs_72 hl (by decide) rfl (fun ls hl => ?_)
          exact lp74 (30 - 0 : Int).toNat.succ (X21 70 0 sv) 0 _ _ _ (by omega) (by omega) (by omega) (by unfold mxM; split <;> omega) (fun r' a b => by omega) hw hS (lv_sub hl [2, 3, 4, 1, 0] rfl)
      · subst ez11
        refine x_if_neF (tgt := 33) hx hb (by omega) (by decide) dX9_differs_27 (by decide) ?_
        refine lv_bipush (v := jI (-2)) hx hb dX9_differs_30 (by decide) ?_
        rw [hQ9]
        refine ret_i (mc := 0) (ms := 0) hx hb hr hlocks hw hS (by first | exact Nat.le_of_ble_eq_true rfl | omega) (by first | exact Nat.le_of_ble_eq_true rfl | omega) dX9_differs_32 ?_
        have q88 : Frm [4001] X X1 := by rw [hX1]; exact Frm.set Frm.rf (show 4001 ∈ [4001] by first | exact nlm_in rfl | decide)
        have hMq87 : MInv X1 := minv_frm hMI q88 (by decide)
        have q89 : Frm [4001] X X1 := by rw [hX1]; exact Frm.set Frm.rf (show 4001 ∈ [4001] by first | exact nlm_in rfl | decide)
        exact ⟨X1, rfl, hRX1, hFX1, hMq87, by omega, S4.frm q89 (by decide), S5.frm q89 (by decide), Or.inl ⟨(fun q => by (try delta Hid at *); omega), by omega⟩⟩
  · subst ez2
    refine x_if_eqT (tgt := 30) hx hb (by omega) (by decide) dX9_differs_10 (by decide) ?_
    refine lv_bipush (v := jI (-2)) hx hb dX9_differs_30 (by decide) ?_
    rw [hQ9]
    refine ret_i (mc := 0) (ms := 0) hx hb hr hlocks hw hS (by first | exact Nat.le_of_ble_eq_true rfl | omega) (by first | exact Nat.le_of_ble_eq_true rfl | omega) dX9_differs_32 ?_
    have q91 : Frm [4001] X X1 := by rw [hX1]; exact Frm.set Frm.rf (show 4001 ∈ [4001] by first | exact nlm_in rfl | decide)
    have hMq90 : MInv X1 := minv_frm hMI q91 (by decide)
    have q92 : Frm [4001] X X1 := by rw [hX1]; exact Frm.set Frm.rf (show 4001 ∈ [4001] by first | exact nlm_in rfl | decide)
    exact ⟨X1, rfl, hRX1, hFX1, hMq90, by omega, S4.frm q92 (by decide), S5.frm q92 (by decide), Or.inl ⟨(fun q => by (try delta Hid at *); omega), by omega⟩⟩

