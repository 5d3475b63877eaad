section
set_option maxHeartbeats 4000000 in
set_option maxRecDepth 100000 in
theorem c_X9_rowBack (l : Launch) (D : va_G) (tc : Nat → ClassId) (base : Nat) (ad : Nat → Int → Nat) (cnt : Nat → Int) (X : Nat → Int → Int → Int) (Y : Nat → Int → Int → Option Int) (ln : Int → Int) (hR : Rng X) (hFx : Fx cnt) (hMI : MInv X) (sv r lane : Int) (hsv : 0 ≤ sv ∧ sv ≤ 3) (hr0 : 0 ≤ r ∧ r ≤ 149) (hlane : 3 ≤ lane ∧ lane ≤ 5) : KI l D tc base yX9_rowBack wsX9_rowBack ({ frames := 2, cells := 0, slots := 0, locals := 46 } : Room) [.ref (ad 40 0), .int (jI sv), .int (jI r), .int (jI lane)] (ad, cnt, X, Y, ln) 0 0 (fun z u => ∃ X1 : Nat → Int → Int → Int, u = (ad, cnt, X1, Y, ln) ∧ Rng X1 ∧ Frm [6000, 5700, 5800, 5900, 8500] X X1 ∧ MInv X1 ∧ (-1 ≤ z ∧ z ≤ 399) ∧ rbM sv r lane X X1 z) := by
  refine K_of (cc := cX9_rowBack) (maxL := 8) (ret := (some .int)) (by decide) rfl (Nat.le_of_ble_eq_true rfl) ?_
  intro p e s m below meth c ls hx hb hr hml hown hts hlocks hl hK hw hS
  have hown : s.vm.findClass RX9 = some m.cls := hown
  obtain ⟨av9, hav9⟩ : ∃ a9 : Array Value, a9 = ([.ref (ad 40 0), .int (jI sv), .int (jI r), .int (jI lane)] : List Value).toArray := ⟨_, rfl⟩
  rw [← hav9] at hts ⊢
  obtain ⟨Q9, hQ9⟩ : ∃ q9Q : State → Prop, q9Q = MQ below (QI D tc base (fun z u => ∃ X1 : Nat → Int → Int → Int, u = (ad, cnt, X1, Y, ln) ∧ Rng X1 ∧ Frm [6000, 5700, 5800, 5900, 8500] X X1 ∧ MInv X1 ∧ (-1 ≤ z ∧ z ≤ 399) ∧ rbM sv r lane X X1 z)) av9 s 0 0 (frA base) := ⟨_, rfl⟩
  rw [← hQ9]
  have hi9 : ∀ w ∈ wsX90, w ∈ wsX9_rowBack := fun w h => List.mem_cons_of_mem _ (List.mem_append_right _ h)
  have hf9 : fctx s m _ RX9 wsX9_rowBack D tc RX9 TX9 51 9 := ⟨hts, hi9, hown, hK.1, rfl⟩
  have lk57 := hts (.fieldLink RX9 57 (TX9 18).1 (TX9 18).2.1 (TX9 18).2.2.1) (gj_X9_rowBack_0 _ (gp_1 (gp_1 gp_h)))
  have lk105 := hts (.fieldLink RX9 105 (TX9 37).1 (TX9 37).2.1 (TX9 37).2.2.1) (gj_X9_rowBack_0 _ (gp_1 gp_h))
  have lk108 := hts (.fieldLink RX9 108 (TX9 38).1 (TX9 38).2.1 (TX9 38).2.2.1) (gj_X9_rowBack_0 _ (gp_1 (gp_1 (gp_1 gp_h))))
  have lk127 := hts (.fieldLink RX9 127 (TX9 44).1 (TX9 44).2.1 (TX9 44).2.2.1) (gj_X9_rowBack_0 _ (gp_h))
  have hc40 : cnt 40 = 1 := hFx.at 40 1 (by decide)
  have hc59 : cnt 59 = 1 := hFx.at 59 1 (by decide)
  have hc78 : cnt 78 = 1 := hFx.at 78 1 (by decide)
  have hc79 : cnt 79 = 1 := hFx.at 79 1 (by decide)
  have hc85 : cnt 85 = 1 := hFx.at 85 1 (by decide)
  have hl : lv_has ls 8 [(0, .ref (ad 40 0)), (1, .int (jI sv)), (2, .int (jI r)), (3, .int (jI lane))] := hl
  have fstypes : 0 ≤ X 40 0 2 ∧ X 40 0 2 ≤ 8 := hR 40 0 2
  have fsthings : 0 ≤ X 40 0 13 ∧ X 40 0 13 ≤ 30 := hR 40 0 13
  have fsmarks : 0 ≤ X 40 0 20 ∧ X 40 0 20 ≤ 4 := hR 40 0 20
  have fsnotes : 0 ≤ X 40 0 22 ∧ X 40 0 22 ≤ 80 := hR 40 0 22
  refine lv_iconst (v := jI 3) hx hb dX9_rowBack_0 rfl ?_
  refine lv_iload_n hx hb dX9_rowBack_1 rfl (lv_at hl 2 rfl) ?_
  refine x_imul hx hb dX9_rowBack_2 ?_
  refine lv_iload_n hx hb dX9_rowBack_3 rfl (lv_at hl 3 rfl) ?_
  refine x_iadd hx hb dX9_rowBack_4 ?_
  refine lv_iconst (v := jI 3) hx hb dX9_rowBack_5 rfl ?_
  refine x_isub hx hb dX9_rowBack_6 ?_
  refine lv_istore (lv' := [(4, .int (jI (((3 * r) + lane) - 3))), (0, .ref (ad 40 0)), (1, .int (jI sv)), (2, .int (jI r)), (3, .int (jI lane))]) hx hb dX9_rowBack_7 hl (by decide) rfl (fun ls hl => ?_)
  refine lv_aload_n hx hb dX9_rowBack_9 rfl (lv_at hl 1 rfl) ?_
  refine x_geto hx hb hf9 hw (by first | exact Int.le_refl 0 | omega) (by first | exact zlt hc40 | omega) sl_40_44 lk127 dX9_rowBack_10 ?_
  refine lv_iload hx hb dX9_rowBack_13 (lv_at hl 0 rfl) ?_
  refine x_iald hx hb hK.1 hw (by first | exact Int.le_refl 0 | omega) (by first | exact zlt hc85 | omega) ar_85 (len_E ar_85 (by first | exact Nat.ne_of_beq_eq_false rfl | decide)) (by omega) (by omega) (by omega) dX9_rowBack_15 ?_
  have f1 : (-1) ≤ X 85 0 (((3 * r) + lane) - 3) ∧ X 85 0 (((3 * r) + lane) - 3) ≤ 399 := hR 85 0 (((3 * r) + lane) - 3)
  refine x_if_ge (tgt := 98) hx hb (by omega) dX9_rowBack_16 (by decide) (fun c2 => ?_) (fun c2 => ?_)
  · refine lv_aload_n hx hb dX9_rowBack_98 rfl (lv_at hl 1 rfl) ?_
    refine x_geto hx hb hf9 hw (by first | exact Int.le_refl 0 | omega) (by first | exact zlt hc40 | omega) sl_40_44 lk127 dX9_rowBack_99 ?_
    refine lv_iload hx hb dX9_rowBack_102 (lv_at hl 0 rfl) ?_
    refine x_iald hx hb hK.1 hw (by first | exact Int.le_refl 0 | omega) (by first | exact zlt hc85 | omega) ar_85 (len_E ar_85 (by first | exact Nat.ne_of_beq_eq_false rfl | decide)) (by omega) (by omega) (by omega) dX9_rowBack_104 ?_
    have f3 : (-1) ≤ X 85 0 (((3 * r) + lane) - 3) ∧ X 85 0 (((3 * r) + lane) - 3) ≤ 399 := hR 85 0 (((3 * r) + lane) - 3)
    rw [hQ9]
    refine ret_i (mc := 0) (ms := 0) hx hb hr hlocks hw hS (by first | exact Nat.le_of_ble_eq_true rfl | omega) (by first | exact Nat.le_of_ble_eq_true rfl | omega) dX9_rowBack_105 ?_
    exact ⟨X, rfl, hR, Frm.rf, hMI, by omega, Or.inl ⟨by omega, by omega, rfl⟩⟩
  · refine lv_aload_n hx hb dX9_rowBack_19 rfl (lv_at hl 1 rfl) ?_
    refine x_geto hx hb hf9 hw (by first | exact Int.le_refl 0 | omega) (by first | exact zlt hc40 | omega) sl_40_37 lk105 dX9_rowBack_20 ?_
    refine lv_sipush (v := jI 150) hx hb dX9_rowBack_23 (by decide) ?_
    refine lv_iload_n hx hb dX9_rowBack_26 rfl (lv_at hl 2 rfl) ?_
    refine x_imul hx hb dX9_rowBack_27 ?_
    refine lv_iload_n hx hb dX9_rowBack_28 rfl (lv_at hl 3 rfl) ?_
    refine x_iadd hx hb dX9_rowBack_29 ?_
    refine x_iald hx hb hK.1 hw (by first | exact Int.le_refl 0 | omega) (by first | exact zlt hc78 | omega) ar_78 (len_E ar_78 (by first | exact Nat.ne_of_beq_eq_false rfl | decide)) (by omega) (by omega) (by omega) dX9_rowBack_30 ?_
    have f4 : 0 ≤ X 78 0 ((150 * sv) + r) ∧ X 78 0 ((150 * sv) + r) ≤ 12 := hR 78 0 ((150 * sv) + r)
    refine lv_istore (lv' := [(5, .int (jI (X 78 0 ((150 * sv) + r)))), (4, .int (jI (((3 * r) + lane) - 3))), (0, .ref (ad 40 0)), (1, .int (jI sv)), (2, .int (jI r)), (3, .int (jI lane))]) hx hb dX9_rowBack_31 hl (by decide) rfl (fun ls hl => ?_)
    refine lv_aload_n hx hb dX9_rowBack_33 rfl (lv_at hl 2 rfl) ?_
    refine lv_iload_n hx hb dX9_rowBack_34 rfl (lv_at hl 5 rfl) ?_
    refine lv_iload hx hb dX9_rowBack_35 (lv_at hl 0 rfl) ?_
    refine gos_i (run_V (As := [.int (jI lane), .int (jI (X 78 0 ((150 * sv) + r)))]) (rest := []) hx hb hml hown hts (c_X9_newRow l D tc base ad cnt X Y ln hR hFx hMI lane (X 78 0 ((150 * sv) + r)) (by omega) (by omega)) (cwV 2 hts gX9_rowBack_X9_newRow rfl rfl rfl (by first | exact hd_X9_newRow | decide +kernel) ⟨Nat.le_of_ble_eq_true rfl, Nat.le_of_ble_eq_true rfl⟩) hK hw (by first | exact Int.le_refl 0 | omega) (by first | exact zlt hc40 | omega) sl_40_0 rfl rfl hl.1 rfl (Nat.le_of_ble_eq_true rfl) dX9_rowBack_37 ⟨Nat.le_of_ble_eq_true rfl, Nat.le_of_ble_eq_true rfl⟩) hS (fun z5 u6 H locs p7 hw hS => ?_)
    obtain ⟨X8, eu6, hRX8, hG9, hMIX8, p7, hnwX8⟩ := p7
    subst eu6
    have hFX8 : Frm [6000, 5700, 5800, 5900, 8500] X X8 := Frm.tr Frm.rf (Frm.mono hG9 (by first | exact nls_of rfl | decide))
    refine lv_istore (lv' := [(6, .int (jI z5)), (5, .int (jI (X 78 0 ((150 * sv) + r)))), (4, .int (jI (((3 * r) + lane) - 3))), (0, .ref (ad 40 0)), (1, .int (jI sv)), (2, .int (jI r)), (3, .int (jI lane))]) hx hb dX9_rowBack_40 hl (by decide) rfl (fun ls hl => ?_)
    refine lv_iconst (v := jI 0) hx hb dX9_rowBack_42 rfl ?_
    refine lv_istore (lv' := [(7, .int (jI 0)), (6, .int (jI z5)), (5, .int (jI (X 78 0 ((150 * sv) + r)))), (4, .int (jI (((3 * r) + lane) - 3))), (0, .ref (ad 40 0)), (1, .int (jI sv)), (2, .int (jI r)), (3, .int (jI lane))]) hx hb dX9_rowBack_43 hl (by decide) rfl (fun ls hl => ?_)
    have lp45 : ∀ (nn : Nat) (k : Int) (Xa : Nat → Int → Int → Int) (H : Heap) (locs : List Loc) (ls : Array Slot), (12 - k) < (nn : Int) → (Rng Xa) → (Frm [5900] X8 Xa) → (0 ≤ k ∧ k ≤ 12) → (∀ j, 0 ≤ j → j < k → Xa 59 0 (12 * z5 + j) = X 79 0 (12 * (150 * sv + r) + j)) → (∀ p, ¬ (12 * z5 ≤ p ∧ p < 12 * z5 + 12) → Xa 59 0 p = X 59 0 p) → wd D tc base (ad, cnt, Xa, Y, ln) H → va_S (frA base) s.heap H locs → lv_has ls 8 [(0, .ref (ad 40 0)), (1, .int (jI sv)), (2, .int (jI r)), (3, .int (jI lane)), (4, .int (jI (((3 * r) + lane) - 3))), (5, .int (jI (X 78 0 ((150 * sv) + r)))), (6, .int (jI z5)), (7, .int (jI k))] → W p l e ({ frames := 2, cells := 0, slots := 0, locals := 46 } : Room) s m av9 below meth c H locs 0 0 Q9 (F0 m 45 ls []) := by
      intro nn
      induction nn with
      | zero => intro k Xa H locs ls hm hRXa hGXa hk hrb hro hw hS hl; exfalso; omega
      | succ nn ih45 =>
        intro k Xa H locs ls hm hRXa hGXa hk hrb hro hw hS hl
        have hFXa : Frm [6000, 5700, 5800, 5900, 8500] X Xa := Frm.tr hFX8 (Frm.mono hGXa (by first | exact nls_of rfl | decide))
        refine lv_iload hx hb dX9_rowBack_45 (lv_at hl 7 rfl) ?_
        refine lv_iload hx hb dX9_rowBack_47 (lv_at hl 5 rfl) ?_
        refine x_icmp_ge (tgt := 89) hx hb (by omega) (by omega) dX9_rowBack_49 (by decide) (fun c10 => ?_) (fun c10 => ?_)
        · refine lv_aload_n hx hb dX9_rowBack_89 rfl (lv_at hl 0 rfl) ?_
          refine x_geto hx hb hf9 hw (by first | exact Int.le_refl 0 | omega) (by first | exact zlt hc40 | omega) sl_40_44 lk127 dX9_rowBack_90 ?_
          refine lv_iload hx hb dX9_rowBack_93 (lv_at hl 4 rfl) ?_
          refine lv_iload hx hb dX9_rowBack_95 (lv_at hl 6 rfl) ?_
          refine x_iast hx hb hK.1 hw hS (by first | exact Int.le_refl 0 | omega) (by first | exact zlt hc85 | omega) ar_85 (len_E ar_85 (by first | exact Nat.ne_of_beq_eq_false rfl | decide)) (by omega) (by omega) (by omega) dX9_rowBack_97 (fun H locs hw hS => ?_)
          obtain ⟨X11, hX11⟩ : ∃ Xq, Xq = u3 Xa 85 0 (((3 * r) + lane) - 3) z5 := ⟨_, rfl⟩
          rw [← hX11] at hw
          have hRX11 : Rng X11 := by rw [hX11]; exact rng_set hRXa (show (-1) ≤ z5 ∧ z5 ≤ 399 by omega)
          have hVX11 : X11 85 0 (((3 * r) + lane) - 3) = z5 := by rw [hX11]; exact u3_s _ _ _ _ _
          have hFX11 : Frm [6000, 5700, 5800, 5900, 8500] X X11 := by rw [hX11]; exact Frm.set hFXa (show 8500 ∈ [6000, 5700, 5800, 5900, 8500] by first | exact nlm_in rfl | decide)
          refine lv_aload_n hx hb dX9_rowBack_98 rfl (lv_at hl 0 rfl) ?_
          refine x_geto hx hb hf9 hw (by first | exact Int.le_refl 0 | omega) (by first | exact zlt hc40 | omega) sl_40_44 lk127 dX9_rowBack_99 ?_
          refine lv_iload hx hb dX9_rowBack_102 (lv_at hl 4 rfl) ?_
          refine x_iald hx hb hK.1 hw (by first | exact Int.le_refl 0 | omega) (by first | exact zlt hc85 | omega) ar_85 (len_E ar_85 (by first | exact Nat.ne_of_beq_eq_false rfl | decide)) (by omega) (by omega) (by omega) dX9_rowBack_104 ?_
          rw [hVX11]
          rw [hQ9]
          refine ret_i (mc := 0) (ms := 0) hx hb hr hlocks hw hS (by first | exact Nat.le_of_ble_eq_true rfl | omega) (by first | exact Nat.le_of_ble_eq_true rfl | omega) dX9_rowBack_105 ?_
          have q13 : Frm [5900, 8500] X8 Xa := Frm.tr Frm.rf (Frm.mono hGXa (by first | exact nls_of rfl | decide))
          have q14 : Frm [5900, 8500] X8 X11 := by rw [hX11]; exact Frm.set q13 (show 8500 ∈ [5900, 8500] by first | exact nlm_in rfl | decide)
          have hMq12 : MInv X11 := minv_frm hMIX8 q14 (by decide)
          have q15 : Frm [6000, 5700, 5800, 5900, 8500] X X8 := Frm.tr Frm.rf (Frm.mono hG9 (by first | exact nls_of rfl | decide))
          have q16 : Frm [6000, 5700, 5800, 5900, 8500] X Xa := Frm.tr q15 (Frm.mono hGXa (by first | exact nls_of rfl | decide))
          have q17 : Frm [6000, 5700, 5800, 5900, 8500] X X11 := by rw [hX11]; exact Frm.set q16 (show 8500 ∈ [6000, 5700, 5800, 5900, 8500] by first | exact nlm_in rfl | decide)
          have q18 : Frm [5900, 8500] X8 Xa := Frm.tr Frm.rf (Frm.mono hGXa (by first | exact nls_of rfl | decide))
          have q19 : Frm [5900, 8500] X8 X11 := by rw [hX11]; exact Frm.set q18 (show 8500 ∈ [5900, 8500] by first | exact nlm_in rfl | decide)
          have q20 : Frm [5900, 8500] X8 Xa := Frm.tr Frm.rf (Frm.mono hGXa (by first | exact nls_of rfl | decide))
          have q21 : Frm [5900, 8500] X8 X11 := by rw [hX11]; exact Frm.set q20 (show 8500 ∈ [5900, 8500] by first | exact nlm_in rfl | decide)
          obtain ⟨hn221, hn222, hn223, hn224, hn225, hn226, hn227⟩ := hnwX8
          exact ⟨X11, rfl, hRX11, hFX11, hMq12, by omega, Or.inr ⟨by omega, ⟨by omega, by omega⟩, ⟨hn221, hn222⟩, ⟨(by rw [(Frm.arr q19 57 (by decide +kernel) (by decide))]; exact hn223), (by rw [(Frm.arr q21 58 (by decide +kernel) (by decide))]; exact hn224)⟩, fun y hy => (by rw [(Frm.arr q19 57 (by decide +kernel) (by decide)), (Frm.arr q21 58 (by decide +kernel) (by decide))]; exact hn225 y hy), fun j a b => (by rw [hX11, u3_k _ _ _ _ (by first | exact Nat.ne_of_beq_eq_false rfl | decide)]; exact hrb j a (by omega)), fun p hp9 => (by rw [hX11, u3_k _ _ _ _ (by first | exact Nat.ne_of_beq_eq_false rfl | decide)]; exact hro p hp9), (by rw [hVX11] <;> omega), fun j hj => (by rw [hX11, u3_j _ _ _ _ hj, hGXa 85 0 j (show 8500 ∉ [5900] by first | exact nlm_ni rfl | decide), hG9 85 0 j (show 8500 ∉ [6000, 5700, 5800, 5900] by first | exact nlm_ni rfl | decide)]), q17⟩⟩
        · refine lv_aload_n hx hb dX9_rowBack_52 rfl (lv_at hl 0 rfl) ?_
          refine x_geto hx hb hf9 hw (by first | exact Int.le_refl 0 | omega) (by first | exact zlt hc40 | omega) sl_40_18 lk57 dX9_rowBack_53 ?_
          refine lv_bipush (v := jI 12) hx hb dX9_rowBack_56 (by decide) ?_
          refine lv_iload hx hb dX9_rowBack_58 (lv_at hl 6 rfl) ?_
          refine x_imul hx hb dX9_rowBack_60 ?_
          refine lv_iload hx hb dX9_rowBack_61 (lv_at hl 7 rfl) ?_
          refine x_iadd hx hb dX9_rowBack_63 ?_
          refine lv_aload_n hx hb dX9_rowBack_64 rfl (lv_at hl 0 rfl) ?_
          refine x_geto hx hb hf9 hw (by first | exact Int.le_refl 0 | omega) (by first | exact zlt hc40 | omega) sl_40_38 lk108 dX9_rowBack_65 ?_
          refine lv_bipush (v := jI 12) hx hb dX9_rowBack_68 (by decide) ?_
          refine lv_sipush (v := jI 150) hx hb dX9_rowBack_70 (by decide) ?_
          refine lv_iload_n hx hb dX9_rowBack_73 rfl (lv_at hl 1 rfl) ?_
          refine x_imul hx hb dX9_rowBack_74 ?_
          refine lv_iload_n hx hb dX9_rowBack_75 rfl (lv_at hl 2 rfl) ?_
          refine x_iadd hx hb dX9_rowBack_76 ?_
          refine x_imul hx hb dX9_rowBack_77 ?_
          refine lv_iload hx hb dX9_rowBack_78 (lv_at hl 7 rfl) ?_
          refine x_iadd hx hb dX9_rowBack_80 ?_
          refine x_lald hx hb hK.1 hw (by first | exact Int.le_refl 0 | omega) (by first | exact zlt hc79 | omega) ar_79 (len_E ar_79 (by first | exact Nat.ne_of_beq_eq_false rfl | decide)) (by omega) (by omega) (by omega) dX9_rowBack_81 ?_
          have e23 : ∀ p9 q9 : Int, Xa 79 p9 q9 = X 79 p9 q9 := fun p9 q9 => by rw [hGXa 79 p9 q9 (show 7900 ∉ [5900] by first | exact nlm_ni rfl | decide), hG9 79 p9 q9 (show 7900 ∉ [6000, 5700, 5800, 5900] by first | exact nlm_ni rfl | decide)]
          rw [e23 0 ((12 * ((150 * sv) + r)) + k)]
          have f24 : (-9223372036854775808) ≤ X 79 0 ((12 * ((150 * sv) + r)) + k) ∧ X 79 0 ((12 * ((150 * sv) + r)) + k) ≤ 9223372036854775807 := hR 79 0 ((12 * ((150 * sv) + r)) + k)
          refine x_last hx hb hK.1 hw hS (by first | exact Int.le_refl 0 | omega) (by first | exact zlt hc59 | omega) ar_59 (len_E ar_59 (by first | exact Nat.ne_of_beq_eq_false rfl | decide)) (by omega) (by omega) (by omega) dX9_rowBack_82 (fun H locs hw hS => ?_)
          obtain ⟨X25, hX25⟩ : ∃ Xq, Xq = u3 Xa 59 0 ((12 * z5) + k) (X 79 0 ((12 * ((150 * sv) + r)) + k)) := ⟨_, rfl⟩
          rw [← hX25] at hw
          have hRX25 : Rng X25 := by rw [hX25]; exact rng_set hRXa (show (-9223372036854775808) ≤ (X 79 0 ((12 * ((150 * sv) + r)) + k)) ∧ (X 79 0 ((12 * ((150 * sv) + r)) + k)) ≤ 9223372036854775807 by omega)
          have hVX25 : X25 59 0 ((12 * z5) + k) = (X 79 0 ((12 * ((150 * sv) + r)) + k)) := by rw [hX25]; exact u3_s _ _ _ _ _
          have hFX25 : Frm [6000, 5700, 5800, 5900, 8500] X X25 := by rw [hX25]; exact Frm.set hFXa (show 5900 ∈ [6000, 5700, 5800, 5900, 8500] by first | exact nlm_in rfl | decide)
          refine lv_iinc (v := jI (k + 1)) (lv' := [(7, .int (jI (k + 1))), (0, .ref (ad 40 0)), (1, .int (jI sv)), (2, .int (jI r)), (3, .int (jI lane)), (4, .int (jI (((3 * r) + lane) - 3))), (5, .int (jI (X 78 0 ((150 * sv) + r)))), (6, .int (jI z5))]) hx hb dX9_rowBack_83 hl (k := 7) rfl (jI_add _ _) (by decide) rfl (fun ls hl => ?_)
          refine lv_goto (tgt := 45) hx hb dX9_rowBack_86 (by decide) ?_
          have q26 : Frm [5900] X8 Xa := Frm.tr Frm.rf (Frm.mono hGXa (by first | exact nls_of rfl | decide))
          have q27 : Frm [5900] X8 X25 := by rw [hX25]; exact Frm.set q26 (show 5900 ∈ [5900] by first | exact nlm_in rfl | decide)
          exact ih45 (k + 1) X25 _ _ _ (by omega) hRX25 q27 (by omega) (fun j a b => if hj : j = k then (by rw [hj]; exact hVX25) else (by rw [hX25, u3_j _ _ _ _ (by omega)]; exact hrb j a (by omega))) (fun p hp9 => (by rw [hX25, u3_j _ _ _ _ (by omega)]; exact hro p hp9)) hw hS (lv_sub hl [1, 2, 3, 4, 5, 6, 7, 0] rfl)
    exact lp45 (12 - 0 : Int).toNat.succ 0 X8 _ _ _ (by omega) hRX8 Frm.rf (by omega) (fun j a b => by omega) (fun p hp9 => (hnwX8.2.2.2.2.2.2 p hp9)) hw hS (lv_sub hl [4, 5, 6, 7, 3, 2, 1, 0] rfl)

set_option maxHeartbeats 4000000 in
set_option maxRecDepth 100000 in
theorem c_X9_fieldsBack (l : Launch) (D : va_G) (tc : Nat → ClassId) (base : Nat) (ad : Nat → Int → Nat) (cnt : Nat → Int) (X : Nat → Int → Int → Int) (Y : Nat → Int → Int → Option Int) (ln : Int → Int) (hR : Rng X) (hFx : Fx cnt) (hMI : MInv X) (sv r rule bs : Int) (hsv : 0 ≤ sv ∧ sv ≤ 3) (hr0 : 0 ≤ r ∧ r < X 70 0 sv) (hrule : -2147483648 ≤ rule ∧ rule ≤ 2147483647) (hbs : 0 ≤ bs) (hbt : bs + X 70 0 sv = X 40 0 13) (htt : X 55 0 (bs + r) = X 71 0 (30 * sv + r)) : KI l D tc base yX9_fieldsBack wsX9_fieldsBack ({ frames := 3, cells := 0, slots := 0, locals := 73 } : Room) [.ref (ad 40 0), .int (jI sv), .int (jI r), .int (jI rule), .int (jI bs)] (ad, cnt, X, Y, ln) 0 0 (fun z u => ∃ X1 : Nat → Int → Int → Int, u = (ad, cnt, X1, Y, ln) ∧ Rng X1 ∧ Frm [5600, 6000, 5700, 5800, 5900, 8500, 4042, 4043, 4044] X X1 ∧ MInv X1 ∧ (-20 ≤ z ∧ z ≤ 0) ∧ (∀ j, j < 5 * bs → X1 56 0 j = X 56 0 j) ∧ fEndM sv r rule bs z X X1) := by
  refine K_of (cc := cX9_fieldsBack) (maxL := 13) (ret := (some .int)) (by decide) rfl (Nat.le_of_ble_eq_true rfl) ?_
  intro p e s m below meth c ls hx hb hr hml hown hts hlocks hl hK hw hS
  have hown : s.vm.findClass RX9 = some m.cls := hown
  obtain ⟨av9, hav9⟩ : ∃ a9 : Array Value, a9 = ([.ref (ad 40 0), .int (jI sv), .int (jI r), .int (jI rule), .int (jI bs)] : List Value).toArray := ⟨_, rfl⟩
  rw [← hav9] at hts ⊢
  obtain ⟨Q9, hQ9⟩ : ∃ q9Q : State → Prop, q9Q = MQ below (QI D tc base (fun z u => ∃ X1 : Nat → Int → Int → Int, u = (ad, cnt, X1, Y, ln) ∧ Rng X1 ∧ Frm [5600, 6000, 5700, 5800, 5900, 8500, 4042, 4043, 4044] X X1 ∧ MInv X1 ∧ (-20 ≤ z ∧ z ≤ 0) ∧ (∀ j, j < 5 * bs → X1 56 0 j = X 56 0 j) ∧ fEndM sv r rule bs z X X1)) av9 s 0 0 (frA base) := ⟨_, rfl⟩
  rw [← hQ9]
  have hi9 : ∀ w ∈ wsX90, w ∈ wsX9_fieldsBack := fun w h => List.mem_cons_of_mem _ (List.mem_append_right _ h)
  have hf9 : fctx s m _ RX9 wsX9_fieldsBack D tc RX9 TX9 51 9 := ⟨hts, hi9, hown, hK.1, rfl⟩
  have lk7 := hts (.fieldLink RX9 7 (TX9 1).1 (TX9 1).2.1 (TX9 1).2.2.1) (gj_X9_fieldsBack_0 _ (gp_4 (gp_1 (gp_1 gp_h))))
  have lk20 := hts (.fieldLink RX9 20 (TX9 5).1 (TX9 5).2.1 (TX9 5).2.2.1) (gj_X9_fieldsBack_0 _ (gp_1 (gp_1 (gp_1 gp_h))))
  have lk45 := hts (.fieldLink RX9 45 (TX9 14).1 (TX9 14).2.1 (TX9 14).2.2.1) (gj_X9_fieldsBack_0 _ (gp_h))
  have lk48 := hts (.fieldLink RX9 48 (TX9 15).1 (TX9 15).2.1 (TX9 15).2.2.1) (gj_X9_fieldsBack_0 _ (gp_4 (gp_4 gp_h)))
  have lk87 := hts (.fieldLink RX9 87 (TX9 31).1 (TX9 31).2.1 (TX9 31).2.2.1) (gj_X9_fieldsBack_0 _ (gp_1 gp_h))
  have lk90 := hts (.fieldLink RX9 90 (TX9 32).1 (TX9 32).2.1 (TX9 32).2.2.1) (gj_X9_fieldsBack_0 _ (gp_1 (gp_1 gp_h)))
  have lk93 := hts (.fieldLink RX9 93 (TX9 33).1 (TX9 33).2.1 (TX9 33).2.2.1) (gj_X9_fieldsBack_0 _ (gp_4 gp_h))
  have lk96 := hts (.fieldLink RX9 96 (TX9 34).1 (TX9 34).2.1 (TX9 34).2.2.1) (gj_X9_fieldsBack_0 _ (gp_4 (gp_1 gp_h)))
  have hc40 : cnt 40 = 1 := hFx.at 40 1 (by decide)
  have hc42 : cnt 42 = 1 := hFx.at 42 1 (by decide)
  have hc46 : cnt 46 = 1 := hFx.at 46 1 (by decide)
  have hc55 : cnt 55 = 1 := hFx.at 55 1 (by decide)
  have hc56 : cnt 56 = 1 := hFx.at 56 1 (by decide)
  have hc72 : cnt 72 = 1 := hFx.at 72 1 (by decide)
  have hc73 : cnt 73 = 1 := hFx.at 73 1 (by decide)
  have hc74 : cnt 74 = 1 := hFx.at 74 1 (by decide)
  have hc75 : cnt 75 = 1 := hFx.at 75 1 (by decide)
  have hl : lv_has ls 13 [(0, .ref (ad 40 0)), (1, .int (jI sv)), (2, .int (jI r)), (3, .int (jI rule)), (4, .int (jI bs))] := hl
  have fstypes : 0 ≤ X 40 0 2 ∧ X 40 0 2 ≤ 8 := hR 40 0 2
  have fsthings : 0 ≤ X 40 0 13 ∧ X 40 0 13 ≤ 30 := hR 40 0 13
  have fsmarks : 0 ≤ X 40 0 20 ∧ X 40 0 20 ≤ 4 := hR 40 0 20
  have fsnotes : 0 ≤ X 40 0 22 ∧ X 40 0 22 ≤ 80 := hR 40 0 22
  have fsm : 0 ≤ X 70 0 sv ∧ X 70 0 sv ≤ 30 := hR 70 0 sv
  have fsf : 0 ≤ X 72 0 (30 * sv + r) ∧ X 72 0 (30 * sv + r) ≤ 5 := hR 72 0 _
  refine lv_iload hx hb dX9_fieldsBack_0 (lv_at hl 4 rfl) ?_
  refine lv_iload_n hx hb dX9_fieldsBack_2 rfl (lv_at hl 2 rfl) ?_
  refine x_iadd hx hb dX9_fieldsBack_3 ?_
  refine lv_istore (lv' := [(5, .int (jI (bs + r))), (0, .ref (ad 40 0)), (1, .int (jI sv)), (2, .int (jI r)), (3, .int (jI rule)), (4, .int (jI bs))]) hx hb dX9_fieldsBack_4 hl (by decide) rfl (fun ls hl => ?_)
  refine lv_aload_n hx hb dX9_fieldsBack_6 rfl (lv_at hl 1 rfl) ?_
  refine x_geto hx hb hf9 hw (by first | exact Int.le_refl 0 | omega) (by first | exact zlt hc40 | omega) sl_40_14 lk45 dX9_fieldsBack_7 ?_
  refine lv_iload hx hb dX9_fieldsBack_10 (lv_at hl 0 rfl) ?_
  refine x_iald hx hb hK.1 hw (by first | exact Int.le_refl 0 | omega) (by first | exact zlt hc55 | omega) ar_55 (len_E ar_55 (by first | exact Nat.ne_of_beq_eq_false rfl | decide)) (by omega) (by omega) (by omega) dX9_fieldsBack_12 ?_
  have f1 : 0 ≤ X 55 0 (bs + r) ∧ X 55 0 (bs + r) ≤ 7 := hR 55 0 (bs + r)
  refine lv_istore (lv' := [(6, .int (jI (X 55 0 (bs + r)))), (5, .int (jI (bs + r))), (0, .ref (ad 40 0)), (1, .int (jI sv)), (2, .int (jI r)), (3, .int (jI rule)), (4, .int (jI bs))]) hx hb dX9_fieldsBack_13 hl (by decide) rfl (fun ls hl => ?_)
  refine lv_iconst (v := jI 0) hx hb dX9_fieldsBack_15 rfl ?_
  refine lv_istore (lv' := [(7, .int (jI 0)), (6, .int (jI (X 55 0 (bs + r)))), (5, .int (jI (bs + r))), (0, .ref (ad 40 0)), (1, .int (jI sv)), (2, .int (jI r)), (3, .int (jI rule)), (4, .int (jI bs))]) hx hb dX9_fieldsBack_16 hl (by decide) rfl (fun ls hl => ?_)
  have lp18 : ∀ (nn : Nat) (k : Int) (Xa : Nat → Int → Int → Int) (H : Heap) (locs : List Loc) (ls : Array Slot), (5 - k) < (nn : Int) → (Rng Xa) → (Frm [5600, 6000, 5700, 5800, 5900, 8500] X Xa) → (0 ≤ k ∧ k ≤ 5) → (MInv Xa) → (∀ j, j < 5 * bs → Xa 56 0 j = X 56 0 j) → (fTrM sv r rule bs k.toNat X Xa) → (k ≤ X 72 0 (30 * sv + r)) → wd D tc base (ad, cnt, Xa, Y, ln) H → va_S (frA base) s.heap H locs → lv_has ls 13 [(0, .ref (ad 40 0)), (1, .int (jI sv)), (2, .int (jI r)), (3, .int (jI rule)), (4, .int (jI bs)), (5, .int (jI (bs + r))), (6, .int (jI (X 55 0 (bs + r)))), (7, .int (jI k))] → W p l e ({ frames := 3, cells := 0, slots := 0, locals := 73 } : Room) s m av9 below meth c H locs 0 0 Q9 (F0 m 18 ls []) := by
    intro nn
    induction nn with
    | zero => intro k Xa H locs ls hm hRXa hGXa hk hMIXa hlo hTr hkf hw hS hl; exfalso; omega
    | succ nn ih18 =>
      intro k Xa H locs ls hm hRXa hGXa hk hMIXa hlo hTr hkf hw hS hl
      have hFXa : Frm [5600, 6000, 5700, 5800, 5900, 8500, 4042, 4043, 4044] X Xa := Frm.tr Frm.rf (Frm.mono hGXa (by first | exact nls_of rfl | decide))
      have q2 : Frm [5600, 5700, 5800, 5900, 6000, 8500] X Xa := Frm.tr Frm.rf (Frm.mono hGXa (by first | exact nls_of rfl | decide))
      have hst := stM_eq q2 (by decide)
      refine lv_iload hx hb dX9_fieldsBack_18 (lv_at hl 7 rfl) ?_
      refine lv_aload_n hx hb dX9_fieldsBack_20 rfl (lv_at hl 0 rfl) ?_
      refine x_geto hx hb hf9 hw (by first | exact Int.le_refl 0 | omega) (by first | exact zlt hc40 | omega) sl_40_31 lk87 dX9_fieldsBack_21 ?_
      refine lv_bipush (v := jI 30) hx hb dX9_fieldsBack_24 (by decide) ?_
      refine lv_iload_n hx hb dX9_fieldsBack_26 rfl (lv_at hl 1 rfl) ?_
      refine x_imul hx hb dX9_fieldsBack_27 ?_
      refine lv_iload_n hx hb dX9_fieldsBack_28 rfl (lv_at hl 2 rfl) ?_
      refine x_iadd hx hb dX9_fieldsBack_29 ?_
      refine x_iald hx hb hK.1 hw (by first | exact Int.le_refl 0 | omega) (by first | exact zlt hc72 | omega) ar_72 (len_E ar_72 (by first | exact Nat.ne_of_beq_eq_false rfl | decide)) (by omega) (by omega) (by omega) dX9_fieldsBack_30 ?_
      have e3 : ∀ p9 q9 : Int, Xa 72 p9 q9 = X 72 p9 q9 := fun p9 q9 => by rw [hGXa 72 p9 q9 (show 7200 ∉ [5600, 6000, 5700, 5800, 5900, 8500] by first | exact nlm_ni rfl | decide)]
      rw [e3 0 ((30 * sv) + r)]
      have f4 : 0 ≤ X 72 0 ((30 * sv) + r) ∧ X 72 0 ((30 * sv) + r) ≤ 5 := hR 72 0 ((30 * sv) + r)
      refine x_icmp_ge (tgt := 256) hx hb (by omega) (by omega) dX9_fieldsBack_31 (by decide) (fun c5 => ?_) (fun c5 => ?_)
      · refine lv_iconst (v := jI 0) hx hb dX9_fieldsBack_256 rfl ?_
        rw [hQ9]
        refine ret_i (mc := 0) (ms := 0) hx hb hr hlocks hw hS (by first | exact Nat.le_of_ble_eq_true rfl | omega) (by first | exact Nat.le_of_ble_eq_true rfl | omega) dX9_fieldsBack_257 ?_
        exact ⟨Xa, rfl, hRXa, hFXa, hMIXa, by omega, fun j hj => (by exact hlo j hj), Or.inl ⟨rfl, (by rw [show X 72 0 (30 * sv + r) = k by omega]; exact hTr)⟩⟩
      · refine lv_iconst (v := jI 5) hx hb dX9_fieldsBack_34 rfl ?_
        refine lv_bipush (v := jI 30) hx hb dX9_fieldsBack_35 (by decide) ?_
        refine lv_iload_n hx hb dX9_fieldsBack_37 rfl (lv_at hl 1 rfl) ?_
        refine x_imul hx hb dX9_fieldsBack_38 ?_
        refine lv_iload_n hx hb dX9_fieldsBack_39 rfl (lv_at hl 2 rfl) ?_
        refine x_iadd hx hb dX9_fieldsBack_40 ?_
        refine x_imul hx hb dX9_fieldsBack_41 ?_
        refine lv_iload hx hb dX9_fieldsBack_42 (lv_at hl 7 rfl) ?_
        refine x_iadd hx hb dX9_fieldsBack_44 ?_
        refine lv_istore (lv' := [(8, .int (jI ((5 * ((30 * sv) + r)) + k))), (0, .ref (ad 40 0)), (1, .int (jI sv)), (2, .int (jI r)), (3, .int (jI rule)), (4, .int (jI bs)), (5, .int (jI (bs + r))), (6, .int (jI (X 55 0 (bs + r)))), (7, .int (jI k))]) hx hb dX9_fieldsBack_45 hl (by decide) rfl (fun ls hl => ?_)
        refine lv_aload_n hx hb dX9_fieldsBack_47 rfl (lv_at hl 1 rfl) ?_
        refine lv_iload hx hb dX9_fieldsBack_48 (lv_at hl 7 rfl) ?_
        refine lv_aload_n hx hb dX9_fieldsBack_50 rfl (lv_at hl 1 rfl) ?_
        refine x_geto hx hb hf9 hw (by first | exact Int.le_refl 0 | omega) (by first | exact zlt hc40 | omega) sl_40_32 lk90 dX9_fieldsBack_51 ?_
        refine lv_iload hx hb dX9_fieldsBack_54 (lv_at hl 0 rfl) ?_
        refine x_iald hx hb hK.1 hw (by first | exact Int.le_refl 0 | omega) (by first | exact zlt hc73 | omega) ar_73 (len_E ar_73 (by first | exact Nat.ne_of_beq_eq_false rfl | decide)) (by omega) (by omega) (by omega) dX9_fieldsBack_56 ?_
        have e6 : ∀ p9 q9 : Int, Xa 73 p9 q9 = X 73 p9 q9 := fun p9 q9 => by rw [hGXa 73 p9 q9 (show 7300 ∉ [5600, 6000, 5700, 5800, 5900, 8500] by first | exact nlm_ni rfl | decide)]
        rw [e6 0 ((5 * ((30 * sv) + r)) + k)]
        have f7 : 0 ≤ X 73 0 ((5 * ((30 * sv) + r)) + k) ∧ X 73 0 ((5 * ((30 * sv) + r)) + k) ≤ 19 := hR 73 0 ((5 * ((30 * sv) + r)) + k)
        refine gos_i (run_V (As := [.int (jI (X 55 0 (bs + r))), .int (jI (X 73 0 ((5 * ((30 * sv) + r)) + k)))]) (rest := []) hx hb hml hown hts (c_X9_named l D tc base ad cnt Xa Y ln hRXa hFx (X 55 0 (bs + r)) (X 73 0 ((5 * ((30 * sv) + r)) + k)) (by omega) (by omega)) (cwV 2 hts gX9_fieldsBack_X9_named rfl rfl rfl (by first | exact hd_X9_named | decide +kernel) ⟨Nat.le_of_ble_eq_true rfl, Nat.le_of_ble_eq_true rfl⟩) hK hw (by first | exact Int.le_refl 0 | omega) (by first | exact zlt hc40 | omega) sl_40_0 rfl rfl hl.1 rfl (Nat.le_of_ble_eq_true rfl) dX9_fieldsBack_57 ⟨Nat.le_of_ble_eq_true rfl, Nat.le_of_ble_eq_true rfl⟩) hS (fun z8 u9 H locs p10 hw hS => ?_)
        obtain ⟨eu9, p10⟩ := p10
        subst eu9
        have e11 : ∀ j : Int, Xa 44 0 j = X 44 0 j := fun j => by rw [hGXa 44 0 j (show 4400 ∉ [5600, 6000, 5700, 5800, 5900, 8500] by first | exact nlm_ni rfl | decide)]
        have e12 : ∀ j : Int, Xa 45 0 j = X 45 0 j := fun j => by rw [hGXa 45 0 j (show 4500 ∉ [5600, 6000, 5700, 5800, 5900, 8500] by first | exact nlm_ni rfl | decide)]
        simp only [e11, e12] at p10
        refine lv_istore (lv' := [(9, .int (jI z8)), (8, .int (jI ((5 * ((30 * sv) + r)) + k))), (0, .ref (ad 40 0)), (1, .int (jI sv)), (2, .int (jI r)), (3, .int (jI rule)), (4, .int (jI bs)), (5, .int (jI (bs + r))), (6, .int (jI (X 55 0 (bs + r)))), (7, .int (jI k))]) hx hb dX9_fieldsBack_60 hl (by decide) rfl (fun ls hl => ?_)
        refine lv_iload hx hb dX9_fieldsBack_62 (lv_at hl 0 rfl) ?_
        refine x_if_ge (tgt := 89) hx hb (by omega) dX9_fieldsBack_64 (by decide) (fun c13 => ?_) (fun c13 => ?_)
        · refine lv_aload_n hx hb dX9_fieldsBack_89 rfl (lv_at hl 2 rfl) ?_
          refine x_geto hx hb hf9 hw (by first | exact Int.le_refl 0 | omega) (by first | exact zlt hc40 | omega) sl_40_5 lk20 dX9_fieldsBack_90 ?_
          refine lv_iconst (v := jI 5) hx hb dX9_fieldsBack_93 rfl ?_
          refine lv_iload hx hb dX9_fieldsBack_94 (lv_at hl 8 rfl) ?_
          refine x_imul hx hb dX9_fieldsBack_96 ?_
          refine lv_iload hx hb dX9_fieldsBack_97 (lv_at hl 0 rfl) ?_
          refine x_iadd hx hb dX9_fieldsBack_99 ?_
          refine x_iald hx hb hK.1 hw (by first | exact Int.le_refl 0 | omega) (by first | exact zlt hc46 | omega) ar_46 (len_E ar_46 (by first | exact Nat.ne_of_beq_eq_false rfl | decide)) (by omega) (by omega) (by omega) dX9_fieldsBack_100 ?_
          have e14 : ∀ p9 q9 : Int, Xa 46 p9 q9 = X 46 p9 q9 := fun p9 q9 => by rw [hGXa 46 p9 q9 (show 4600 ∉ [5600, 6000, 5700, 5800, 5900, 8500] by first | exact nlm_ni rfl | decide)]
          rw [e14 0 ((5 * (X 55 0 (bs + r))) + z8)]
          have f15 : 0 ≤ X 46 0 ((5 * (X 55 0 (bs + r))) + z8) ∧ X 46 0 ((5 * (X 55 0 (bs + r))) + z8) ≤ 5 := hR 46 0 ((5 * (X 55 0 (bs + r))) + z8)
          refine lv_istore (lv' := [(10, .int (jI (X 46 0 ((5 * (X 55 0 (bs + r))) + z8)))), (9, .int (jI z8)), (8, .int (jI ((5 * ((30 * sv) + r)) + k))), (0, .ref (ad 40 0)), (1, .int (jI sv)), (2, .int (jI r)), (3, .int (jI rule)), (4, .int (jI bs)), (5, .int (jI (bs + r))), (6, .int (jI (X 55 0 (bs + r)))), (7, .int (jI k))]) hx hb dX9_fieldsBack_101 hl (by decide) rfl (fun ls hl => ?_)
          refine lv_aload_n hx hb dX9_fieldsBack_103 rfl (lv_at hl 3 rfl) ?_
          refine x_geto hx hb hf9 hw (by first | exact Int.le_refl 0 | omega) (by first | exact zlt hc40 | omega) sl_40_33 lk93 dX9_fieldsBack_104 ?_
          refine lv_iload hx hb dX9_fieldsBack_107 (lv_at hl 2 rfl) ?_
          refine x_iald hx hb hK.1 hw (by first | exact Int.le_refl 0 | omega) (by first | exact zlt hc74 | omega) ar_74 (len_E ar_74 (by first | exact Nat.ne_of_beq_eq_false rfl | decide)) (by omega) (by omega) (by omega) dX9_fieldsBack_109 ?_
          have e16 : ∀ p9 q9 : Int, Xa 74 p9 q9 = X 74 p9 q9 := fun p9 q9 => by rw [hGXa 74 p9 q9 (show 7400 ∉ [5600, 6000, 5700, 5800, 5900, 8500] by first | exact nlm_ni rfl | decide)]
          rw [e16 0 ((5 * ((30 * sv) + r)) + k)]
          have f17 : 0 ≤ X 74 0 ((5 * ((30 * sv) + r)) + k) ∧ X 74 0 ((5 * ((30 * sv) + r)) + k) ≤ 5 := hR 74 0 ((5 * ((30 * sv) + r)) + k)
          refine lv_iload hx hb dX9_fieldsBack_110 (lv_at hl 0 rfl) ?_
          refine gos_i (run_S (As := [.int (jI (X 74 0 ((5 * ((30 * sv) + r)) + k))), .int (jI (X 46 0 ((5 * (X 55 0 (bs + r))) + z8)))]) (rest := []) hx hb hml hown hts (c_X9_goes l D tc base ad cnt Xa Y ln (X 74 0 ((5 * ((30 * sv) + r)) + k)) (X 46 0 ((5 * (X 55 0 (bs + r))) + z8)) (by omega) (by omega)) (cwS 2 hts gX9_fieldsBack_X9_goes rfl rfl rfl (by first | exact hd_X9_goes | decide +kernel) ⟨Nat.le_of_ble_eq_true rfl, Nat.le_of_ble_eq_true rfl⟩) hK hw rfl hl.1 rfl (Nat.le_of_ble_eq_true rfl) dX9_fieldsBack_112 ⟨Nat.le_of_ble_eq_true rfl, Nat.le_of_ble_eq_true rfl⟩) hS (fun z18 u19 H locs p20 hw hS => ?_)
          obtain ⟨eu19, p20⟩ := p20
          subst eu19
          rcases p20 with ⟨ez18, p20⟩ | ⟨ez18, p20⟩
          · subst ez18
            refine x_if_neT (tgt := 134) hx hb (by omega) (by decide) dX9_fieldsBack_115 (by decide) ?_
            refine lv_aload_n hx hb dX9_fieldsBack_134 rfl (lv_at hl 3 rfl) ?_
            refine x_geto hx hb hf9 hw (by first | exact Int.le_refl 0 | omega) (by first | exact zlt hc40 | omega) sl_40_34 lk96 dX9_fieldsBack_135 ?_
            refine lv_iload hx hb dX9_fieldsBack_138 (lv_at hl 2 rfl) ?_
            obtain ⟨hv1, hv2, hv3⟩ := (hMI.2.2.1 sv r (by omega) (by omega) (by omega) (by omega)).2 k (by omega) (by omega)
            refine x_lald hx hb hK.1 hw (by first | exact Int.le_refl 0 | omega) (by first | exact zlt hc75 | omega) ar_75 (len_E ar_75 (by first | exact Nat.ne_of_beq_eq_false rfl | decide)) (by omega) (by omega) (by omega) dX9_fieldsBack_140 ?_
            have e21 : ∀ p9 q9 : Int, Xa 75 p9 q9 = X 75 p9 q9 := fun p9 q9 => by rw [hGXa 75 p9 q9 (show 7500 ∉ [5600, 6000, 5700, 5800, 5900, 8500] by first | exact nlm_ni rfl | decide)]
            rw [e21 0 ((5 * ((30 * sv) + r)) + k)]
            have f22 : (-9223372036854775808) ≤ X 75 0 ((5 * ((30 * sv) + r)) + k) ∧ X 75 0 ((5 * ((30 * sv) + r)) + k) ≤ 9223372036854775807 := hR 75 0 ((5 * ((30 * sv) + r)) + k)
            refine lv_lstore (lv' := [(11, .long (jL (X 75 0 ((5 * ((30 * sv) + r)) + k)))), (10, .int (jI (X 46 0 ((5 * (X 55 0 (bs + r))) + z8)))), (9, .int (jI z8)), (8, .int (jI ((5 * ((30 * sv) + r)) + k))), (0, .ref (ad 40 0)), (1, .int (jI sv)), (2, .int (jI r)), (3, .int (jI rule)), (4, .int (jI bs)), (5, .int (jI (bs + r))), (6, .int (jI (X 55 0 (bs + r)))), (7, .int (jI k))]) hx hb dX9_fieldsBack_141 hl (by decide) rfl (fun ls hl => ?_)
            refine lv_iload hx hb dX9_fieldsBack_143 (lv_at hl 1 rfl) ?_
            refine lv_iconst (v := jI 1) hx hb dX9_fieldsBack_145 rfl ?_
            refine x_icmp_ne (tgt := 194) hx hb (by omega) (by omega) dX9_fieldsBack_146 (by decide) (fun c23 => ?_) (fun c23 => ?_)
            · refine lv_aload_n hx hb dX9_fieldsBack_194 rfl (lv_at hl 4 rfl) ?_
              refine x_geto hx hb hf9 hw (by first | exact Int.le_refl 0 | omega) (by first | exact zlt hc40 | omega) sl_40_15 lk48 dX9_fieldsBack_195 ?_
              refine lv_iconst (v := jI 5) hx hb dX9_fieldsBack_198 rfl ?_
              refine lv_iload hx hb dX9_fieldsBack_199 (lv_at hl 9 rfl) ?_
              refine x_imul hx hb dX9_fieldsBack_201 ?_
              refine lv_iload hx hb dX9_fieldsBack_202 (lv_at hl 2 rfl) ?_
              refine x_iadd hx hb dX9_fieldsBack_204 ?_
              refine lv_iload hx hb dX9_fieldsBack_205 (lv_at hl 1 rfl) ?_
              refine lv_iconst (v := jI 2) hx hb dX9_fieldsBack_207 rfl ?_
              refine x_icmp_lt (tgt := 218) hx hb (by omega) (by omega) dX9_fieldsBack_208 (by decide) (fun c24 => ?_) (fun c24 => ?_)
              · refine lv_lload hx hb dX9_fieldsBack_218 (lv_at hl 0 rfl) ?_
                refine lv_goto (tgt := 249) hx hb dX9_fieldsBack_220 (by decide) ?_
                refine x_last hx hb hK.1 hw hS (by first | exact Int.le_refl 0 | omega) (by first | exact zlt hc56 | omega) ar_56 (len_E ar_56 (by first | exact Nat.ne_of_beq_eq_false rfl | decide)) (by omega) (by omega) (by omega) dX9_fieldsBack_249 (fun H locs hw hS => ?_)
                obtain ⟨X25, hX25⟩ : ∃ Xq, Xq = u3 Xa 56 0 ((5 * (bs + r)) + z8) (X 75 0 ((5 * ((30 * sv) + r)) + k)) := ⟨_, rfl⟩
                rw [← hX25] at hw
                have hRX25 : Rng X25 := by rw [hX25]; exact rng_set hRXa (show (-9223372036854775808) ≤ (X 75 0 ((5 * ((30 * sv) + r)) + k)) ∧ (X 75 0 ((5 * ((30 * sv) + r)) + k)) ≤ 9223372036854775807 by omega)
                have hVX25 : X25 56 0 ((5 * (bs + r)) + z8) = (X 75 0 ((5 * ((30 * sv) + r)) + k)) := by rw [hX25]; exact u3_s _ _ _ _ _
                have hFX25 : Frm [5600, 6000, 5700, 5800, 5900, 8500, 4042, 4043, 4044] X X25 := by rw [hX25]; exact Frm.set hFXa (show 5600 ∈ [5600, 6000, 5700, 5800, 5900, 8500, 4042, 4043, 4044] by first | exact nlm_in rfl | decide)
                refine lv_iinc (v := jI (k + 1)) (lv' := [(7, .int (jI (k + 1))), (11, .long (jL (X 75 0 ((5 * ((30 * sv) + r)) + k)))), (10, .int (jI (X 46 0 ((5 * (X 55 0 (bs + r))) + z8)))), (9, .int (jI z8)), (8, .int (jI ((5 * ((30 * sv) + r)) + k))), (0, .ref (ad 40 0)), (1, .int (jI sv)), (2, .int (jI r)), (3, .int (jI rule)), (4, .int (jI bs)), (5, .int (jI (bs + r))), (6, .int (jI (X 55 0 (bs + r))))]) hx hb dX9_fieldsBack_250 hl (k := 11) rfl (jI_add _ _) (by decide) rfl (fun ls hl => ?_)
                refine lv_goto (tgt := 18) hx hb dX9_fieldsBack_253 (by decide) ?_
                have q26 : Frm [5600, 6000, 5700, 5800, 5900, 8500] X Xa := Frm.tr Frm.rf (Frm.mono hGXa (by first | exact nls_of rfl | decide))
                have q27 : Frm [5600, 6000, 5700, 5800, 5900, 8500] X X25 := by rw [hX25]; exact Frm.set q26 (show 5600 ∈ [5600, 6000, 5700, 5800, 5900, 8500] by first | exact nlm_in rfl | decide)
                have e28 : Xa 40 0 13 = X 40 0 13 := by rw [hGXa 40 0 13 (show 4014 ∉ [5600, 6000, 5700, 5800, 5900, 8500] by first | exact nlm_ni rfl | decide)]
                have e29 : ∀ j : Int, Xa 44 0 j = X 44 0 j := fun j => by rw [hGXa 44 0 j (show 4400 ∉ [5600, 6000, 5700, 5800, 5900, 8500] by first | exact nlm_ni rfl | decide)]
                have e30 : ∀ j : Int, Xa 55 0 j = X 55 0 j := fun j => by rw [hGXa 55 0 j (show 5500 ∉ [5600, 6000, 5700, 5800, 5900, 8500] by first | exact nlm_ni rfl | decide)]
                have e31 : ∀ j : Int, Xa 46 0 j = X 46 0 j := fun j => by rw [hGXa 46 0 j (show 4600 ∉ [5600, 6000, 5700, 5800, 5900, 8500] by first | exact nlm_ni rfl | decide)]
                have ht32o : toM X sv r k = z8 := by unfold toM; rw [← htt]; exact (p10.2.2.2).symm
                have ht32l : tlM X sv r k = X 46 0 (5 * X 55 0 (bs + r) + z8) := by unfold tlM; rw [ht32o, ← htt]
                have htw33 : twM Xa sv r k = (X 75 0 ((5 * ((30 * sv) + r)) + k)) := (by rw [hst.2.2.2.1]; unfold twM tvM; rw [ht32l]; split <;> omega)
                exact ih18 (k + 1) X25 _ _ _ (by omega) hRX25 q27 (by omega) (by rw [hX25]; exact minv_xval hMIXa hRXa (by omega) (by simp only [e28, e29, e30, e31]; omega) (by omega) (by simp only [e28, e29, e30, e31]; omega) (by unfold tyv; simp only [e28, e29, e30, e31]; exact ⟨fun _ => by omega, fun _ => by omega, fun _ => by omega⟩)) (fun j hj => (by rw [hX25, u3_j _ _ _ _ (by omega)]; exact hlo j hj)) (fTrM.push hTr (by omega) (by rw [hst.2.2.2.2]; exact (by unfold fvM; rw [ht32o, ht32l]; exact fvF_0 (by omega) (by (try delta Hid at *); omega) (by unfold tvM andZ; omega))) (Or.inr (Or.inl ⟨(by rw [hst.1, ht32o]; omega), (by rw [hst.2.1, ht32l, htw33]; omega), (by rw [htw33, hst.1, ht32o]; exact hX25)⟩))) (by omega) hw hS (lv_sub hl [5, 6, 7, 8, 9, 10, 11, 0] rfl)
              · refine lv_lload hx hb dX9_fieldsBack_211 (lv_at hl 0 rfl) ?_
                refine lv_lconst (v := jL 0) hx hb dX9_fieldsBack_213 (by decide) ?_
                refine x_lcmp hx hb (by omega) (by omega) dX9_fieldsBack_214 ?_
                obtain ⟨z34, ez34⟩ : ∃ y : Int, y = cmpZ (X 75 0 ((5 * ((30 * sv) + r)) + k)) 0 := ⟨_, rfl⟩
                rw [← ez34]
                have gz34 : (z34 < 0 ↔ ((X 75 0 ((5 * ((30 * sv) + r)) + k)) : Int) < 0) ∧ (z34 = 0 ↔ ((X 75 0 ((5 * ((30 * sv) + r)) + k)) : Int) = 0) ∧ -1 ≤ z34 ∧ z34 ≤ 1 := by rw [ez34]; exact ⟨cmpZ_lt, cmpZ_eq, (cmpZ_r _ _).1, (cmpZ_r _ _).2⟩
                clear ez34
                refine x_if_ge (tgt := 223) hx hb (by omega) dX9_fieldsBack_215 (by decide) (fun c35 => ?_) (fun c35 => ?_)
                · replace c35 := cz_geT gz34 c35
                  clear gz34
                  refine lv_iload hx hb dX9_fieldsBack_223 (lv_at hl 1 rfl) ?_
                  refine lv_iconst (v := jI 2) hx hb dX9_fieldsBack_225 rfl ?_
                  refine x_icmp_ne (tgt := 238) hx hb (by omega) (by omega) dX9_fieldsBack_226 (by decide) (fun c36 => ?_) (fun c36 => ?_)
                  · refine lv_aload_n hx hb dX9_fieldsBack_238 rfl (lv_at hl 4 rfl) ?_
                    refine lv_iload_n hx hb dX9_fieldsBack_239 rfl (lv_at hl 5 rfl) ?_
                    refine lv_lload hx hb dX9_fieldsBack_240 (lv_at hl 0 rfl) ?_
                    refine x_l2i hx hb dX9_fieldsBack_242 ?_
                    refine lv_iload hx hb dX9_fieldsBack_243 (lv_at hl 1 rfl) ?_
                    refine gos_i (run_V (As := [.int (jI sv), .int (jI (X 75 0 ((5 * ((30 * sv) + r)) + k))), .int (jI (X 46 0 ((5 * (X 55 0 (bs + r))) + z8)))]) (rest := [.int (jI ((5 * (bs + r)) + z8)), .ref (ad 56 0)]) hx hb hml hown hts (c_X9_rowBack l D tc base ad cnt Xa Y ln hRXa hFx hMIXa sv (X 75 0 ((5 * ((30 * sv) + r)) + k)) (X 46 0 ((5 * (X 55 0 (bs + r))) + z8)) (by omega) (by omega) (by omega)) (cwV 3 hts gX9_fieldsBack_X9_rowBack rfl rfl rfl (by first | exact hd_X9_rowBack | decide +kernel) ⟨Nat.le_of_ble_eq_true rfl, Nat.le_of_ble_eq_true rfl⟩) hK hw (by first | exact Int.le_refl 0 | omega) (by first | exact zlt hc40 | omega) sl_40_0 rfl rfl hl.1 rfl (Nat.le_of_ble_eq_true rfl) dX9_fieldsBack_245 ⟨Nat.le_of_ble_eq_true rfl, Nat.le_of_ble_eq_true rfl⟩) hS (fun z37 u38 H locs p39 hw hS => ?_)
                    obtain ⟨X40, eu38, hRX40, hG41, hMIX40, p39, hrbkX40⟩ := p39
                    subst eu38
                    have hFX40 : Frm [5600, 6000, 5700, 5800, 5900, 8500, 4042, 4043, 4044] X X40 := Frm.tr hFXa (Frm.mono hG41 (by first | exact nls_of rfl | decide))
                    refine x_i2l hx hb (by omega) dX9_fieldsBack_248 ?_
                    refine x_last hx hb hK.1 hw hS (by first | exact Int.le_refl 0 | omega) (by first | exact zlt hc56 | omega) ar_56 (len_E ar_56 (by first | exact Nat.ne_of_beq_eq_false rfl | decide)) (by omega) (by omega) (by omega) dX9_fieldsBack_249 (fun H locs hw hS => ?_)
                    obtain ⟨X42, hX42⟩ : ∃ Xq, Xq = u3 X40 56 0 ((5 * (bs + r)) + z8) z37 := ⟨_, rfl⟩
                    rw [← hX42] at hw
                    have hRX42 : Rng X42 := by rw [hX42]; exact rng_set hRX40 (show (-9223372036854775808) ≤ z37 ∧ z37 ≤ 9223372036854775807 by omega)
                    have hVX42 : X42 56 0 ((5 * (bs + r)) + z8) = z37 := by rw [hX42]; exact u3_s _ _ _ _ _
                    have hFX42 : Frm [5600, 6000, 5700, 5800, 5900, 8500, 4042, 4043, 4044] X X42 := by rw [hX42]; exact Frm.set hFX40 (show 5600 ∈ [5600, 6000, 5700, 5800, 5900, 8500, 4042, 4043, 4044] by first | exact nlm_in rfl | decide)
                    refine lv_iinc (v := jI (k + 1)) (lv' := [(7, .int (jI (k + 1))), (11, .long (jL (X 75 0 ((5 * ((30 * sv) + r)) + k)))), (10, .int (jI (X 46 0 ((5 * (X 55 0 (bs + r))) + z8)))), (9, .int (jI z8)), (8, .int (jI ((5 * ((30 * sv) + r)) + k))), (0, .ref (ad 40 0)), (1, .int (jI sv)), (2, .int (jI r)), (3, .int (jI rule)), (4, .int (jI bs)), (5, .int (jI (bs + r))), (6, .int (jI (X 55 0 (bs + r))))]) hx hb dX9_fieldsBack_250 hl (k := 11) rfl (jI_add _ _) (by decide) rfl (fun ls hl => ?_)
                    refine lv_goto (tgt := 18) hx hb dX9_fieldsBack_253 (by decide) ?_
                    have q43 : Frm [5600, 6000, 5700, 5800, 5900, 8500] X Xa := Frm.tr Frm.rf (Frm.mono hGXa (by first | exact nls_of rfl | decide))
                    have q44 : Frm [5600, 6000, 5700, 5800, 5900, 8500] X X40 := Frm.tr q43 (Frm.mono hG41 (by first | exact nls_of rfl | decide))
                    have q45 : Frm [5600, 6000, 5700, 5800, 5900, 8500] X X42 := by rw [hX42]; exact Frm.set q44 (show 5600 ∈ [5600, 6000, 5700, 5800, 5900, 8500] by first | exact nlm_in rfl | decide)
                    have e46 : X40 40 0 13 = X 40 0 13 := by rw [hG41 40 0 13 (show 4014 ∉ [6000, 5700, 5800, 5900, 8500] by first | exact nlm_ni rfl | decide), hGXa 40 0 13 (show 4014 ∉ [5600, 6000, 5700, 5800, 5900, 8500] by first | exact nlm_ni rfl | decide)]
                    have e47 : ∀ j : Int, X40 44 0 j = X 44 0 j := fun j => by rw [hG41 44 0 j (show 4400 ∉ [6000, 5700, 5800, 5900, 8500] by first | exact nlm_ni rfl | decide), hGXa 44 0 j (show 4400 ∉ [5600, 6000, 5700, 5800, 5900, 8500] by first | exact nlm_ni rfl | decide)]
                    have e48 : ∀ j : Int, X40 55 0 j = X 55 0 j := fun j => by rw [hG41 55 0 j (show 5500 ∉ [6000, 5700, 5800, 5900, 8500] by first | exact nlm_ni rfl | decide), hGXa 55 0 j (show 5500 ∉ [5600, 6000, 5700, 5800, 5900, 8500] by first | exact nlm_ni rfl | decide)]
                    have e49 : ∀ j : Int, X40 46 0 j = X 46 0 j := fun j => by rw [hG41 46 0 j (show 4600 ∉ [6000, 5700, 5800, 5900, 8500] by first | exact nlm_ni rfl | decide), hGXa 46 0 j (show 4600 ∉ [5600, 6000, 5700, 5800, 5900, 8500] by first | exact nlm_ni rfl | decide)]
                    have ht50o : toM X sv r k = z8 := by unfold toM; rw [← htt]; exact (p10.2.2.2).symm
                    have ht50l : tlM X sv r k = X 46 0 (5 * X 55 0 (bs + r) + z8) := by unfold tlM; rw [ht50o, ← htt]
                    have htw51 : twM Xa sv r k = X 75 0 (5 * (30 * sv + r) + k) := (by rw [hst.2.2.2.1]; unfold twM tvM; rw [ht50l]; split <;> omega)
                    exact ih18 (k + 1) X42 _ _ _ (by omega) hRX42 q45 (by omega) (by rw [hX42]; exact minv_xval hMIX40 hRX40 (by omega) (by simp only [e46, e47, e48, e49]; omega) (by omega) (by simp only [e46, e47, e48, e49]; omega) (by unfold tyv; simp only [e46, e47, e48, e49]; exact ⟨fun _ => by omega, fun _ => by omega, fun _ => by omega⟩)) (fun j hj => (by rw [hX42, u3_j _ _ _ _ (by omega), hG41 56 0 j (show 5600 ∉ [6000, 5700, 5800, 5900, 8500] by first | exact nlm_ni rfl | decide)]; exact hlo j hj)) ((by first | exact fTrM.push hTr (by omega) (by rw [hst.2.2.2.2]; exact (by unfold fvM; rw [ht50o, ht50l]; exact fvF_0 (by omega) (by (try delta Hid at *); omega) (by unfold tvM andZ; omega))) (Or.inr (Or.inr (Or.inr ⟨(by rw [hst.1, ht50o]; omega), (by rw [hst.2.1, ht50l]; omega), (by rw [htw51]; omega), X40, z37, (by rw [htw51, hst.2.1, ht50l]; exact hrbkX40), (by rw [hst.1, ht50o]; exact hX42)⟩))) | (exfalso; omega))) (by omega) hw hS (lv_sub hl [5, 6, 7, 8, 9, 10, 11, 0] rfl)
                  · refine lv_iload hx hb dX9_fieldsBack_229 (lv_at hl 8 rfl) ?_
                    refine x_i2l hx hb (by omega) dX9_fieldsBack_231 ?_
                    refine lv_lload hx hb dX9_fieldsBack_232 (lv_at hl 0 rfl) ?_
                    refine x_ladd hx hb dX9_fieldsBack_234 ?_
                    refine lv_goto (tgt := 249) hx hb dX9_fieldsBack_235 (by decide) ?_
                    refine x_last hx hb hK.1 hw hS (by first | exact Int.le_refl 0 | omega) (by first | exact zlt hc56 | omega) ar_56 (len_E ar_56 (by first | exact Nat.ne_of_beq_eq_false rfl | decide)) (by omega) (by omega) (by omega) dX9_fieldsBack_249 (fun H locs hw hS => ?_)
                    obtain ⟨X52, hX52⟩ : ∃ Xq, Xq = u3 Xa 56 0 ((5 * (bs + r)) + z8) (bs + (X 75 0 ((5 * ((30 * sv) + r)) + k))) := ⟨_, rfl⟩
                    rw [← hX52] at hw
                    have hRX52 : Rng X52 := by rw [hX52]; exact rng_set hRXa (show (-9223372036854775808) ≤ (bs + (X 75 0 ((5 * ((30 * sv) + r)) + k))) ∧ (bs + (X 75 0 ((5 * ((30 * sv) + r)) + k))) ≤ 9223372036854775807 by omega)
                    have hVX52 : X52 56 0 ((5 * (bs + r)) + z8) = (bs + (X 75 0 ((5 * ((30 * sv) + r)) + k))) := by rw [hX52]; exact u3_s _ _ _ _ _
                    have hFX52 : Frm [5600, 6000, 5700, 5800, 5900, 8500, 4042, 4043, 4044] X X52 := by rw [hX52]; exact Frm.set hFXa (show 5600 ∈ [5600, 6000, 5700, 5800, 5900, 8500, 4042, 4043, 4044] by first | exact nlm_in rfl | decide)
                    refine lv_iinc (v := jI (k + 1)) (lv' := [(7, .int (jI (k + 1))), (11, .long (jL (X 75 0 ((5 * ((30 * sv) + r)) + k)))), (10, .int (jI (X 46 0 ((5 * (X 55 0 (bs + r))) + z8)))), (9, .int (jI z8)), (8, .int (jI ((5 * ((30 * sv) + r)) + k))), (0, .ref (ad 40 0)), (1, .int (jI sv)), (2, .int (jI r)), (3, .int (jI rule)), (4, .int (jI bs)), (5, .int (jI (bs + r))), (6, .int (jI (X 55 0 (bs + r))))]) hx hb dX9_fieldsBack_250 hl (k := 11) rfl (jI_add _ _) (by decide) rfl (fun ls hl => ?_)
                    refine lv_goto (tgt := 18) hx hb dX9_fieldsBack_253 (by decide) ?_
                    have q53 : Frm [5600, 6000, 5700, 5800, 5900, 8500] X Xa := Frm.tr Frm.rf (Frm.mono hGXa (by first | exact nls_of rfl | decide))
                    have q54 : Frm [5600, 6000, 5700, 5800, 5900, 8500] X X52 := by rw [hX52]; exact Frm.set q53 (show 5600 ∈ [5600, 6000, 5700, 5800, 5900, 8500] by first | exact nlm_in rfl | decide)
                    have e55 : Xa 40 0 13 = X 40 0 13 := by rw [hGXa 40 0 13 (show 4014 ∉ [5600, 6000, 5700, 5800, 5900, 8500] by first | exact nlm_ni rfl | decide)]
                    have e56 : ∀ j : Int, Xa 44 0 j = X 44 0 j := fun j => by rw [hGXa 44 0 j (show 4400 ∉ [5600, 6000, 5700, 5800, 5900, 8500] by first | exact nlm_ni rfl | decide)]
                    have e57 : ∀ j : Int, Xa 55 0 j = X 55 0 j := fun j => by rw [hGXa 55 0 j (show 5500 ∉ [5600, 6000, 5700, 5800, 5900, 8500] by first | exact nlm_ni rfl | decide)]
                    have e58 : ∀ j : Int, Xa 46 0 j = X 46 0 j := fun j => by rw [hGXa 46 0 j (show 4600 ∉ [5600, 6000, 5700, 5800, 5900, 8500] by first | exact nlm_ni rfl | decide)]
                    have ht59o : toM X sv r k = z8 := by unfold toM; rw [← htt]; exact (p10.2.2.2).symm
                    have ht59l : tlM X sv r k = X 46 0 (5 * X 55 0 (bs + r) + z8) := by unfold tlM; rw [ht59o, ← htt]
                    have htw60 : twM Xa sv r k = X 75 0 (5 * (30 * sv + r) + k) := (by rw [hst.2.2.2.1]; unfold twM tvM; rw [ht59l]; split <;> omega)
                    exact ih18 (k + 1) X52 _ _ _ (by omega) hRX52 q54 (by omega) (by rw [hX52]; exact minv_xval hMIXa hRXa (by omega) (by simp only [e55, e56, e57, e58]; omega) (by omega) (by simp only [e55, e56, e57, e58]; omega) (by unfold tyv; simp only [e55, e56, e57, e58]; exact ⟨fun _ => by omega, fun _ => by omega, fun _ => by omega⟩)) (fun j hj => (by rw [hX52, u3_j _ _ _ _ (by omega)]; exact hlo j hj)) ((by first | exact fTrM.push hTr (by omega) (by rw [hst.2.2.2.2]; exact (by unfold fvM; rw [ht59o, ht59l]; exact fvF_0 (by omega) (by (try delta Hid at *); omega) (by unfold tvM andZ; omega))) (Or.inr (Or.inr (Or.inl ⟨(by rw [hst.1, ht59o]; omega), (by rw [hst.2.1, ht59l]; omega), (by rw [htw60]; omega), (by rw [htw60, hst.1, ht59o]; exact hX52)⟩))) | (exfalso; omega))) (by omega) hw hS (lv_sub hl [5, 6, 7, 8, 9, 10, 11, 0] rfl)
                · replace c35 := cz_geF gz34 c35
                  clear gz34
                  refine lv_lload hx hb dX9_fieldsBack_218 (lv_at hl 0 rfl) ?_
                  refine lv_goto (tgt := 249) hx hb dX9_fieldsBack_220 (by decide) ?_
                  refine x_last hx hb hK.1 hw hS (by first | exact Int.le_refl 0 | omega) (by first | exact zlt hc56 | omega) ar_56 (len_E ar_56 (by first | exact Nat.ne_of_beq_eq_false rfl | decide)) (by omega) (by omega) (by omega) dX9_fieldsBack_249 (fun H locs hw hS => ?_)
                  obtain ⟨X61, hX61⟩ : ∃ Xq, Xq = u3 Xa 56 0 ((5 * (bs + r)) + z8) (X 75 0 ((5 * ((30 * sv) + r)) + k)) := ⟨_, rfl⟩
                  rw [← hX61] at hw
                  have hRX61 : Rng X61 := by rw [hX61]; exact rng_set hRXa (show (-9223372036854775808) ≤ (X 75 0 ((5 * ((30 * sv) + r)) + k)) ∧ (X 75 0 ((5 * ((30 * sv) + r)) + k)) ≤ 9223372036854775807 by omega)
                  have hVX61 : X61 56 0 ((5 * (bs + r)) + z8) = (X 75 0 ((5 * ((30 * sv) + r)) + k)) := by rw [hX61]; exact u3_s _ _ _ _ _
                  have hFX61 : Frm [5600, 6000, 5700, 5800, 5900, 8500, 4042, 4043, 4044] X X61 := by rw [hX61]; exact Frm.set hFXa (show 5600 ∈ [5600, 6000, 5700, 5800, 5900, 8500, 4042, 4043, 4044] by first | exact nlm_in rfl | decide)
                  refine lv_iinc (v := jI (k + 1)) (lv' := [(7, .int (jI (k + 1))), (11, .long (jL (X 75 0 ((5 * ((30 * sv) + r)) + k)))), (10, .int (jI (X 46 0 ((5 * (X 55 0 (bs + r))) + z8)))), (9, .int (jI z8)), (8, .int (jI ((5 * ((30 * sv) + r)) + k))), (0, .ref (ad 40 0)), (1, .int (jI sv)), (2, .int (jI r)), (3, .int (jI rule)), (4, .int (jI bs)), (5, .int (jI (bs + r))), (6, .int (jI (X 55 0 (bs + r))))]) hx hb dX9_fieldsBack_250 hl (k := 11) rfl (jI_add _ _) (by decide) rfl (fun ls hl => ?_)
                  refine lv_goto (tgt := 18) hx hb dX9_fieldsBack_253 (by decide) ?_
                  have q62 : Frm [5600, 6000, 5700, 5800, 5900, 8500] X Xa := Frm.tr Frm.rf (Frm.mono hGXa (by first | exact nls_of rfl | decide))
                  have q63 : Frm [5600, 6000, 5700, 5800, 5900, 8500] X X61 := by rw [hX61]; exact Frm.set q62 (show 5600 ∈ [5600, 6000, 5700, 5800, 5900, 8500] by first | exact nlm_in rfl | decide)
                  have e64 : Xa 40 0 13 = X 40 0 13 := by rw [hGXa 40 0 13 (show 4014 ∉ [5600, 6000, 5700, 5800, 5900, 8500] by first | exact nlm_ni rfl | decide)]
                  have e65 : ∀ j : Int, Xa 44 0 j = X 44 0 j := fun j => by rw [hGXa 44 0 j (show 4400 ∉ [5600, 6000, 5700, 5800, 5900, 8500] by first | exact nlm_ni rfl | decide)]
                  have e66 : ∀ j : Int, Xa 55 0 j = X 55 0 j := fun j => by rw [hGXa 55 0 j (show 5500 ∉ [5600, 6000, 5700, 5800, 5900, 8500] by first | exact nlm_ni rfl | decide)]
                  have e67 : ∀ j : Int, Xa 46 0 j = X 46 0 j := fun j => by rw [hGXa 46 0 j (show 4600 ∉ [5600, 6000, 5700, 5800, 5900, 8500] by first | exact nlm_ni rfl | decide)]
                  have ht68o : toM X sv r k = z8 := by unfold toM; rw [← htt]; exact (p10.2.2.2).symm
                  have ht68l : tlM X sv r k = X 46 0 (5 * X 55 0 (bs + r) + z8) := by unfold tlM; rw [ht68o, ← htt]
                  have htw69 : twM Xa sv r k = (X 75 0 ((5 * ((30 * sv) + r)) + k)) := (by rw [hst.2.2.2.1]; unfold twM tvM; rw [ht68l]; split <;> omega)
                  exact ih18 (k + 1) X61 _ _ _ (by omega) hRX61 q63 (by omega) (by rw [hX61]; exact minv_xval hMIXa hRXa (by omega) (by simp only [e64, e65, e66, e67]; omega) (by omega) (by simp only [e64, e65, e66, e67]; omega) (by unfold tyv; simp only [e64, e65, e66, e67]; exact ⟨fun _ => by omega, fun _ => by omega, fun _ => by omega⟩)) (fun j hj => (by rw [hX61, u3_j _ _ _ _ (by omega)]; exact hlo j hj)) (fTrM.push hTr (by omega) (by rw [hst.2.2.2.2]; exact (by unfold fvM; rw [ht68o, ht68l]; exact fvF_0 (by omega) (by (try delta Hid at *); omega) (by unfold tvM andZ; omega))) (Or.inr (Or.inl ⟨(by rw [hst.1, ht68o]; omega), (by rw [hst.2.1, ht68l, htw69]; omega), (by rw [htw69, hst.1, ht68o]; exact hX61)⟩))) (by omega) hw hS (lv_sub hl [5, 6, 7, 8, 9, 10, 11, 0] rfl)
            · refine lv_lload hx hb dX9_fieldsBack_149 (lv_at hl 0 rfl) ?_
              refine lv_lconst (v := jL 0) hx hb dX9_fieldsBack_151 (by decide) ?_
              refine x_lcmp hx hb (by omega) (by omega) dX9_fieldsBack_152 ?_
              obtain ⟨z70, ez70⟩ : ∃ y : Int, y = cmpZ (X 75 0 ((5 * ((30 * sv) + r)) + k)) 0 := ⟨_, rfl⟩
              rw [← ez70]
              have gz70 : (z70 < 0 ↔ ((X 75 0 ((5 * ((30 * sv) + r)) + k)) : Int) < 0) ∧ (z70 = 0 ↔ ((X 75 0 ((5 * ((30 * sv) + r)) + k)) : Int) = 0) ∧ -1 ≤ z70 ∧ z70 ≤ 1 := by rw [ez70]; exact ⟨cmpZ_lt, cmpZ_eq, (cmpZ_r _ _).1, (cmpZ_r _ _).2⟩
              clear ez70
              refine x_if_lt (tgt := 194) hx hb (by omega) dX9_fieldsBack_153 (by decide) (fun c71 => ?_) (fun c71 => ?_)
              · replace c71 := cz_ltT gz70 c71
                clear gz70
                refine lv_aload_n hx hb dX9_fieldsBack_194 rfl (lv_at hl 4 rfl) ?_
                refine x_geto hx hb hf9 hw (by first | exact Int.le_refl 0 | omega) (by first | exact zlt hc40 | omega) sl_40_15 lk48 dX9_fieldsBack_195 ?_
                refine lv_iconst (v := jI 5) hx hb dX9_fieldsBack_198 rfl ?_
                refine lv_iload hx hb dX9_fieldsBack_199 (lv_at hl 9 rfl) ?_
                refine x_imul hx hb dX9_fieldsBack_201 ?_
                refine lv_iload hx hb dX9_fieldsBack_202 (lv_at hl 2 rfl) ?_
                refine x_iadd hx hb dX9_fieldsBack_204 ?_
                refine lv_iload hx hb dX9_fieldsBack_205 (lv_at hl 1 rfl) ?_
                refine lv_iconst (v := jI 2) hx hb dX9_fieldsBack_207 rfl ?_
                refine x_icmp_lt (tgt := 218) hx hb (by omega) (by omega) dX9_fieldsBack_208 (by decide) (fun c72 => ?_) (fun c72 => ?_)
                · refine lv_lload hx hb dX9_fieldsBack_218 (lv_at hl 0 rfl) ?_
                  refine lv_goto (tgt := 249) hx hb dX9_fieldsBack_220 (by decide) ?_
                  refine x_last hx hb hK.1 hw hS (by first | exact Int.le_refl 0 | omega) (by first | exact zlt hc56 | omega) ar_56 (len_E ar_56 (by first | exact Nat.ne_of_beq_eq_false rfl | decide)) (by omega) (by omega) (by omega) dX9_fieldsBack_249 (fun H locs hw hS => ?_)
                  obtain ⟨X73, hX73⟩ : ∃ Xq, Xq = u3 Xa 56 0 ((5 * (bs + r)) + z8) (X 75 0 ((5 * ((30 * sv) + r)) + k)) := ⟨_, rfl⟩
                  rw [← hX73] at hw
                  have hRX73 : Rng X73 := by rw [hX73]; exact rng_set hRXa (show (-9223372036854775808) ≤ (X 75 0 ((5 * ((30 * sv) + r)) + k)) ∧ (X 75 0 ((5 * ((30 * sv) + r)) + k)) ≤ 9223372036854775807 by omega)
                  have hVX73 : X73 56 0 ((5 * (bs + r)) + z8) = (X 75 0 ((5 * ((30 * sv) + r)) + k)) := by rw [hX73]; exact u3_s _ _ _ _ _
                  have hFX73 : Frm [5600, 6000, 5700, 5800, 5900, 8500, 4042, 4043, 4044] X X73 := by rw [hX73]; exact Frm.set hFXa (show 5600 ∈ [5600, 6000, 5700, 5800, 5900, 8500, 4042, 4043, 4044] by first | exact nlm_in rfl | decide)
                  refine lv_iinc (v := jI (k + 1)) (lv' := [(7, .int (jI (k + 1))), (11, .long (jL (X 75 0 ((5 * ((30 * sv) + r)) + k)))), (10, .int (jI (X 46 0 ((5 * (X 55 0 (bs + r))) + z8)))), (9, .int (jI z8)), (8, .int (jI ((5 * ((30 * sv) + r)) + k))), (0, .ref (ad 40 0)), (1, .int (jI sv)), (2, .int (jI r)), (3, .int (jI rule)), (4, .int (jI bs)), (5, .int (jI (bs + r))), (6, .int (jI (X 55 0 (bs + r))))]) hx hb dX9_fieldsBack_250 hl (k := 11) rfl (jI_add _ _) (by decide) rfl (fun ls hl => ?_)
                  refine lv_goto (tgt := 18) hx hb dX9_fieldsBack_253 (by decide) ?_
                  have q74 : Frm [5600, 6000, 5700, 5800, 5900, 8500] X Xa := Frm.tr Frm.rf (Frm.mono hGXa (by first | exact nls_of rfl | decide))
                  have q75 : Frm [5600, 6000, 5700, 5800, 5900, 8500] X X73 := by rw [hX73]; exact Frm.set q74 (show 5600 ∈ [5600, 6000, 5700, 5800, 5900, 8500] by first | exact nlm_in rfl | decide)
                  have e76 : Xa 40 0 13 = X 40 0 13 := by rw [hGXa 40 0 13 (show 4014 ∉ [5600, 6000, 5700, 5800, 5900, 8500] by first | exact nlm_ni rfl | decide)]
                  have e77 : ∀ j : Int, Xa 44 0 j = X 44 0 j := fun j => by rw [hGXa 44 0 j (show 4400 ∉ [5600, 6000, 5700, 5800, 5900, 8500] by first | exact nlm_ni rfl | decide)]
                  have e78 : ∀ j : Int, Xa 55 0 j = X 55 0 j := fun j => by rw [hGXa 55 0 j (show 5500 ∉ [5600, 6000, 5700, 5800, 5900, 8500] by first | exact nlm_ni rfl | decide)]
                  have e79 : ∀ j : Int, Xa 46 0 j = X 46 0 j := fun j => by rw [hGXa 46 0 j (show 4600 ∉ [5600, 6000, 5700, 5800, 5900, 8500] by first | exact nlm_ni rfl | decide)]
                  have ht80o : toM X sv r k = z8 := by unfold toM; rw [← htt]; exact (p10.2.2.2).symm
                  have ht80l : tlM X sv r k = X 46 0 (5 * X 55 0 (bs + r) + z8) := by unfold tlM; rw [ht80o, ← htt]
                  have htw81 : twM Xa sv r k = (X 75 0 ((5 * ((30 * sv) + r)) + k)) := (by rw [hst.2.2.2.1]; unfold twM tvM; rw [ht80l]; split <;> omega)
                  exact ih18 (k + 1) X73 _ _ _ (by omega) hRX73 q75 (by omega) (by rw [hX73]; exact minv_xval hMIXa hRXa (by omega) (by simp only [e76, e77, e78, e79]; omega) (by omega) (by simp only [e76, e77, e78, e79]; omega) (by unfold tyv; simp only [e76, e77, e78, e79]; exact ⟨fun _ => by omega, fun _ => by omega, fun _ => by omega⟩)) (fun j hj => (by rw [hX73, u3_j _ _ _ _ (by omega)]; exact hlo j hj)) (fTrM.push hTr (by omega) (by rw [hst.2.2.2.2]; exact (by unfold fvM; rw [ht80o, ht80l]; exact fvF_0 (by omega) (by (try delta Hid at *); omega) (by unfold tvM andZ; omega))) (Or.inr (Or.inl ⟨(by rw [hst.1, ht80o]; omega), (by rw [hst.2.1, ht80l, htw81]; omega), (by rw [htw81, hst.1, ht80o]; exact hX73)⟩))) (by omega) hw hS (lv_sub hl [5, 6, 7, 8, 9, 10, 11, 0] rfl)
                · refine lv_lload hx hb dX9_fieldsBack_211 (lv_at hl 0 rfl) ?_
                  refine lv_lconst (v := jL 0) hx hb dX9_fieldsBack_213 (by decide) ?_
                  refine x_lcmp hx hb (by omega) (by omega) dX9_fieldsBack_214 ?_
                  obtain ⟨z82, ez82⟩ : ∃ y : Int, y = cmpZ (X 75 0 ((5 * ((30 * sv) + r)) + k)) 0 := ⟨_, rfl⟩
                  rw [← ez82]
                  have gz82 : (z82 < 0 ↔ ((X 75 0 ((5 * ((30 * sv) + r)) + k)) : Int) < 0) ∧ (z82 = 0 ↔ ((X 75 0 ((5 * ((30 * sv) + r)) + k)) : Int) = 0) ∧ -1 ≤ z82 ∧ z82 ≤ 1 := by rw [ez82]; exact ⟨cmpZ_lt, cmpZ_eq, (cmpZ_r _ _).1, (cmpZ_r _ _).2⟩
                  clear ez82
                  refine x_if_ge (tgt := 223) hx hb (by omega) dX9_fieldsBack_215 (by decide) (fun c83 => ?_) (fun c83 => ?_)
                  · replace c83 := cz_geT gz82 c83
                    clear gz82
                    refine lv_iload hx hb dX9_fieldsBack_223 (lv_at hl 1 rfl) ?_
                    refine lv_iconst (v := jI 2) hx hb dX9_fieldsBack_225 rfl ?_
                    refine x_icmp_ne (tgt := 238) hx hb (by omega) (by omega) dX9_fieldsBack_226 (by decide) (fun c84 => ?_) (fun c84 => ?_)
                    · refine lv_aload_n hx hb dX9_fieldsBack_238 rfl (lv_at hl 4 rfl) ?_
                      refine lv_iload_n hx hb dX9_fieldsBack_239 rfl (lv_at hl 5 rfl) ?_
                      refine lv_lload hx hb dX9_fieldsBack_240 (lv_at hl 0 rfl) ?_
                      refine x_l2i hx hb dX9_fieldsBack_242 ?_
                      refine lv_iload hx hb dX9_fieldsBack_243 (lv_at hl 1 rfl) ?_
                      refine gos_i (run_V (As := [.int (jI sv), .int (jI (X 75 0 ((5 * ((30 * sv) + r)) + k))), .int (jI (X 46 0 ((5 * (X 55 0 (bs + r))) + z8)))]) (rest := [.int (jI ((5 * (bs + r)) + z8)), .ref (ad 56 0)]) hx hb hml hown hts (c_X9_rowBack l D tc base ad cnt Xa Y ln hRXa hFx hMIXa sv (X 75 0 ((5 * ((30 * sv) + r)) + k)) (X 46 0 ((5 * (X 55 0 (bs + r))) + z8)) (by omega) (by omega) (by omega)) (cwV 3 hts gX9_fieldsBack_X9_rowBack rfl rfl rfl (by first | exact hd_X9_rowBack | decide +kernel) ⟨Nat.le_of_ble_eq_true rfl, Nat.le_of_ble_eq_true rfl⟩) hK hw (by first | exact Int.le_refl 0 | omega) (by first | exact zlt hc40 | omega) sl_40_0 rfl rfl hl.1 rfl (Nat.le_of_ble_eq_true rfl) dX9_fieldsBack_245 ⟨Nat.le_of_ble_eq_true rfl, Nat.le_of_ble_eq_true rfl⟩) hS (fun z85 u86 H locs p87 hw hS => ?_)
                      obtain ⟨X88, eu86, hRX88, hG89, hMIX88, p87, hrbkX88⟩ := p87
                      subst eu86
                      have hFX88 : Frm [5600, 6000, 5700, 5800, 5900, 8500, 4042, 4043, 4044] X X88 := Frm.tr hFXa (Frm.mono hG89 (by first | exact nls_of rfl | decide))
                      refine x_i2l hx hb (by omega) dX9_fieldsBack_248 ?_
                      refine x_last hx hb hK.1 hw hS (by first | exact Int.le_refl 0 | omega) (by first | exact zlt hc56 | omega) ar_56 (len_E ar_56 (by first | exact Nat.ne_of_beq_eq_false rfl | decide)) (by omega) (by omega) (by omega) dX9_fieldsBack_249 (fun H locs hw hS => ?_)
                      obtain ⟨X90, hX90⟩ : ∃ Xq, Xq = u3 X88 56 0 ((5 * (bs + r)) + z8) z85 := ⟨_, rfl⟩
                      rw [← hX90] at hw
                      have hRX90 : Rng X90 := by rw [hX90]; exact rng_set hRX88 (show (-9223372036854775808) ≤ z85 ∧ z85 ≤ 9223372036854775807 by omega)
                      have hVX90 : X90 56 0 ((5 * (bs + r)) + z8) = z85 := by rw [hX90]; exact u3_s _ _ _ _ _
                      have hFX90 : Frm [5600, 6000, 5700, 5800, 5900, 8500, 4042, 4043, 4044] X X90 := by rw [hX90]; exact Frm.set hFX88 (show 5600 ∈ [5600, 6000, 5700, 5800, 5900, 8500, 4042, 4043, 4044] by first | exact nlm_in rfl | decide)
                      refine lv_iinc (v := jI (k + 1)) (lv' := [(7, .int (jI (k + 1))), (11, .long (jL (X 75 0 ((5 * ((30 * sv) + r)) + k)))), (10, .int (jI (X 46 0 ((5 * (X 55 0 (bs + r))) + z8)))), (9, .int (jI z8)), (8, .int (jI ((5 * ((30 * sv) + r)) + k))), (0, .ref (ad 40 0)), (1, .int (jI sv)), (2, .int (jI r)), (3, .int (jI rule)), (4, .int (jI bs)), (5, .int (jI (bs + r))), (6, .int (jI (X 55 0 (bs + r))))]) hx hb dX9_fieldsBack_250 hl (k := 11) rfl (jI_add _ _) (by decide) rfl (fun ls hl => ?_)
                      refine lv_goto (tgt := 18) hx hb dX9_fieldsBack_253 (by decide) ?_
                      have q91 : Frm [5600, 6000, 5700, 5800, 5900, 8500] X Xa := Frm.tr Frm.rf (Frm.mono hGXa (by first | exact nls_of rfl | decide))
                      have q92 : Frm [5600, 6000, 5700, 5800, 5900, 8500] X X88 := Frm.tr q91 (Frm.mono hG89 (by first | exact nls_of rfl | decide))
                      have q93 : Frm [5600, 6000, 5700, 5800, 5900, 8500] X X90 := by rw [hX90]; exact Frm.set q92 (show 5600 ∈ [5600, 6000, 5700, 5800, 5900, 8500] by first | exact nlm_in rfl | decide)
                      have e94 : X88 40 0 13 = X 40 0 13 := by rw [hG89 40 0 13 (show 4014 ∉ [6000, 5700, 5800, 5900, 8500] by first | exact nlm_ni rfl | decide), hGXa 40 0 13 (show 4014 ∉ [5600, 6000, 5700, 5800, 5900, 8500] by first | exact nlm_ni rfl | decide)]
                      have e95 : ∀ j : Int, X88 44 0 j = X 44 0 j := fun j => by rw [hG89 44 0 j (show 4400 ∉ [6000, 5700, 5800, 5900, 8500] by first | exact nlm_ni rfl | decide), hGXa 44 0 j (show 4400 ∉ [5600, 6000, 5700, 5800, 5900, 8500] by first | exact nlm_ni rfl | decide)]
                      have e96 : ∀ j : Int, X88 55 0 j = X 55 0 j := fun j => by rw [hG89 55 0 j (show 5500 ∉ [6000, 5700, 5800, 5900, 8500] by first | exact nlm_ni rfl | decide), hGXa 55 0 j (show 5500 ∉ [5600, 6000, 5700, 5800, 5900, 8500] by first | exact nlm_ni rfl | decide)]
                      have e97 : ∀ j : Int, X88 46 0 j = X 46 0 j := fun j => by rw [hG89 46 0 j (show 4600 ∉ [6000, 5700, 5800, 5900, 8500] by first | exact nlm_ni rfl | decide), hGXa 46 0 j (show 4600 ∉ [5600, 6000, 5700, 5800, 5900, 8500] by first | exact nlm_ni rfl | decide)]
                      have ht98o : toM X sv r k = z8 := by unfold toM; rw [← htt]; exact (p10.2.2.2).symm
                      have ht98l : tlM X sv r k = X 46 0 (5 * X 55 0 (bs + r) + z8) := by unfold tlM; rw [ht98o, ← htt]
                      have htw99 : twM Xa sv r k = X 75 0 (5 * (30 * sv + r) + k) := (by rw [hst.2.2.2.1]; unfold twM tvM; rw [ht98l]; split <;> omega)
                      exact ih18 (k + 1) X90 _ _ _ (by omega) hRX90 q93 (by omega) (by rw [hX90]; exact minv_xval hMIX88 hRX88 (by omega) (by simp only [e94, e95, e96, e97]; omega) (by omega) (by simp only [e94, e95, e96, e97]; omega) (by unfold tyv; simp only [e94, e95, e96, e97]; exact ⟨fun _ => by omega, fun _ => by omega, fun _ => by omega⟩)) (fun j hj => (by rw [hX90, u3_j _ _ _ _ (by omega), hG89 56 0 j (show 5600 ∉ [6000, 5700, 5800, 5900, 8500] by first | exact nlm_ni rfl | decide)]; exact hlo j hj)) ((by first | exact fTrM.push hTr (by omega) (by rw [hst.2.2.2.2]; exact (by unfold fvM; rw [ht98o, ht98l]; exact fvF_0 (by omega) (by (try delta Hid at *); omega) (by unfold tvM andZ; omega))) (Or.inr (Or.inr (Or.inr ⟨(by rw [hst.1, ht98o]; omega), (by rw [hst.2.1, ht98l]; omega), (by rw [htw99]; omega), X88, z85, (by rw [htw99, hst.2.1, ht98l]; exact hrbkX88), (by rw [hst.1, ht98o]; exact hX90)⟩))) | (exfalso; omega))) (by omega) hw hS (lv_sub hl [5, 6, 7, 8, 9, 10, 11, 0] rfl)
                    · refine lv_iload hx hb dX9_fieldsBack_229 (lv_at hl 8 rfl) ?_
                      refine x_i2l hx hb (by omega) dX9_fieldsBack_231 ?_
                      refine lv_lload hx hb dX9_fieldsBack_232 (lv_at hl 0 rfl) ?_
                      refine x_ladd hx hb dX9_fieldsBack_234 ?_
                      refine lv_goto (tgt := 249) hx hb dX9_fieldsBack_235 (by decide) ?_
                      refine x_last hx hb hK.1 hw hS (by first | exact Int.le_refl 0 | omega) (by first | exact zlt hc56 | omega) ar_56 (len_E ar_56 (by first | exact Nat.ne_of_beq_eq_false rfl | decide)) (by omega) (by omega) (by omega) dX9_fieldsBack_249 (fun H locs hw hS => ?_)
                      obtain ⟨X100, hX100⟩ : ∃ Xq, Xq = u3 Xa 56 0 ((5 * (bs + r)) + z8) (bs + (X 75 0 ((5 * ((30 * sv) + r)) + k))) := ⟨_, rfl⟩
                      rw [← hX100] at hw
                      have hRX100 : Rng X100 := by rw [hX100]; exact rng_set hRXa (show (-9223372036854775808) ≤ (bs + (X 75 0 ((5 * ((30 * sv) + r)) + k))) ∧ (bs + (X 75 0 ((5 * ((30 * sv) + r)) + k))) ≤ 9223372036854775807 by omega)
                      have hVX100 : X100 56 0 ((5 * (bs + r)) + z8) = (bs + (X 75 0 ((5 * ((30 * sv) + r)) + k))) := by rw [hX100]; exact u3_s _ _ _ _ _
                      have hFX100 : Frm [5600, 6000, 5700, 5800, 5900, 8500, 4042, 4043, 4044] X X100 := by rw [hX100]; exact Frm.set hFXa (show 5600 ∈ [5600, 6000, 5700, 5800, 5900, 8500, 4042, 4043, 4044] by first | exact nlm_in rfl | decide)
                      refine lv_iinc (v := jI (k + 1)) (lv' := [(7, .int (jI (k + 1))), (11, .long (jL (X 75 0 ((5 * ((30 * sv) + r)) + k)))), (10, .int (jI (X 46 0 ((5 * (X 55 0 (bs + r))) + z8)))), (9, .int (jI z8)), (8, .int (jI ((5 * ((30 * sv) + r)) + k))), (0, .ref (ad 40 0)), (1, .int (jI sv)), (2, .int (jI r)), (3, .int (jI rule)), (4, .int (jI bs)), (5, .int (jI (bs + r))), (6, .int (jI (X 55 0 (bs + r))))]) hx hb dX9_fieldsBack_250 hl (k := 11) rfl (jI_add _ _) (by decide) rfl (fun ls hl => ?_)
                      refine lv_goto (tgt := 18) hx hb dX9_fieldsBack_253 (by decide) ?_
                      have q101 : Frm [5600, 6000, 5700, 5800, 5900, 8500] X Xa := Frm.tr Frm.rf (Frm.mono hGXa (by first | exact nls_of rfl | decide))
                      have q102 : Frm [5600, 6000, 5700, 5800, 5900, 8500] X X100 := by rw [hX100]; exact Frm.set q101 (show 5600 ∈ [5600, 6000, 5700, 5800, 5900, 8500] by first | exact nlm_in rfl | decide)
                      have e103 : Xa 40 0 13 = X 40 0 13 := by rw [hGXa 40 0 13 (show 4014 ∉ [5600, 6000, 5700, 5800, 5900, 8500] by first | exact nlm_ni rfl | decide)]
                      have e104 : ∀ j : Int, Xa 44 0 j = X 44 0 j := fun j => by rw [hGXa 44 0 j (show 4400 ∉ [5600, 6000, 5700, 5800, 5900, 8500] by first | exact nlm_ni rfl | decide)]
                      have e105 : ∀ j : Int, Xa 55 0 j = X 55 0 j := fun j => by rw [hGXa 55 0 j (show 5500 ∉ [5600, 6000, 5700, 5800, 5900, 8500] by first | exact nlm_ni rfl | decide)]
                      have e106 : ∀ j : Int, Xa 46 0 j = X 46 0 j := fun j => by rw [hGXa 46 0 j (show 4600 ∉ [5600, 6000, 5700, 5800, 5900, 8500] by first | exact nlm_ni rfl | decide)]
                      have ht107o : toM X sv r k = z8 := by unfold toM; rw [← htt]; exact (p10.2.2.2).symm
                      have ht107l : tlM X sv r k = X 46 0 (5 * X 55 0 (bs + r) + z8) := by unfold tlM; rw [ht107o, ← htt]
                      have htw108 : twM Xa sv r k = X 75 0 (5 * (30 * sv + r) + k) := (by rw [hst.2.2.2.1]; unfold twM tvM; rw [ht107l]; split <;> omega)
                      exact ih18 (k + 1) X100 _ _ _ (by omega) hRX100 q102 (by omega) (by rw [hX100]; exact minv_xval hMIXa hRXa (by omega) (by simp only [e103, e104, e105, e106]; omega) (by omega) (by simp only [e103, e104, e105, e106]; omega) (by unfold tyv; simp only [e103, e104, e105, e106]; exact ⟨fun _ => by omega, fun _ => by omega, fun _ => by omega⟩)) (fun j hj => (by rw [hX100, u3_j _ _ _ _ (by omega)]; exact hlo j hj)) ((by first | exact fTrM.push hTr (by omega) (by rw [hst.2.2.2.2]; exact (by unfold fvM; rw [ht107o, ht107l]; exact fvF_0 (by omega) (by (try delta Hid at *); omega) (by unfold tvM andZ; omega))) (Or.inr (Or.inr (Or.inl ⟨(by rw [hst.1, ht107o]; omega), (by rw [hst.2.1, ht107l]; omega), (by rw [htw108]; omega), (by rw [htw108, hst.1, ht107o]; exact hX100)⟩))) | (exfalso; omega))) (by omega) hw hS (lv_sub hl [5, 6, 7, 8, 9, 10, 11, 0] rfl)
                  · replace c83 := cz_geF gz82 c83
                    clear gz82
                    refine lv_lload hx hb dX9_fieldsBack_218 (lv_at hl 0 rfl) ?_
                    refine lv_goto (tgt := 249) hx hb dX9_fieldsBack_220 (by decide) ?_
                    refine x_last hx hb hK.1 hw hS (by first | exact Int.le_refl 0 | omega) (by first | exact zlt hc56 | omega) ar_56 (len_E ar_56 (by first | exact Nat.ne_of_beq_eq_false rfl | decide)) (by omega) (by omega) (by omega) dX9_fieldsBack_249 (fun H locs hw hS => ?_)
                    obtain ⟨X109, hX109⟩ : ∃ Xq, Xq = u3 Xa 56 0 ((5 * (bs + r)) + z8) (X 75 0 ((5 * ((30 * sv) + r)) + k)) := ⟨_, rfl⟩
                    rw [← hX109] at hw
                    have hRX109 : Rng X109 := by rw [hX109]; exact rng_set hRXa (show (-9223372036854775808) ≤ (X 75 0 ((5 * ((30 * sv) + r)) + k)) ∧ (X 75 0 ((5 * ((30 * sv) + r)) + k)) ≤ 9223372036854775807 by omega)
                    have hVX109 : X109 56 0 ((5 * (bs + r)) + z8) = (X 75 0 ((5 * ((30 * sv) + r)) + k)) := by rw [hX109]; exact u3_s _ _ _ _ _
                    have hFX109 : Frm [5600, 6000, 5700, 5800, 5900, 8500, 4042, 4043, 4044] X X109 := by rw [hX109]; exact Frm.set hFXa (show 5600 ∈ [5600, 6000, 5700, 5800, 5900, 8500, 4042, 4043, 4044] by first | exact nlm_in rfl | decide)
                    refine lv_iinc (v := jI (k + 1)) (lv' := [(7, .int (jI (k + 1))), (11, .long (jL (X 75 0 ((5 * ((30 * sv) + r)) + k)))), (10, .int (jI (X 46 0 ((5 * (X 55 0 (bs + r))) + z8)))), (9, .int (jI z8)), (8, .int (jI ((5 * ((30 * sv) + r)) + k))), (0, .ref (ad 40 0)), (1, .int (jI sv)), (2, .int (jI r)), (3, .int (jI rule)), (4, .int (jI bs)), (5, .int (jI (bs + r))), (6, .int (jI (X 55 0 (bs + r))))]) hx hb dX9_fieldsBack_250 hl (k := 11) rfl (jI_add _ _) (by decide) rfl (fun ls hl => ?_)
                    refine lv_goto (tgt := 18) hx hb dX9_fieldsBack_253 (by decide) ?_
                    have q110 : Frm [5600, 6000, 5700, 5800, 5900, 8500] X Xa := Frm.tr Frm.rf (Frm.mono hGXa (by first | exact nls_of rfl | decide))
                    have q111 : Frm [5600, 6000, 5700, 5800, 5900, 8500] X X109 := by rw [hX109]; exact Frm.set q110 (show 5600 ∈ [5600, 6000, 5700, 5800, 5900, 8500] by first | exact nlm_in rfl | decide)
                    have e112 : Xa 40 0 13 = X 40 0 13 := by rw [hGXa 40 0 13 (show 4014 ∉ [5600, 6000, 5700, 5800, 5900, 8500] by first | exact nlm_ni rfl | decide)]
                    have e113 : ∀ j : Int, Xa 44 0 j = X 44 0 j := fun j => by rw [hGXa 44 0 j (show 4400 ∉ [5600, 6000, 5700, 5800, 5900, 8500] by first | exact nlm_ni rfl | decide)]
                    have e114 : ∀ j : Int, Xa 55 0 j = X 55 0 j := fun j => by rw [hGXa 55 0 j (show 5500 ∉ [5600, 6000, 5700, 5800, 5900, 8500] by first | exact nlm_ni rfl | decide)]
                    have e115 : ∀ j : Int, Xa 46 0 j = X 46 0 j := fun j => by rw [hGXa 46 0 j (show 4600 ∉ [5600, 6000, 5700, 5800, 5900, 8500] by first | exact nlm_ni rfl | decide)]
                    have ht116o : toM X sv r k = z8 := by unfold toM; rw [← htt]; exact (p10.2.2.2).symm
                    have ht116l : tlM X sv r k = X 46 0 (5 * X 55 0 (bs + r) + z8) := by unfold tlM; rw [ht116o, ← htt]
                    have htw117 : twM Xa sv r k = (X 75 0 ((5 * ((30 * sv) + r)) + k)) := (by rw [hst.2.2.2.1]; unfold twM tvM; rw [ht116l]; split <;> omega)
                    exact ih18 (k + 1) X109 _ _ _ (by omega) hRX109 q111 (by omega) (by rw [hX109]; exact minv_xval hMIXa hRXa (by omega) (by simp only [e112, e113, e114, e115]; omega) (by omega) (by simp only [e112, e113, e114, e115]; omega) (by unfold tyv; simp only [e112, e113, e114, e115]; exact ⟨fun _ => by omega, fun _ => by omega, fun _ => by omega⟩)) (fun j hj => (by rw [hX109, u3_j _ _ _ _ (by omega)]; exact hlo j hj)) (fTrM.push hTr (by omega) (by rw [hst.2.2.2.2]; exact (by unfold fvM; rw [ht116o, ht116l]; exact fvF_0 (by omega) (by (try delta Hid at *); omega) (by unfold tvM andZ; omega))) (Or.inr (Or.inl ⟨(by rw [hst.1, ht116o]; omega), (by rw [hst.2.1, ht116l, htw117]; omega), (by rw [htw117, hst.1, ht116o]; exact hX109)⟩))) (by omega) hw hS (lv_sub hl [5, 6, 7, 8, 9, 10, 11, 0] rfl)
              · replace c71 := cz_ltF gz70 c71
                clear gz70
                refine lv_aload_n hx hb dX9_fieldsBack_156 rfl (lv_at hl 4 rfl) ?_
                refine x_geto hx hb hf9 hw (by first | exact Int.le_refl 0 | omega) (by first | exact zlt hc40 | omega) sl_40_1 lk7 dX9_fieldsBack_157 ?_
                refine lv_lload hx hb dX9_fieldsBack_160 (lv_at hl 0 rfl) ?_
                refine x_l2i hx hb dX9_fieldsBack_162 ?_
                refine x_zald hx hb hK.1 hw (by first | exact Int.le_refl 0 | omega) (by first | exact zlt hc42 | omega) ar_42 (len_E ar_42 (by first | exact Nat.ne_of_beq_eq_false rfl | decide)) (by omega) (by omega) (by omega) dX9_fieldsBack_163 ?_
                have e118 : ∀ p9 q9 : Int, Xa 42 p9 q9 = X 42 p9 q9 := fun p9 q9 => by rw [hGXa 42 p9 q9 (show 4200 ∉ [5600, 6000, 5700, 5800, 5900, 8500] by first | exact nlm_ni rfl | decide)]
                rw [e118 0 (X 75 0 ((5 * ((30 * sv) + r)) + k))]
                have f119 : 0 ≤ X 42 0 (X 75 0 ((5 * ((30 * sv) + r)) + k)) ∧ X 42 0 (X 75 0 ((5 * ((30 * sv) + r)) + k)) ≤ 1 := hR 42 0 (X 75 0 ((5 * ((30 * sv) + r)) + k))
                refine x_if_eq (tgt := 194) hx hb (by omega) dX9_fieldsBack_164 (by decide) (fun c120 => ?_) (fun c120 => ?_)
                · refine lv_aload_n hx hb dX9_fieldsBack_194 rfl (lv_at hl 4 rfl) ?_
                  refine x_geto hx hb hf9 hw (by first | exact Int.le_refl 0 | omega) (by first | exact zlt hc40 | omega) sl_40_15 lk48 dX9_fieldsBack_195 ?_
                  refine lv_iconst (v := jI 5) hx hb dX9_fieldsBack_198 rfl ?_
                  refine lv_iload hx hb dX9_fieldsBack_199 (lv_at hl 9 rfl) ?_
                  refine x_imul hx hb dX9_fieldsBack_201 ?_
                  refine lv_iload hx hb dX9_fieldsBack_202 (lv_at hl 2 rfl) ?_
                  refine x_iadd hx hb dX9_fieldsBack_204 ?_
                  refine lv_iload hx hb dX9_fieldsBack_205 (lv_at hl 1 rfl) ?_
                  refine lv_iconst (v := jI 2) hx hb dX9_fieldsBack_207 rfl ?_
                  refine x_icmp_lt (tgt := 218) hx hb (by omega) (by omega) dX9_fieldsBack_208 (by decide) (fun c121 => ?_) (fun c121 => ?_)
                  · refine lv_lload hx hb dX9_fieldsBack_218 (lv_at hl 0 rfl) ?_
                    refine lv_goto (tgt := 249) hx hb dX9_fieldsBack_220 (by decide) ?_
                    refine x_last hx hb hK.1 hw hS (by first | exact Int.le_refl 0 | omega) (by first | exact zlt hc56 | omega) ar_56 (len_E ar_56 (by first | exact Nat.ne_of_beq_eq_false rfl | decide)) (by omega) (by omega) (by omega) dX9_fieldsBack_249 (fun H locs hw hS => ?_)
                    obtain ⟨X122, hX122⟩ : ∃ Xq, Xq = u3 Xa 56 0 ((5 * (bs + r)) + z8) (X 75 0 ((5 * ((30 * sv) + r)) + k)) := ⟨_, rfl⟩
                    rw [← hX122] at hw
                    have hRX122 : Rng X122 := by rw [hX122]; exact rng_set hRXa (show (-9223372036854775808) ≤ (X 75 0 ((5 * ((30 * sv) + r)) + k)) ∧ (X 75 0 ((5 * ((30 * sv) + r)) + k)) ≤ 9223372036854775807 by omega)
                    have hVX122 : X122 56 0 ((5 * (bs + r)) + z8) = (X 75 0 ((5 * ((30 * sv) + r)) + k)) := by rw [hX122]; exact u3_s _ _ _ _ _
                    have hFX122 : Frm [5600, 6000, 5700, 5800, 5900, 8500, 4042, 4043, 4044] X X122 := by rw [hX122]; exact Frm.set hFXa (show 5600 ∈ [5600, 6000, 5700, 5800, 5900, 8500, 4042, 4043, 4044] by first | exact nlm_in rfl | decide)
                    refine lv_iinc (v := jI (k + 1)) (lv' := [(7, .int (jI (k + 1))), (11, .long (jL (X 75 0 ((5 * ((30 * sv) + r)) + k)))), (10, .int (jI (X 46 0 ((5 * (X 55 0 (bs + r))) + z8)))), (9, .int (jI z8)), (8, .int (jI ((5 * ((30 * sv) + r)) + k))), (0, .ref (ad 40 0)), (1, .int (jI sv)), (2, .int (jI r)), (3, .int (jI rule)), (4, .int (jI bs)), (5, .int (jI (bs + r))), (6, .int (jI (X 55 0 (bs + r))))]) hx hb dX9_fieldsBack_250 hl (k := 11) rfl (jI_add _ _) (by decide) rfl (fun ls hl => ?_)
                    refine lv_goto (tgt := 18) hx hb dX9_fieldsBack_253 (by decide) ?_
                    have q123 : Frm [5600, 6000, 5700, 5800, 5900, 8500] X Xa := Frm.tr Frm.rf (Frm.mono hGXa (by first | exact nls_of rfl | decide))
                    have q124 : Frm [5600, 6000, 5700, 5800, 5900, 8500] X X122 := by rw [hX122]; exact Frm.set q123 (show 5600 ∈ [5600, 6000, 5700, 5800, 5900, 8500] by first | exact nlm_in rfl | decide)
                    have e125 : Xa 40 0 13 = X 40 0 13 := by rw [hGXa 40 0 13 (show 4014 ∉ [5600, 6000, 5700, 5800, 5900, 8500] by first | exact nlm_ni rfl | decide)]
                    have e126 : ∀ j : Int, Xa 44 0 j = X 44 0 j := fun j => by rw [hGXa 44 0 j (show 4400 ∉ [5600, 6000, 5700, 5800, 5900, 8500] by first | exact nlm_ni rfl | decide)]
                    have e127 : ∀ j : Int, Xa 55 0 j = X 55 0 j := fun j => by rw [hGXa 55 0 j (show 5500 ∉ [5600, 6000, 5700, 5800, 5900, 8500] by first | exact nlm_ni rfl | decide)]
                    have e128 : ∀ j : Int, Xa 46 0 j = X 46 0 j := fun j => by rw [hGXa 46 0 j (show 4600 ∉ [5600, 6000, 5700, 5800, 5900, 8500] by first | exact nlm_ni rfl | decide)]
                    have ht129o : toM X sv r k = z8 := by unfold toM; rw [← htt]; exact (p10.2.2.2).symm
                    have ht129l : tlM X sv r k = X 46 0 (5 * X 55 0 (bs + r) + z8) := by unfold tlM; rw [ht129o, ← htt]
                    have htw130 : twM Xa sv r k = (X 75 0 ((5 * ((30 * sv) + r)) + k)) := (by rw [hst.2.2.2.1]; unfold twM tvM; rw [ht129l]; split <;> omega)
                    exact ih18 (k + 1) X122 _ _ _ (by omega) hRX122 q124 (by omega) (by rw [hX122]; exact minv_xval hMIXa hRXa (by omega) (by simp only [e125, e126, e127, e128]; omega) (by omega) (by simp only [e125, e126, e127, e128]; omega) (by unfold tyv; simp only [e125, e126, e127, e128]; exact ⟨fun _ => by omega, fun _ => by omega, fun _ => by omega⟩)) (fun j hj => (by rw [hX122, u3_j _ _ _ _ (by omega)]; exact hlo j hj)) (fTrM.push hTr (by omega) (by rw [hst.2.2.2.2]; exact (by unfold fvM; rw [ht129o, ht129l]; exact fvF_0 (by omega) (by (try delta Hid at *); omega) (by unfold tvM andZ; omega))) (Or.inr (Or.inl ⟨(by rw [hst.1, ht129o]; omega), (by rw [hst.2.1, ht129l, htw130]; omega), (by rw [htw130, hst.1, ht129o]; exact hX122)⟩))) (by omega) hw hS (lv_sub hl [5, 6, 7, 8, 9, 10, 11, 0] rfl)
                  · refine lv_lload hx hb dX9_fieldsBack_211 (lv_at hl 0 rfl) ?_
                    refine lv_lconst (v := jL 0) hx hb dX9_fieldsBack_213 (by decide) ?_
                    refine x_lcmp hx hb (by omega) (by omega) dX9_fieldsBack_214 ?_
                    obtain ⟨z131, ez131⟩ : ∃ y : Int, y = cmpZ (X 75 0 ((5 * ((30 * sv) + r)) + k)) 0 := ⟨_, rfl⟩
                    rw [← ez131]
                    have gz131 : (z131 < 0 ↔ ((X 75 0 ((5 * ((30 * sv) + r)) + k)) : Int) < 0) ∧ (z131 = 0 ↔ ((X 75 0 ((5 * ((30 * sv) + r)) + k)) : Int) = 0) ∧ -1 ≤ z131 ∧ z131 ≤ 1 := by rw [ez131]; exact ⟨cmpZ_lt, cmpZ_eq, (cmpZ_r _ _).1, (cmpZ_r _ _).2⟩
                    clear ez131
                    refine x_if_ge (tgt := 223) hx hb (by omega) dX9_fieldsBack_215 (by decide) (fun c132 => ?_) (fun c132 => ?_)
                    · replace c132 := cz_geT gz131 c132
                      clear gz131
                      refine lv_iload hx hb dX9_fieldsBack_223 (lv_at hl 1 rfl) ?_
                      refine lv_iconst (v := jI 2) hx hb dX9_fieldsBack_225 rfl ?_
                      refine x_icmp_ne (tgt := 238) hx hb (by omega) (by omega) dX9_fieldsBack_226 (by decide) (fun c133 => ?_) (fun c133 => ?_)
                      · refine lv_aload_n hx hb dX9_fieldsBack_238 rfl (lv_at hl 4 rfl) ?_
                        refine lv_iload_n hx hb dX9_fieldsBack_239 rfl (lv_at hl 5 rfl) ?_
                        refine lv_lload hx hb dX9_fieldsBack_240 (lv_at hl 0 rfl) ?_
                        refine x_l2i hx hb dX9_fieldsBack_242 ?_
                        refine lv_iload hx hb dX9_fieldsBack_243 (lv_at hl 1 rfl) ?_
                        refine gos_i (run_V (As := [.int (jI sv), .int (jI (X 75 0 ((5 * ((30 * sv) + r)) + k))), .int (jI (X 46 0 ((5 * (X 55 0 (bs + r))) + z8)))]) (rest := [.int (jI ((5 * (bs + r)) + z8)), .ref (ad 56 0)]) hx hb hml hown hts (c_X9_rowBack l D tc base ad cnt Xa Y ln hRXa hFx hMIXa sv (X 75 0 ((5 * ((30 * sv) + r)) + k)) (X 46 0 ((5 * (X 55 0 (bs + r))) + z8)) (by omega) (by omega) (by omega)) (cwV 3 hts gX9_fieldsBack_X9_rowBack rfl rfl rfl (by first | exact hd_X9_rowBack | decide +kernel) ⟨Nat.le_of_ble_eq_true rfl, Nat.le_of_ble_eq_true rfl⟩) hK hw (by first | exact Int.le_refl 0 | omega) (by first | exact zlt hc40 | omega) sl_40_0 rfl rfl hl.1 rfl (Nat.le_of_ble_eq_true rfl) dX9_fieldsBack_245 ⟨Nat.le_of_ble_eq_true rfl, Nat.le_of_ble_eq_true rfl⟩) hS (fun z134 u135 H locs p136 hw hS => ?_)
                        obtain ⟨X137, eu135, hRX137, hG138, hMIX137, p136, hrbkX137⟩ := p136
                        subst eu135
                        have hFX137 : Frm [5600, 6000, 5700, 5800, 5900, 8500, 4042, 4043, 4044] X X137 := Frm.tr hFXa (Frm.mono hG138 (by first | exact nls_of rfl | decide))
                        refine x_i2l hx hb (by omega) dX9_fieldsBack_248 ?_
                        refine x_last hx hb hK.1 hw hS (by first | exact Int.le_refl 0 | omega) (by first | exact zlt hc56 | omega) ar_56 (len_E ar_56 (by first | exact Nat.ne_of_beq_eq_false rfl | decide)) (by omega) (by omega) (by omega) dX9_fieldsBack_249 (fun H locs hw hS => ?_)
                        obtain ⟨X139, hX139⟩ : ∃ Xq, Xq = u3 X137 56 0 ((5 * (bs + r)) + z8) z134 := ⟨_, rfl⟩
                        rw [← hX139] at hw
                        have hRX139 : Rng X139 := by rw [hX139]; exact rng_set hRX137 (show (-9223372036854775808) ≤ z134 ∧ z134 ≤ 9223372036854775807 by omega)
                        have hVX139 : X139 56 0 ((5 * (bs + r)) + z8) = z134 := by rw [hX139]; exact u3_s _ _ _ _ _
                        have hFX139 : Frm [5600, 6000, 5700, 5800, 5900, 8500, 4042, 4043, 4044] X X139 := by rw [hX139]; exact Frm.set hFX137 (show 5600 ∈ [5600, 6000, 5700, 5800, 5900, 8500, 4042, 4043, 4044] by first | exact nlm_in rfl | decide)
                        refine lv_iinc (v := jI (k + 1)) (lv' := [(7, .int (jI (k + 1))), (11, .long (jL (X 75 0 ((5 * ((30 * sv) + r)) + k)))), (10, .int (jI (X 46 0 ((5 * (X 55 0 (bs + r))) + z8)))), (9, .int (jI z8)), (8, .int (jI ((5 * ((30 * sv) + r)) + k))), (0, .ref (ad 40 0)), (1, .int (jI sv)), (2, .int (jI r)), (3, .int (jI rule)), (4, .int (jI bs)), (5, .int (jI (bs + r))), (6, .int (jI (X 55 0 (bs + r))))]) hx hb dX9_fieldsBack_250 hl (k := 11) rfl (jI_add _ _) (by decide) rfl (fun ls hl => ?_)
                        refine lv_goto (tgt := 18) hx hb dX9_fieldsBack_253 (by decide) ?_
                        have q140 : Frm [5600, 6000, 5700, 5800, 5900, 8500] X Xa := Frm.tr Frm.rf (Frm.mono hGXa (by first | exact nls_of rfl | decide))
                        have q141 : Frm [5600, 6000, 5700, 5800, 5900, 8500] X X137 := Frm.tr q140 (Frm.mono hG138 (by first | exact nls_of rfl | decide))
                        have q142 : Frm [5600, 6000, 5700, 5800, 5900, 8500] X X139 := by rw [hX139]; exact Frm.set q141 (show 5600 ∈ [5600, 6000, 5700, 5800, 5900, 8500] by first | exact nlm_in rfl | decide)
                        have e143 : X137 40 0 13 = X 40 0 13 := by rw [hG138 40 0 13 (show 4014 ∉ [6000, 5700, 5800, 5900, 8500] by first | exact nlm_ni rfl | decide), hGXa 40 0 13 (show 4014 ∉ [5600, 6000, 5700, 5800, 5900, 8500] by first | exact nlm_ni rfl | decide)]
                        have e144 : ∀ j : Int, X137 44 0 j = X 44 0 j := fun j => by rw [hG138 44 0 j (show 4400 ∉ [6000, 5700, 5800, 5900, 8500] by first | exact nlm_ni rfl | decide), hGXa 44 0 j (show 4400 ∉ [5600, 6000, 5700, 5800, 5900, 8500] by first | exact nlm_ni rfl | decide)]
                        have e145 : ∀ j : Int, X137 55 0 j = X 55 0 j := fun j => by rw [hG138 55 0 j (show 5500 ∉ [6000, 5700, 5800, 5900, 8500] by first | exact nlm_ni rfl | decide), hGXa 55 0 j (show 5500 ∉ [5600, 6000, 5700, 5800, 5900, 8500] by first | exact nlm_ni rfl | decide)]
                        have e146 : ∀ j : Int, X137 46 0 j = X 46 0 j := fun j => by rw [hG138 46 0 j (show 4600 ∉ [6000, 5700, 5800, 5900, 8500] by first | exact nlm_ni rfl | decide), hGXa 46 0 j (show 4600 ∉ [5600, 6000, 5700, 5800, 5900, 8500] by first | exact nlm_ni rfl | decide)]
                        have ht147o : toM X sv r k = z8 := by unfold toM; rw [← htt]; exact (p10.2.2.2).symm
                        have ht147l : tlM X sv r k = X 46 0 (5 * X 55 0 (bs + r) + z8) := by unfold tlM; rw [ht147o, ← htt]
                        have htw148 : twM Xa sv r k = X 75 0 (5 * (30 * sv + r) + k) := (by rw [hst.2.2.2.1]; unfold twM tvM; rw [ht147l]; split <;> omega)
                        exact ih18 (k + 1) X139 _ _ _ (by omega) hRX139 q142 (by omega) (by rw [hX139]; exact minv_xval hMIX137 hRX137 (by omega) (by simp only [e143, e144, e145, e146]; omega) (by omega) (by simp only [e143, e144, e145, e146]; omega) (by unfold tyv; simp only [e143, e144, e145, e146]; exact ⟨fun _ => by omega, fun _ => by omega, fun _ => by omega⟩)) (fun j hj => (by rw [hX139, u3_j _ _ _ _ (by omega), hG138 56 0 j (show 5600 ∉ [6000, 5700, 5800, 5900, 8500] by first | exact nlm_ni rfl | decide)]; exact hlo j hj)) ((by first | exact fTrM.push hTr (by omega) (by rw [hst.2.2.2.2]; exact (by unfold fvM; rw [ht147o, ht147l]; exact fvF_0 (by omega) (by (try delta Hid at *); omega) (by unfold tvM andZ; omega))) (Or.inr (Or.inr (Or.inr ⟨(by rw [hst.1, ht147o]; omega), (by rw [hst.2.1, ht147l]; omega), (by rw [htw148]; omega), X137, z134, (by rw [htw148, hst.2.1, ht147l]; exact hrbkX137), (by rw [hst.1, ht147o]; exact hX139)⟩))) | (exfalso; omega))) (by omega) hw hS (lv_sub hl [5, 6, 7, 8, 9, 10, 11, 0] rfl)
                      · refine lv_iload hx hb dX9_fieldsBack_229 (lv_at hl 8 rfl) ?_
                        refine x_i2l hx hb (by omega) dX9_fieldsBack_231 ?_
                        refine lv_lload hx hb dX9_fieldsBack_232 (lv_at hl 0 rfl) ?_
                        refine x_ladd hx hb dX9_fieldsBack_234 ?_
                        refine lv_goto (tgt := 249) hx hb dX9_fieldsBack_235 (by decide) ?_
                        refine x_last hx hb hK.1 hw hS (by first | exact Int.le_refl 0 | omega) (by first | exact zlt hc56 | omega) ar_56 (len_E ar_56 (by first | exact Nat.ne_of_beq_eq_false rfl | decide)) (by omega) (by omega) (by omega) dX9_fieldsBack_249 (fun H locs hw hS => ?_)
                        obtain ⟨X149, hX149⟩ : ∃ Xq, Xq = u3 Xa 56 0 ((5 * (bs + r)) + z8) (bs + (X 75 0 ((5 * ((30 * sv) + r)) + k))) := ⟨_, rfl⟩
                        rw [← hX149] at hw
                        have hRX149 : Rng X149 := by rw [hX149]; exact rng_set hRXa (show (-9223372036854775808) ≤ (bs + (X 75 0 ((5 * ((30 * sv) + r)) + k))) ∧ (bs + (X 75 0 ((5 * ((30 * sv) + r)) + k))) ≤ 9223372036854775807 by omega)
                        have hVX149 : X149 56 0 ((5 * (bs + r)) + z8) = (bs + (X 75 0 ((5 * ((30 * sv) + r)) + k))) := by rw [hX149]; exact u3_s _ _ _ _ _
                        have hFX149 : Frm [5600, 6000, 5700, 5800, 5900, 8500, 4042, 4043, 4044] X X149 := by rw [hX149]; exact Frm.set hFXa (show 5600 ∈ [5600, 6000, 5700, 5800, 5900, 8500, 4042, 4043, 4044] by first | exact nlm_in rfl | decide)
                        refine lv_iinc (v := jI (k + 1)) (lv' := [(7, .int (jI (k + 1))), (11, .long (jL (X 75 0 ((5 * ((30 * sv) + r)) + k)))), (10, .int (jI (X 46 0 ((5 * (X 55 0 (bs + r))) + z8)))), (9, .int (jI z8)), (8, .int (jI ((5 * ((30 * sv) + r)) + k))), (0, .ref (ad 40 0)), (1, .int (jI sv)), (2, .int (jI r)), (3, .int (jI rule)), (4, .int (jI bs)), (5, .int (jI (bs + r))), (6, .int (jI (X 55 0 (bs + r))))]) hx hb dX9_fieldsBack_250 hl (k := 11) rfl (jI_add _ _) (by decide) rfl (fun ls hl => ?_)
                        refine lv_goto (tgt := 18) hx hb dX9_fieldsBack_253 (by decide) ?_
                        have q150 : Frm [5600, 6000, 5700, 5800, 5900, 8500] X Xa := Frm.tr Frm.rf (Frm.mono hGXa (by first | exact nls_of rfl | decide))
                        have q151 : Frm [5600, 6000, 5700, 5800, 5900, 8500] X X149 := by rw [hX149]; exact Frm.set q150 (show 5600 ∈ [5600, 6000, 5700, 5800, 5900, 8500] by first | exact nlm_in rfl | decide)
                        have e152 : Xa 40 0 13 = X 40 0 13 := by rw [hGXa 40 0 13 (show 4014 ∉ [5600, 6000, 5700, 5800, 5900, 8500] by first | exact nlm_ni rfl | decide)]
                        have e153 : ∀ j : Int, Xa 44 0 j = X 44 0 j := fun j => by rw [hGXa 44 0 j (show 4400 ∉ [5600, 6000, 5700, 5800, 5900, 8500] by first | exact nlm_ni rfl | decide)]
                        have e154 : ∀ j : Int, Xa 55 0 j = X 55 0 j := fun j => by rw [hGXa 55 0 j (show 5500 ∉ [5600, 6000, 5700, 5800, 5900, 8500] by first | exact nlm_ni rfl | decide)]
                        have e155 : ∀ j : Int, Xa 46 0 j = X 46 0 j := fun j => by rw [hGXa 46 0 j (show 4600 ∉ [5600, 6000, 5700, 5800, 5900, 8500] by first | exact nlm_ni rfl | decide)]
                        have ht156o : toM X sv r k = z8 := by unfold toM; rw [← htt]; exact (p10.2.2.2).symm
                        have ht156l : tlM X sv r k = X 46 0 (5 * X 55 0 (bs + r) + z8) := by unfold tlM; rw [ht156o, ← htt]
                        have htw157 : twM Xa sv r k = X 75 0 (5 * (30 * sv + r) + k) := (by rw [hst.2.2.2.1]; unfold twM tvM; rw [ht156l]; split <;> omega)
                        exact ih18 (k + 1) X149 _ _ _ (by omega) hRX149 q151 (by omega) (by rw [hX149]; exact minv_xval hMIXa hRXa (by omega) (by simp only [e152, e153, e154, e155]; omega) (by omega) (by simp only [e152, e153, e154, e155]; omega) (by unfold tyv; simp only [e152, e153, e154, e155]; exact ⟨fun _ => by omega, fun _ => by omega, fun _ => by omega⟩)) (fun j hj => (by rw [hX149, u3_j _ _ _ _ (by omega)]; exact hlo j hj)) ((by first | exact fTrM.push hTr (by omega) (by rw [hst.2.2.2.2]; exact (by unfold fvM; rw [ht156o, ht156l]; exact fvF_0 (by omega) (by (try delta Hid at *); omega) (by unfold tvM andZ; omega))) (Or.inr (Or.inr (Or.inl ⟨(by rw [hst.1, ht156o]; omega), (by rw [hst.2.1, ht156l]; omega), (by rw [htw157]; omega), (by rw [htw157, hst.1, ht156o]; exact hX149)⟩))) | (exfalso; omega))) (by omega) hw hS (lv_sub hl [5, 6, 7, 8, 9, 10, 11, 0] rfl)
                    · replace c132 := cz_geF gz131 c132
                      clear gz131
                      refine lv_lload hx hb dX9_fieldsBack_218 (lv_at hl 0 rfl) ?_
                      refine lv_goto (tgt := 249) hx hb dX9_fieldsBack_220 (by decide) ?_
                      refine x_last hx hb hK.1 hw hS (by first | exact Int.le_refl 0 | omega) (by first | exact zlt hc56 | omega) ar_56 (len_E ar_56 (by first | exact Nat.ne_of_beq_eq_false rfl | decide)) (by omega) (by omega) (by omega) dX9_fieldsBack_249 (fun H locs hw hS => ?_)
                      obtain ⟨X158, hX158⟩ : ∃ Xq, Xq = u3 Xa 56 0 ((5 * (bs + r)) + z8) (X 75 0 ((5 * ((30 * sv) + r)) + k)) := ⟨_, rfl⟩
                      rw [← hX158] at hw
                      have hRX158 : Rng X158 := by rw [hX158]; exact rng_set hRXa (show (-9223372036854775808) ≤ (X 75 0 ((5 * ((30 * sv) + r)) + k)) ∧ (X 75 0 ((5 * ((30 * sv) + r)) + k)) ≤ 9223372036854775807 by omega)
                      have hVX158 : X158 56 0 ((5 * (bs + r)) + z8) = (X 75 0 ((5 * ((30 * sv) + r)) + k)) := by rw [hX158]; exact u3_s _ _ _ _ _
                      have hFX158 : Frm [5600, 6000, 5700, 5800, 5900, 8500, 4042, 4043, 4044] X X158 := by rw [hX158]; exact Frm.set hFXa (show 5600 ∈ [5600, 6000, 5700, 5800, 5900, 8500, 4042, 4043, 4044] by first | exact nlm_in rfl | decide)
                      refine lv_iinc (v := jI (k + 1)) (lv' := [(7, .int (jI (k + 1))), (11, .long (jL (X 75 0 ((5 * ((30 * sv) + r)) + k)))), (10, .int (jI (X 46 0 ((5 * (X 55 0 (bs + r))) + z8)))), (9, .int (jI z8)), (8, .int (jI ((5 * ((30 * sv) + r)) + k))), (0, .ref (ad 40 0)), (1, .int (jI sv)), (2, .int (jI r)), (3, .int (jI rule)), (4, .int (jI bs)), (5, .int (jI (bs + r))), (6, .int (jI (X 55 0 (bs + r))))]) hx hb dX9_fieldsBack_250 hl (k := 11) rfl (jI_add _ _) (by decide) rfl (fun ls hl => ?_)
                      refine lv_goto (tgt := 18) hx hb dX9_fieldsBack_253 (by decide) ?_
                      have q159 : Frm [5600, 6000, 5700, 5800, 5900, 8500] X Xa := Frm.tr Frm.rf (Frm.mono hGXa (by first | exact nls_of rfl | decide))
                      have q160 : Frm [5600, 6000, 5700, 5800, 5900, 8500] X X158 := by rw [hX158]; exact Frm.set q159 (show 5600 ∈ [5600, 6000, 5700, 5800, 5900, 8500] by first | exact nlm_in rfl | decide)
                      have e161 : Xa 40 0 13 = X 40 0 13 := by rw [hGXa 40 0 13 (show 4014 ∉ [5600, 6000, 5700, 5800, 5900, 8500] by first | exact nlm_ni rfl | decide)]
                      have e162 : ∀ j : Int, Xa 44 0 j = X 44 0 j := fun j => by rw [hGXa 44 0 j (show 4400 ∉ [5600, 6000, 5700, 5800, 5900, 8500] by first | exact nlm_ni rfl | decide)]
                      have e163 : ∀ j : Int, Xa 55 0 j = X 55 0 j := fun j => by rw [hGXa 55 0 j (show 5500 ∉ [5600, 6000, 5700, 5800, 5900, 8500] by first | exact nlm_ni rfl | decide)]
                      have e164 : ∀ j : Int, Xa 46 0 j = X 46 0 j := fun j => by rw [hGXa 46 0 j (show 4600 ∉ [5600, 6000, 5700, 5800, 5900, 8500] by first | exact nlm_ni rfl | decide)]
                      have ht165o : toM X sv r k = z8 := by unfold toM; rw [← htt]; exact (p10.2.2.2).symm
                      have ht165l : tlM X sv r k = X 46 0 (5 * X 55 0 (bs + r) + z8) := by unfold tlM; rw [ht165o, ← htt]
                      have htw166 : twM Xa sv r k = (X 75 0 ((5 * ((30 * sv) + r)) + k)) := (by rw [hst.2.2.2.1]; unfold twM tvM; rw [ht165l]; split <;> omega)
                      exact ih18 (k + 1) X158 _ _ _ (by omega) hRX158 q160 (by omega) (by rw [hX158]; exact minv_xval hMIXa hRXa (by omega) (by simp only [e161, e162, e163, e164]; omega) (by omega) (by simp only [e161, e162, e163, e164]; omega) (by unfold tyv; simp only [e161, e162, e163, e164]; exact ⟨fun _ => by omega, fun _ => by omega, fun _ => by omega⟩)) (fun j hj => (by rw [hX158, u3_j _ _ _ _ (by omega)]; exact hlo j hj)) (fTrM.push hTr (by omega) (by rw [hst.2.2.2.2]; exact (by unfold fvM; rw [ht165o, ht165l]; exact fvF_0 (by omega) (by (try delta Hid at *); omega) (by unfold tvM andZ; omega))) (Or.inr (Or.inl ⟨(by rw [hst.1, ht165o]; omega), (by rw [hst.2.1, ht165l, htw166]; omega), (by rw [htw166, hst.1, ht165o]; exact hX158)⟩))) (by omega) hw hS (lv_sub hl [5, 6, 7, 8, 9, 10, 11, 0] rfl)
                · refine lv_iload_n hx hb dX9_fieldsBack_167 rfl (lv_at hl 7 rfl) ?_
                  refine lv_iconst (v := jI 2) hx hb dX9_fieldsBack_168 rfl ?_
                  refine lv_iand hx hb dX9_fieldsBack_169 ?_
                  refine x_eqi (fun z167 hz167 ez167 => ?_)
                  refine x_if_ne (tgt := 189) hx hb (by omega) dX9_fieldsBack_170 (by decide) (fun c168 => ?_) (fun c168 => ?_)
                  · refine lv_ldc2 (v := jL (-1)) hx hb hown (hts (.constantLong RX9 168 (-1)) (by first | exact gj_X9_fieldsBack_0 _ (gp_4 (gp_1 (gp_1 (gp_1 gp_h)))) | decide +kernel)) dX9_fieldsBack_189 ?_
                    refine lv_lstore (lv' := [(11, .long (jL (-1))), (10, .int (jI (X 46 0 ((5 * (X 55 0 (bs + r))) + z8)))), (9, .int (jI z8)), (8, .int (jI ((5 * ((30 * sv) + r)) + k))), (0, .ref (ad 40 0)), (1, .int (jI sv)), (2, .int (jI r)), (3, .int (jI rule)), (4, .int (jI bs)), (5, .int (jI (bs + r))), (6, .int (jI (X 55 0 (bs + r)))), (7, .int (jI k))]) hx hb dX9_fieldsBack_192 hl (by decide) rfl (fun ls hl => ?_)
                    refine lv_aload_n hx hb dX9_fieldsBack_194 rfl (lv_at hl 4 rfl) ?_
                    refine x_geto hx hb hf9 hw (by first | exact Int.le_refl 0 | omega) (by first | exact zlt hc40 | omega) sl_40_15 lk48 dX9_fieldsBack_195 ?_
                    refine lv_iconst (v := jI 5) hx hb dX9_fieldsBack_198 rfl ?_
                    refine lv_iload hx hb dX9_fieldsBack_199 (lv_at hl 9 rfl) ?_
                    refine x_imul hx hb dX9_fieldsBack_201 ?_
                    refine lv_iload hx hb dX9_fieldsBack_202 (lv_at hl 2 rfl) ?_
                    refine x_iadd hx hb dX9_fieldsBack_204 ?_
                    refine lv_iload hx hb dX9_fieldsBack_205 (lv_at hl 1 rfl) ?_
                    refine lv_iconst (v := jI 2) hx hb dX9_fieldsBack_207 rfl ?_
                    refine x_icmp_lt (tgt := 218) hx hb (by omega) (by omega) dX9_fieldsBack_208 (by decide) (fun c169 => ?_) (fun c169 => ?_)
                    · refine lv_lload hx hb dX9_fieldsBack_218 (lv_at hl 0 rfl) ?_
                      refine lv_goto (tgt := 249) hx hb dX9_fieldsBack_220 (by decide) ?_
                      refine x_last hx hb hK.1 hw hS (by first | exact Int.le_refl 0 | omega) (by first | exact zlt hc56 | omega) ar_56 (len_E ar_56 (by first | exact Nat.ne_of_beq_eq_false rfl | decide)) (by omega) (by omega) (by omega) dX9_fieldsBack_249 (fun H locs hw hS => ?_)
                      obtain ⟨X170, hX170⟩ : ∃ Xq, Xq = u3 Xa 56 0 ((5 * (bs + r)) + z8) (-1) := ⟨_, rfl⟩
                      rw [← hX170] at hw
                      have hRX170 : Rng X170 := by rw [hX170]; exact rng_set hRXa (show (-9223372036854775808) ≤ (-1) ∧ (-1) ≤ 9223372036854775807 by omega)
                      have hVX170 : X170 56 0 ((5 * (bs + r)) + z8) = (-1) := by rw [hX170]; exact u3_s _ _ _ _ _
                      have hFX170 : Frm [5600, 6000, 5700, 5800, 5900, 8500, 4042, 4043, 4044] X X170 := by rw [hX170]; exact Frm.set hFXa (show 5600 ∈ [5600, 6000, 5700, 5800, 5900, 8500, 4042, 4043, 4044] by first | exact nlm_in rfl | decide)
                      refine lv_iinc (v := jI (k + 1)) (lv' := [(7, .int (jI (k + 1))), (11, .long (jL (-1))), (10, .int (jI (X 46 0 ((5 * (X 55 0 (bs + r))) + z8)))), (9, .int (jI z8)), (8, .int (jI ((5 * ((30 * sv) + r)) + k))), (0, .ref (ad 40 0)), (1, .int (jI sv)), (2, .int (jI r)), (3, .int (jI rule)), (4, .int (jI bs)), (5, .int (jI (bs + r))), (6, .int (jI (X 55 0 (bs + r))))]) hx hb dX9_fieldsBack_250 hl (k := 11) rfl (jI_add _ _) (by decide) rfl (fun ls hl => ?_)
                      refine lv_goto (tgt := 18) hx hb dX9_fieldsBack_253 (by decide) ?_
                      have q171 : Frm [5600, 6000, 5700, 5800, 5900, 8500] X Xa := Frm.tr Frm.rf (Frm.mono hGXa (by first | exact nls_of rfl | decide))
                      have q172 : Frm [5600, 6000, 5700, 5800, 5900, 8500] X X170 := by rw [hX170]; exact Frm.set q171 (show 5600 ∈ [5600, 6000, 5700, 5800, 5900, 8500] by first | exact nlm_in rfl | decide)
                      have e173 : Xa 40 0 13 = X 40 0 13 := by rw [hGXa 40 0 13 (show 4014 ∉ [5600, 6000, 5700, 5800, 5900, 8500] by first | exact nlm_ni rfl | decide)]
                      have e174 : ∀ j : Int, Xa 44 0 j = X 44 0 j := fun j => by rw [hGXa 44 0 j (show 4400 ∉ [5600, 6000, 5700, 5800, 5900, 8500] by first | exact nlm_ni rfl | decide)]
                      have e175 : ∀ j : Int, Xa 55 0 j = X 55 0 j := fun j => by rw [hGXa 55 0 j (show 5500 ∉ [5600, 6000, 5700, 5800, 5900, 8500] by first | exact nlm_ni rfl | decide)]
                      have e176 : ∀ j : Int, Xa 46 0 j = X 46 0 j := fun j => by rw [hGXa 46 0 j (show 4600 ∉ [5600, 6000, 5700, 5800, 5900, 8500] by first | exact nlm_ni rfl | decide)]
                      have ht177o : toM X sv r k = z8 := by unfold toM; rw [← htt]; exact (p10.2.2.2).symm
                      have ht177l : tlM X sv r k = X 46 0 (5 * X 55 0 (bs + r) + z8) := by unfold tlM; rw [ht177o, ← htt]
                      have htw178 : twM Xa sv r k = (-1) := (by rw [hst.2.2.2.1]; unfold twM tvM; rw [ht177l]; split <;> omega)
                      exact ih18 (k + 1) X170 _ _ _ (by omega) hRX170 q172 (by omega) (by rw [hX170]; exact minv_xval hMIXa hRXa (by omega) (by simp only [e173, e174, e175, e176]; omega) (by omega) (by simp only [e173, e174, e175, e176]; omega) (by unfold tyv; simp only [e173, e174, e175, e176]; exact ⟨fun _ => by omega, fun _ => by omega, fun _ => by omega⟩)) (fun j hj => (by rw [hX170, u3_j _ _ _ _ (by omega)]; exact hlo j hj)) (fTrM.push hTr (by omega) (by rw [hst.2.2.2.2]; exact (by unfold fvM; rw [ht177o, ht177l]; exact fvF_0 (by omega) (by (try delta Hid at *); omega) (by unfold tvM andZ; omega))) (Or.inr (Or.inl ⟨(by rw [hst.1, ht177o]; omega), (by rw [hst.2.1, ht177l, htw178]; omega), (by rw [htw178, hst.1, ht177o]; exact hX170)⟩))) (by omega) hw hS (lv_sub hl [5, 6, 7, 8, 9, 10, 11, 0] rfl)
                    · refine lv_lload hx hb dX9_fieldsBack_211 (lv_at hl 0 rfl) ?_
                      refine lv_lconst (v := jL 0) hx hb dX9_fieldsBack_213 (by decide) ?_
                      refine x_lcmp hx hb (by omega) (by omega) dX9_fieldsBack_214 ?_
                      obtain ⟨z179, ez179⟩ : ∃ y : Int, y = cmpZ (-1) 0 := ⟨_, rfl⟩
                      rw [← ez179]
                      have gz179 : (z179 < 0 ↔ ((-1) : Int) < 0) ∧ (z179 = 0 ↔ ((-1) : Int) = 0) ∧ -1 ≤ z179 ∧ z179 ≤ 1 := by rw [ez179]; exact ⟨cmpZ_lt, cmpZ_eq, (cmpZ_r _ _).1, (cmpZ_r _ _).2⟩
                      clear ez179
                      refine x_if_ge (tgt := 223) hx hb (by omega) dX9_fieldsBack_215 (by decide) (fun c180 => ?_) (fun c180 => ?_)
                      · replace c180 := cz_geT gz179 c180
                        clear gz179
                        refine lv_iload hx hb dX9_fieldsBack_223 (lv_at hl 1 rfl) ?_
                        refine lv_iconst (v := jI 2) hx hb dX9_fieldsBack_225 rfl ?_
                        refine x_icmp_ne (tgt := 238) hx hb (by omega) (by omega) dX9_fieldsBack_226 (by decide) (fun c181 => ?_) (fun c181 => ?_)
                        · refine lv_aload_n hx hb dX9_fieldsBack_238 rfl (lv_at hl 4 rfl) ?_
                          refine lv_iload_n hx hb dX9_fieldsBack_239 rfl (lv_at hl 5 rfl) ?_
                          refine lv_lload hx hb dX9_fieldsBack_240 (lv_at hl 0 rfl) ?_
                          refine x_l2i hx hb dX9_fieldsBack_242 ?_
                          refine lv_iload hx hb dX9_fieldsBack_243 (lv_at hl 1 rfl) ?_
                          refine gos_i (run_V (As := [.int (jI sv), .int (jI (-1)), .int (jI (X 46 0 ((5 * (X 55 0 (bs + r))) + z8)))]) (rest := [.int (jI ((5 * (bs + r)) + z8)), .ref (ad 56 0)]) hx hb hml hown hts (c_X9_rowBack l D tc base ad cnt Xa Y ln hRXa hFx hMIXa sv (-1) (X 46 0 ((5 * (X 55 0 (bs + r))) + z8)) (by omega) (by omega) (by omega)) (cwV 3 hts gX9_fieldsBack_X9_rowBack rfl rfl rfl (by first | exact hd_X9_rowBack | decide +kernel) ⟨Nat.le_of_ble_eq_true rfl, Nat.le_of_ble_eq_true rfl⟩) hK hw (by first | exact Int.le_refl 0 | omega) (by first | exact zlt hc40 | omega) sl_40_0 rfl rfl hl.1 rfl (Nat.le_of_ble_eq_true rfl) dX9_fieldsBack_245 ⟨Nat.le_of_ble_eq_true rfl, Nat.le_of_ble_eq_true rfl⟩) hS (fun z182 u183 H locs p184 hw hS => ?_)
                          obtain ⟨X185, eu183, hRX185, hG186, hMIX185, p184, hrbkX185⟩ := p184
                          subst eu183
                          have hFX185 : Frm [5600, 6000, 5700, 5800, 5900, 8500, 4042, 4043, 4044] X X185 := Frm.tr hFXa (Frm.mono hG186 (by first | exact nls_of rfl | decide))
                          refine x_i2l hx hb (by omega) dX9_fieldsBack_248 ?_
                          refine x_last hx hb hK.1 hw hS (by first | exact Int.le_refl 0 | omega) (by first | exact zlt hc56 | omega) ar_56 (len_E ar_56 (by first | exact Nat.ne_of_beq_eq_false rfl | decide)) (by omega) (by omega) (by omega) dX9_fieldsBack_249 (fun H locs hw hS => ?_)
                          obtain ⟨X187, hX187⟩ : ∃ Xq, Xq = u3 X185 56 0 ((5 * (bs + r)) + z8) z182 := ⟨_, rfl⟩
                          rw [← hX187] at hw
                          have hRX187 : Rng X187 := by rw [hX187]; exact rng_set hRX185 (show (-9223372036854775808) ≤ z182 ∧ z182 ≤ 9223372036854775807 by omega)
                          have hVX187 : X187 56 0 ((5 * (bs + r)) + z8) = z182 := by rw [hX187]; exact u3_s _ _ _ _ _
                          have hFX187 : Frm [5600, 6000, 5700, 5800, 5900, 8500, 4042, 4043, 4044] X X187 := by rw [hX187]; exact Frm.set hFX185 (show 5600 ∈ [5600, 6000, 5700, 5800, 5900, 8500, 4042, 4043, 4044] by first | exact nlm_in rfl | decide)
                          refine lv_iinc (v := jI (k + 1)) (lv' := [(7, .int (jI (k + 1))), (11, .long (jL (-1))), (10, .int (jI (X 46 0 ((5 * (X 55 0 (bs + r))) + z8)))), (9, .int (jI z8)), (8, .int (jI ((5 * ((30 * sv) + r)) + k))), (0, .ref (ad 40 0)), (1, .int (jI sv)), (2, .int (jI r)), (3, .int (jI rule)), (4, .int (jI bs)), (5, .int (jI (bs + r))), (6, .int (jI (X 55 0 (bs + r))))]) hx hb dX9_fieldsBack_250 hl (k := 11) rfl (jI_add _ _) (by decide) rfl (fun ls hl => ?_)
                          refine lv_goto (tgt := 18) hx hb dX9_fieldsBack_253 (by decide) ?_
                          have q188 : Frm [5600, 6000, 5700, 5800, 5900, 8500] X Xa := Frm.tr Frm.rf (Frm.mono hGXa (by first | exact nls_of rfl | decide))
                          have q189 : Frm [5600, 6000, 5700, 5800, 5900, 8500] X X185 := Frm.tr q188 (Frm.mono hG186 (by first | exact nls_of rfl | decide))
                          have q190 : Frm [5600, 6000, 5700, 5800, 5900, 8500] X X187 := by rw [hX187]; exact Frm.set q189 (show 5600 ∈ [5600, 6000, 5700, 5800, 5900, 8500] by first | exact nlm_in rfl | decide)
                          have e191 : X185 40 0 13 = X 40 0 13 := by rw [hG186 40 0 13 (show 4014 ∉ [6000, 5700, 5800, 5900, 8500] by first | exact nlm_ni rfl | decide), hGXa 40 0 13 (show 4014 ∉ [5600, 6000, 5700, 5800, 5900, 8500] by first | exact nlm_ni rfl | decide)]
                          have e192 : ∀ j : Int, X185 44 0 j = X 44 0 j := fun j => by rw [hG186 44 0 j (show 4400 ∉ [6000, 5700, 5800, 5900, 8500] by first | exact nlm_ni rfl | decide), hGXa 44 0 j (show 4400 ∉ [5600, 6000, 5700, 5800, 5900, 8500] by first | exact nlm_ni rfl | decide)]
                          have e193 : ∀ j : Int, X185 55 0 j = X 55 0 j := fun j => by rw [hG186 55 0 j (show 5500 ∉ [6000, 5700, 5800, 5900, 8500] by first | exact nlm_ni rfl | decide), hGXa 55 0 j (show 5500 ∉ [5600, 6000, 5700, 5800, 5900, 8500] by first | exact nlm_ni rfl | decide)]
                          have e194 : ∀ j : Int, X185 46 0 j = X 46 0 j := fun j => by rw [hG186 46 0 j (show 4600 ∉ [6000, 5700, 5800, 5900, 8500] by first | exact nlm_ni rfl | decide), hGXa 46 0 j (show 4600 ∉ [5600, 6000, 5700, 5800, 5900, 8500] by first | exact nlm_ni rfl | decide)]
                          have ht195o : toM X sv r k = z8 := by unfold toM; rw [← htt]; exact (p10.2.2.2).symm
                          have ht195l : tlM X sv r k = X 46 0 (5 * X 55 0 (bs + r) + z8) := by unfold tlM; rw [ht195o, ← htt]
                          have htw196 : twM Xa sv r k = X 75 0 (5 * (30 * sv + r) + k) := (by rw [hst.2.2.2.1]; unfold twM tvM; rw [ht195l]; split <;> omega)
                          exact ih18 (k + 1) X187 _ _ _ (by omega) hRX187 q190 (by omega) (by rw [hX187]; exact minv_xval hMIX185 hRX185 (by omega) (by simp only [e191, e192, e193, e194]; omega) (by omega) (by simp only [e191, e192, e193, e194]; omega) (by unfold tyv; simp only [e191, e192, e193, e194]; exact ⟨fun _ => by omega, fun _ => by omega, fun _ => by omega⟩)) (fun j hj => (by rw [hX187, u3_j _ _ _ _ (by omega), hG186 56 0 j (show 5600 ∉ [6000, 5700, 5800, 5900, 8500] by first | exact nlm_ni rfl | decide)]; exact hlo j hj)) ((by first | exact fTrM.push hTr (by omega) (by rw [hst.2.2.2.2]; exact (by unfold fvM; rw [ht195o, ht195l]; exact fvF_0 (by omega) (by (try delta Hid at *); omega) (by unfold tvM andZ; omega))) (Or.inr (Or.inr (Or.inr ⟨(by rw [hst.1, ht195o]; omega), (by rw [hst.2.1, ht195l]; omega), (by rw [htw196]; omega), X185, z182, (by rw [htw196, hst.2.1, ht195l]; exact hrbkX185), (by rw [hst.1, ht195o]; exact hX187)⟩))) | (exfalso; omega))) (by omega) hw hS (lv_sub hl [5, 6, 7, 8, 9, 10, 11, 0] rfl)
                        · refine lv_iload hx hb dX9_fieldsBack_229 (lv_at hl 8 rfl) ?_
                          refine x_i2l hx hb (by omega) dX9_fieldsBack_231 ?_
                          refine lv_lload hx hb dX9_fieldsBack_232 (lv_at hl 0 rfl) ?_
                          refine x_ladd hx hb dX9_fieldsBack_234 ?_
                          refine lv_goto (tgt := 249) hx hb dX9_fieldsBack_235 (by decide) ?_
                          refine x_last hx hb hK.1 hw hS (by first | exact Int.le_refl 0 | omega) (by first | exact zlt hc56 | omega) ar_56 (len_E ar_56 (by first | exact Nat.ne_of_beq_eq_false rfl | decide)) (by omega) (by omega) (by omega) dX9_fieldsBack_249 (fun H locs hw hS => ?_)
                          obtain ⟨X197, hX197⟩ : ∃ Xq, Xq = u3 Xa 56 0 ((5 * (bs + r)) + z8) (bs + (-1)) := ⟨_, rfl⟩
                          rw [← hX197] at hw
                          have hRX197 : Rng X197 := by rw [hX197]; exact rng_set hRXa (show (-9223372036854775808) ≤ (bs + (-1)) ∧ (bs + (-1)) ≤ 9223372036854775807 by omega)
                          have hVX197 : X197 56 0 ((5 * (bs + r)) + z8) = (bs + (-1)) := by rw [hX197]; exact u3_s _ _ _ _ _
                          have hFX197 : Frm [5600, 6000, 5700, 5800, 5900, 8500, 4042, 4043, 4044] X X197 := by rw [hX197]; exact Frm.set hFXa (show 5600 ∈ [5600, 6000, 5700, 5800, 5900, 8500, 4042, 4043, 4044] by first | exact nlm_in rfl | decide)
                          refine lv_iinc (v := jI (k + 1)) (lv' := [(7, .int (jI (k + 1))), (11, .long (jL (-1))), (10, .int (jI (X 46 0 ((5 * (X 55 0 (bs + r))) + z8)))), (9, .int (jI z8)), (8, .int (jI ((5 * ((30 * sv) + r)) + k))), (0, .ref (ad 40 0)), (1, .int (jI sv)), (2, .int (jI r)), (3, .int (jI rule)), (4, .int (jI bs)), (5, .int (jI (bs + r))), (6, .int (jI (X 55 0 (bs + r))))]) hx hb dX9_fieldsBack_250 hl (k := 11) rfl (jI_add _ _) (by decide) rfl (fun ls hl => ?_)
                          refine lv_goto (tgt := 18) hx hb dX9_fieldsBack_253 (by decide) ?_
                          have q198 : Frm [5600, 6000, 5700, 5800, 5900, 8500] X Xa := Frm.tr Frm.rf (Frm.mono hGXa (by first | exact nls_of rfl | decide))
                          have q199 : Frm [5600, 6000, 5700, 5800, 5900, 8500] X X197 := by rw [hX197]; exact Frm.set q198 (show 5600 ∈ [5600, 6000, 5700, 5800, 5900, 8500] by first | exact nlm_in rfl | decide)
                          have e200 : Xa 40 0 13 = X 40 0 13 := by rw [hGXa 40 0 13 (show 4014 ∉ [5600, 6000, 5700, 5800, 5900, 8500] by first | exact nlm_ni rfl | decide)]
                          have e201 : ∀ j : Int, Xa 44 0 j = X 44 0 j := fun j => by rw [hGXa 44 0 j (show 4400 ∉ [5600, 6000, 5700, 5800, 5900, 8500] by first | exact nlm_ni rfl | decide)]
                          have e202 : ∀ j : Int, Xa 55 0 j = X 55 0 j := fun j => by rw [hGXa 55 0 j (show 5500 ∉ [5600, 6000, 5700, 5800, 5900, 8500] by first | exact nlm_ni rfl | decide)]
                          have e203 : ∀ j : Int, Xa 46 0 j = X 46 0 j := fun j => by rw [hGXa 46 0 j (show 4600 ∉ [5600, 6000, 5700, 5800, 5900, 8500] by first | exact nlm_ni rfl | decide)]
                          have ht204o : toM X sv r k = z8 := by unfold toM; rw [← htt]; exact (p10.2.2.2).symm
                          have ht204l : tlM X sv r k = X 46 0 (5 * X 55 0 (bs + r) + z8) := by unfold tlM; rw [ht204o, ← htt]
                          have htw205 : twM Xa sv r k = X 75 0 (5 * (30 * sv + r) + k) := (by rw [hst.2.2.2.1]; unfold twM tvM; rw [ht204l]; split <;> omega)
                          exact ih18 (k + 1) X197 _ _ _ (by omega) hRX197 q199 (by omega) (by rw [hX197]; exact minv_xval hMIXa hRXa (by omega) (by simp only [e200, e201, e202, e203]; omega) (by omega) (by simp only [e200, e201, e202, e203]; omega) (by unfold tyv; simp only [e200, e201, e202, e203]; exact ⟨fun _ => by omega, fun _ => by omega, fun _ => by omega⟩)) (fun j hj => (by rw [hX197, u3_j _ _ _ _ (by omega)]; exact hlo j hj)) ((by first | exact fTrM.push hTr (by omega) (by rw [hst.2.2.2.2]; exact (by unfold fvM; rw [ht204o, ht204l]; exact fvF_0 (by omega) (by (try delta Hid at *); omega) (by unfold tvM andZ; omega))) (Or.inr (Or.inr (Or.inl ⟨(by rw [hst.1, ht204o]; omega), (by rw [hst.2.1, ht204l]; omega), (by rw [htw205]; omega), (by rw [htw205, hst.1, ht204o]; exact hX197)⟩))) | (exfalso; omega))) (by omega) hw hS (lv_sub hl [5, 6, 7, 8, 9, 10, 11, 0] rfl)
                      · replace c180 := cz_geF gz179 c180
                        clear gz179
                        refine lv_lload hx hb dX9_fieldsBack_218 (lv_at hl 0 rfl) ?_
                        refine lv_goto (tgt := 249) hx hb dX9_fieldsBack_220 (by decide) ?_
                        refine x_last hx hb hK.1 hw hS (by first | exact Int.le_refl 0 | omega) (by first | exact zlt hc56 | omega) ar_56 (len_E ar_56 (by first | exact Nat.ne_of_beq_eq_false rfl | decide)) (by omega) (by omega) (by omega) dX9_fieldsBack_249 (fun H locs hw hS => ?_)
                        obtain ⟨X206, hX206⟩ : ∃ Xq, Xq = u3 Xa 56 0 ((5 * (bs + r)) + z8) (-1) := ⟨_, rfl⟩
                        rw [← hX206] at hw
                        have hRX206 : Rng X206 := by rw [hX206]; exact rng_set hRXa (show (-9223372036854775808) ≤ (-1) ∧ (-1) ≤ 9223372036854775807 by omega)
                        have hVX206 : X206 56 0 ((5 * (bs + r)) + z8) = (-1) := by rw [hX206]; exact u3_s _ _ _ _ _
                        have hFX206 : Frm [5600, 6000, 5700, 5800, 5900, 8500, 4042, 4043, 4044] X X206 := by rw [hX206]; exact Frm.set hFXa (show 5600 ∈ [5600, 6000, 5700, 5800, 5900, 8500, 4042, 4043, 4044] by first | exact nlm_in rfl | decide)
                        refine lv_iinc (v := jI (k + 1)) (lv' := [(7, .int (jI (k + 1))), (11, .long (jL (-1))), (10, .int (jI (X 46 0 ((5 * (X 55 0 (bs + r))) + z8)))), (9, .int (jI z8)), (8, .int (jI ((5 * ((30 * sv) + r)) + k))), (0, .ref (ad 40 0)), (1, .int (jI sv)), (2, .int (jI r)), (3, .int (jI rule)), (4, .int (jI bs)), (5, .int (jI (bs + r))), (6, .int (jI (X 55 0 (bs + r))))]) hx hb dX9_fieldsBack_250 hl (k := 11) rfl (jI_add _ _) (by decide) rfl (fun ls hl => ?_)
                        refine lv_goto (tgt := 18) hx hb dX9_fieldsBack_253 (by decide) ?_
                        have q207 : Frm [5600, 6000, 5700, 5800, 5900, 8500] X Xa := Frm.tr Frm.rf (Frm.mono hGXa (by first | exact nls_of rfl | decide))
                        have q208 : Frm [5600, 6000, 5700, 5800, 5900, 8500] X X206 := by rw [hX206]; exact Frm.set q207 (show 5600 ∈ [5600, 6000, 5700, 5800, 5900, 8500] by first | exact nlm_in rfl | decide)
                        have e209 : Xa 40 0 13 = X 40 0 13 := by rw [hGXa 40 0 13 (show 4014 ∉ [5600, 6000, 5700, 5800, 5900, 8500] by first | exact nlm_ni rfl | decide)]
                        have e210 : ∀ j : Int, Xa 44 0 j = X 44 0 j := fun j => by rw [hGXa 44 0 j (show 4400 ∉ [5600, 6000, 5700, 5800, 5900, 8500] by first | exact nlm_ni rfl | decide)]
                        have e211 : ∀ j : Int, Xa 55 0 j = X 55 0 j := fun j => by rw [hGXa 55 0 j (show 5500 ∉ [5600, 6000, 5700, 5800, 5900, 8500] by first | exact nlm_ni rfl | decide)]
                        have e212 : ∀ j : Int, Xa 46 0 j = X 46 0 j := fun j => by rw [hGXa 46 0 j (show 4600 ∉ [5600, 6000, 5700, 5800, 5900, 8500] by first | exact nlm_ni rfl | decide)]
                        have ht213o : toM X sv r k = z8 := by unfold toM; rw [← htt]; exact (p10.2.2.2).symm
                        have ht213l : tlM X sv r k = X 46 0 (5 * X 55 0 (bs + r) + z8) := by unfold tlM; rw [ht213o, ← htt]
                        have htw214 : twM Xa sv r k = (-1) := (by rw [hst.2.2.2.1]; unfold twM tvM; rw [ht213l]; split <;> omega)
                        exact ih18 (k + 1) X206 _ _ _ (by omega) hRX206 q208 (by omega) (by rw [hX206]; exact minv_xval hMIXa hRXa (by omega) (by simp only [e209, e210, e211, e212]; omega) (by omega) (by simp only [e209, e210, e211, e212]; omega) (by unfold tyv; simp only [e209, e210, e211, e212]; exact ⟨fun _ => by omega, fun _ => by omega, fun _ => by omega⟩)) (fun j hj => (by rw [hX206, u3_j _ _ _ _ (by omega)]; exact hlo j hj)) (fTrM.push hTr (by omega) (by rw [hst.2.2.2.2]; exact (by unfold fvM; rw [ht213o, ht213l]; exact fvF_0 (by omega) (by (try delta Hid at *); omega) (by unfold tvM andZ; omega))) (Or.inr (Or.inl ⟨(by rw [hst.1, ht213o]; omega), (by rw [hst.2.1, ht213l, htw214]; omega), (by rw [htw214, hst.1, ht213o]; exact hX206)⟩))) (by omega) hw hS (lv_sub hl [5, 6, 7, 8, 9, 10, 11, 0] rfl)
                  · refine lv_aload_n hx hb dX9_fieldsBack_173 rfl (lv_at hl 4 rfl) ?_
                    refine lv_bipush (v := jI 7) hx hb dX9_fieldsBack_174 (by decide) ?_
                    refine lv_iload_n hx hb dX9_fieldsBack_176 rfl (lv_at hl 6 rfl) ?_
                    refine lv_aload_n hx hb dX9_fieldsBack_177 rfl (lv_at hl 4 rfl) ?_
                    refine x_geto hx hb hf9 hw (by first | exact Int.le_refl 0 | omega) (by first | exact zlt hc40 | omega) sl_40_32 lk90 dX9_fieldsBack_178 ?_
                    refine lv_iload hx hb dX9_fieldsBack_181 (lv_at hl 3 rfl) ?_
                    refine x_iald hx hb hK.1 hw (by first | exact Int.le_refl 0 | omega) (by first | exact zlt hc73 | omega) ar_73 (len_E ar_73 (by first | exact Nat.ne_of_beq_eq_false rfl | decide)) (by omega) (by omega) (by omega) dX9_fieldsBack_183 ?_
                    have e215 : ∀ p9 q9 : Int, Xa 73 p9 q9 = X 73 p9 q9 := fun p9 q9 => by rw [hGXa 73 p9 q9 (show 7300 ∉ [5600, 6000, 5700, 5800, 5900, 8500] by first | exact nlm_ni rfl | decide)]
                    rw [e215 0 ((5 * ((30 * sv) + r)) + k)]
                    have f216 : 0 ≤ X 73 0 ((5 * ((30 * sv) + r)) + k) ∧ X 73 0 ((5 * ((30 * sv) + r)) + k) ≤ 19 := hR 73 0 ((5 * ((30 * sv) + r)) + k)
                    refine lv_iconst (v := jI (-1)) hx hb dX9_fieldsBack_184 rfl ?_
                    refine gos_i (run_V (As := [.int (jI 7), .int (jI r), .int (jI (X 73 0 ((5 * ((30 * sv) + r)) + k))), .int (jI (-1))]) (rest := []) hx hb hml hown hts (c_X9_faulty l D tc base ad cnt Xa Y ln hRXa hFx hMIXa 7 r (X 73 0 ((5 * ((30 * sv) + r)) + k)) (-1) (by omega) (by omega) (by omega) (by omega)) (cwV 4 hts gX9_fieldsBack_X9_faulty rfl rfl rfl (by first | exact hd_X9_faulty | decide +kernel) ⟨Nat.le_of_ble_eq_true rfl, Nat.le_of_ble_eq_true rfl⟩) hK hw (by first | exact Int.le_refl 0 | omega) (by first | exact zlt hc40 | omega) sl_40_0 rfl rfl hl.1 rfl (Nat.le_of_ble_eq_true rfl) dX9_fieldsBack_185 ⟨Nat.le_of_ble_eq_true rfl, Nat.le_of_ble_eq_true rfl⟩) hS (fun z217 u218 H locs p219 hw hS => ?_)
                    obtain ⟨X220, eu218, hRX220, hG221, hMIX220, p219⟩ := p219
                    subst eu218
                    have hFX220 : Frm [5600, 6000, 5700, 5800, 5900, 8500, 4042, 4043, 4044] X X220 := Frm.tr hFXa (Frm.mono hG221 (by first | exact nls_of rfl | decide))
                    rw [hQ9]
                    refine ret_i (mc := 0) (ms := 0) hx hb hr hlocks hw hS (by first | exact Nat.le_of_ble_eq_true rfl | omega) (by first | exact Nat.le_of_ble_eq_true rfl | omega) dX9_fieldsBack_188 ?_
                    have ht222o : toM X sv r k = z8 := by unfold toM; rw [← htt]; exact (p10.2.2.2).symm
                    have ht222l : tlM X sv r k = X 46 0 (5 * X 55 0 (bs + r) + z8) := by unfold tlM; rw [ht222o, ← htt]
                    have hfv223 : fvM Xa sv r k rule = 7 := by rw [hst.2.2.2.2]; exact (by unfold fvM; rw [ht222o, ht222l]; exact fvF_w (by omega) (by (try delta Hid at *); omega) ⟨by omega, by unfold tvM; omega, by unfold tvM; omega, by unfold andZ; omega⟩)
                    have q224 : Frm [4042, 4043, 4044] Xa X220 := Frm.tr Frm.rf (Frm.mono hG221 (by first | exact nls_of rfl | decide))
                    exact ⟨X220, rfl, hRX220, hFX220, hMIX220, by omega, fun j hj => (by rw [hG221 56 0 j (show 5600 ∉ [4042, 4043, 4044] by first | exact nlm_ni rfl | decide)]; exact hlo j hj), Or.inr ⟨by omega, k, Xa, by omega, by omega, hTr, (by rw [hfv223]; decide), (by rw [hfv223]; omega), q224⟩⟩
          · subst ez18
            refine x_if_neF (tgt := 134) hx hb (by omega) (by decide) dX9_fieldsBack_115 (by decide) ?_
            refine lv_aload_n hx hb dX9_fieldsBack_118 rfl (lv_at hl 3 rfl) ?_
            refine lv_bipush (v := jI 9) hx hb dX9_fieldsBack_119 (by decide) ?_
            refine lv_iload_n hx hb dX9_fieldsBack_121 rfl (lv_at hl 5 rfl) ?_
            refine lv_aload_n hx hb dX9_fieldsBack_122 rfl (lv_at hl 3 rfl) ?_
            refine x_geto hx hb hf9 hw (by first | exact Int.le_refl 0 | omega) (by first | exact zlt hc40 | omega) sl_40_32 lk90 dX9_fieldsBack_123 ?_
            refine lv_iload hx hb dX9_fieldsBack_126 (lv_at hl 2 rfl) ?_
            refine x_iald hx hb hK.1 hw (by first | exact Int.le_refl 0 | omega) (by first | exact zlt hc73 | omega) ar_73 (len_E ar_73 (by first | exact Nat.ne_of_beq_eq_false rfl | decide)) (by omega) (by omega) (by omega) dX9_fieldsBack_128 ?_
            have e225 : ∀ p9 q9 : Int, Xa 73 p9 q9 = X 73 p9 q9 := fun p9 q9 => by rw [hGXa 73 p9 q9 (show 7300 ∉ [5600, 6000, 5700, 5800, 5900, 8500] by first | exact nlm_ni rfl | decide)]
            rw [e225 0 ((5 * ((30 * sv) + r)) + k)]
            have f226 : 0 ≤ X 73 0 ((5 * ((30 * sv) + r)) + k) ∧ X 73 0 ((5 * ((30 * sv) + r)) + k) ≤ 19 := hR 73 0 ((5 * ((30 * sv) + r)) + k)
            refine lv_iconst (v := jI (-1)) hx hb dX9_fieldsBack_129 rfl ?_
            refine gos_i (run_V (As := [.int (jI 9), .int (jI r), .int (jI (X 73 0 ((5 * ((30 * sv) + r)) + k))), .int (jI (-1))]) (rest := []) hx hb hml hown hts (c_X9_faulty l D tc base ad cnt Xa Y ln hRXa hFx hMIXa 9 r (X 73 0 ((5 * ((30 * sv) + r)) + k)) (-1) (by omega) (by omega) (by omega) (by omega)) (cwV 4 hts gX9_fieldsBack_X9_faulty rfl rfl rfl (by first | exact hd_X9_faulty | decide +kernel) ⟨Nat.le_of_ble_eq_true rfl, Nat.le_of_ble_eq_true rfl⟩) hK hw (by first | exact Int.le_refl 0 | omega) (by first | exact zlt hc40 | omega) sl_40_0 rfl rfl hl.1 rfl (Nat.le_of_ble_eq_true rfl) dX9_fieldsBack_130 ⟨Nat.le_of_ble_eq_true rfl, Nat.le_of_ble_eq_true rfl⟩) hS (fun z227 u228 H locs p229 hw hS => ?_)
            obtain ⟨X230, eu228, hRX230, hG231, hMIX230, p229⟩ := p229
            subst eu228
            have hFX230 : Frm [5600, 6000, 5700, 5800, 5900, 8500, 4042, 4043, 4044] X X230 := Frm.tr hFXa (Frm.mono hG231 (by first | exact nls_of rfl | decide))
            rw [hQ9]
            refine ret_i (mc := 0) (ms := 0) hx hb hr hlocks hw hS (by first | exact Nat.le_of_ble_eq_true rfl | omega) (by first | exact Nat.le_of_ble_eq_true rfl | omega) dX9_fieldsBack_133 ?_
            have ht232o : toM X sv r k = z8 := by unfold toM; rw [← htt]; exact (p10.2.2.2).symm
            have ht232l : tlM X sv r k = X 46 0 (5 * X 55 0 (bs + r) + z8) := by unfold tlM; rw [ht232o, ← htt]
            have hfv233 : fvM Xa sv r k rule = 9 := by rw [hst.2.2.2.2]; exact (by unfold fvM; rw [ht232o, ht232l]; exact fvF_l (by omega) (by (try delta Hid at *); omega))
            have q234 : Frm [4042, 4043, 4044] Xa X230 := Frm.tr Frm.rf (Frm.mono hG231 (by first | exact nls_of rfl | decide))
            exact ⟨X230, rfl, hRX230, hFX230, hMIX230, by omega, fun j hj => (by rw [hG231 56 0 j (show 5600 ∉ [4042, 4043, 4044] by first | exact nlm_ni rfl | decide)]; exact hlo j hj), Or.inr ⟨by omega, k, Xa, by omega, by omega, hTr, (by rw [hfv233]; decide), (by rw [hfv233]; omega), q234⟩⟩
        · refine lv_iload_n hx hb dX9_fieldsBack_67 rfl (lv_at hl 5 rfl) ?_
          refine lv_iconst (v := jI 1) hx hb dX9_fieldsBack_68 rfl ?_
          refine lv_iand hx hb dX9_fieldsBack_69 ?_
          refine x_eqi (fun z235 hz235 ez235 => ?_)
          refine x_if_ne (tgt := 250) hx hb (by omega) dX9_fieldsBack_70 (by decide) (fun c236 => ?_) (fun c236 => ?_)
          · refine lv_iinc (v := jI (k + 1)) (lv' := [(7, .int (jI (k + 1))), (9, .int (jI z8)), (8, .int (jI ((5 * ((30 * sv) + r)) + k))), (0, .ref (ad 40 0)), (1, .int (jI sv)), (2, .int (jI r)), (3, .int (jI rule)), (4, .int (jI bs)), (5, .int (jI (bs + r))), (6, .int (jI (X 55 0 (bs + r))))]) hx hb dX9_fieldsBack_250 hl (k := 9) rfl (jI_add _ _) (by decide) rfl (fun ls hl => ?_)
            refine lv_goto (tgt := 18) hx hb dX9_fieldsBack_253 (by decide) ?_
            have q237 : Frm [5600, 6000, 5700, 5800, 5900, 8500] X Xa := Frm.tr Frm.rf (Frm.mono hGXa (by first | exact nls_of rfl | decide))
            have ht238o : toM X sv r k = z8 := by unfold toM; rw [← htt]; exact (p10.2.2.2).symm
            have ht238l : tlM X sv r k = X 46 0 (5 * X 55 0 (bs + r) + z8) := by unfold tlM; rw [ht238o, ← htt]
            exact ih18 (k + 1) Xa _ _ _ (by omega) hRXa q237 (by omega) (hMIXa) (fun j hj => (by exact hlo j hj)) (fTrM.push hTr (by omega) (by rw [hst.2.2.2.2]; exact (by unfold fvM; rw [ht238o, ht238l]; exact fvF_g0 (by omega) (by unfold andZ; omega))) (Or.inl ⟨(by rw [hst.1, ht238o]; omega), rfl⟩)) (by omega) hw hS (lv_sub hl [3, 4, 5, 6, 7, 8, 9, 0] rfl)
          · refine lv_aload_n hx hb dX9_fieldsBack_73 rfl (lv_at hl 2 rfl) ?_
            refine lv_bipush (v := jI 8) hx hb dX9_fieldsBack_74 (by decide) ?_
            refine lv_iload_n hx hb dX9_fieldsBack_76 rfl (lv_at hl 4 rfl) ?_
            refine lv_aload_n hx hb dX9_fieldsBack_77 rfl (lv_at hl 2 rfl) ?_
            refine x_geto hx hb hf9 hw (by first | exact Int.le_refl 0 | omega) (by first | exact zlt hc40 | omega) sl_40_32 lk90 dX9_fieldsBack_78 ?_
            refine lv_iload hx hb dX9_fieldsBack_81 (lv_at hl 1 rfl) ?_
            refine x_iald hx hb hK.1 hw (by first | exact Int.le_refl 0 | omega) (by first | exact zlt hc73 | omega) ar_73 (len_E ar_73 (by first | exact Nat.ne_of_beq_eq_false rfl | decide)) (by omega) (by omega) (by omega) dX9_fieldsBack_83 ?_
            have e239 : ∀ p9 q9 : Int, Xa 73 p9 q9 = X 73 p9 q9 := fun p9 q9 => by rw [hGXa 73 p9 q9 (show 7300 ∉ [5600, 6000, 5700, 5800, 5900, 8500] by first | exact nlm_ni rfl | decide)]
            rw [e239 0 ((5 * ((30 * sv) + r)) + k)]
            have f240 : 0 ≤ X 73 0 ((5 * ((30 * sv) + r)) + k) ∧ X 73 0 ((5 * ((30 * sv) + r)) + k) ≤ 19 := hR 73 0 ((5 * ((30 * sv) + r)) + k)
            refine lv_iconst (v := jI (-1)) hx hb dX9_fieldsBack_84 rfl ?_
            refine gos_i (run_V (As := [.int (jI 8), .int (jI r), .int (jI (X 73 0 ((5 * ((30 * sv) + r)) + k))), .int (jI (-1))]) (rest := []) hx hb hml hown hts (c_X9_faulty l D tc base ad cnt Xa Y ln hRXa hFx hMIXa 8 r (X 73 0 ((5 * ((30 * sv) + r)) + k)) (-1) (by omega) (by omega) (by omega) (by omega)) (cwV 4 hts gX9_fieldsBack_X9_faulty rfl rfl rfl (by first | exact hd_X9_faulty | decide +kernel) ⟨Nat.le_of_ble_eq_true rfl, Nat.le_of_ble_eq_true rfl⟩) hK hw (by first | exact Int.le_refl 0 | omega) (by first | exact zlt hc40 | omega) sl_40_0 rfl rfl hl.1 rfl (Nat.le_of_ble_eq_true rfl) dX9_fieldsBack_85 ⟨Nat.le_of_ble_eq_true rfl, Nat.le_of_ble_eq_true rfl⟩) hS (fun z241 u242 H locs p243 hw hS => ?_)
            obtain ⟨X244, eu242, hRX244, hG245, hMIX244, p243⟩ := p243
            subst eu242
            have hFX244 : Frm [5600, 6000, 5700, 5800, 5900, 8500, 4042, 4043, 4044] X X244 := Frm.tr hFXa (Frm.mono hG245 (by first | exact nls_of rfl | decide))
            rw [hQ9]
            refine ret_i (mc := 0) (ms := 0) hx hb hr hlocks hw hS (by first | exact Nat.le_of_ble_eq_true rfl | omega) (by first | exact Nat.le_of_ble_eq_true rfl | omega) dX9_fieldsBack_88 ?_
            have ht246o : toM X sv r k = z8 := by unfold toM; rw [← htt]; exact (p10.2.2.2).symm
            have ht246l : tlM X sv r k = X 46 0 (5 * X 55 0 (bs + r) + z8) := by unfold tlM; rw [ht246o, ← htt]
            have hfv247 : fvM Xa sv r k rule = 8 := by rw [hst.2.2.2.2]; exact (by unfold fvM; rw [ht246o, ht246l]; exact fvF_g (by omega) (by unfold andZ; omega))
            have q248 : Frm [4042, 4043, 4044] Xa X244 := Frm.tr Frm.rf (Frm.mono hG245 (by first | exact nls_of rfl | decide))
            exact ⟨X244, rfl, hRX244, hFX244, hMIX244, by omega, fun j hj => (by rw [hG245 56 0 j (show 5600 ∉ [4042, 4043, 4044] by first | exact nlm_ni rfl | decide)]; exact hlo j hj), Or.inr ⟨by omega, k, Xa, by omega, by omega, hTr, (by rw [hfv247]; decide), (by rw [hfv247]; omega), q248⟩⟩
  exact lp18 (5 - 0 : Int).toNat.succ 0 X _ _ _ (by omega) hR Frm.rf (by omega) (hMI) (fun j hj => rfl) (rfl) (by omega) hw hS (lv_sub hl [3, 4, 5, 6, 7, 2, 1, 0] rfl)
end
section
set_option maxHeartbeats 4000000 in
set_option maxRecDepth 100000 in
theorem c_X9_restore (l : Launch) (D : va_G) (tc : Nat → ClassId) (base : Nat) (ad : Nat → Int → Nat) (cnt : Nat → Int) (X : Nat → Int → Int → Int) (Y : Nat → Int → Int → Option Int) (ln : Int → Int) (hR : Rng X) (hFx : Fx cnt) (hMI : MInv X) (sv rule : Int) (hsv : -2147483648 ≤ sv ∧ sv ≤ 2147483647) (hrule : -2147483648 ≤ rule ∧ rule ≤ 2147483647) : KI l D tc base yX9_restore wsX9_restore ({ frames := 4, cells := 0, slots := 0, locals := 105 } : Room) [.ref (ad 40 0), .int (jI sv), .int (jI rule)] (ad, cnt, X, Y, ln) 0 0 (fun z u => ∃ X1 : Nat → Int → Int → Int, u = (ad, cnt, X1, Y, ln) ∧ Rng X1 ∧ Frm [4001, 4014, 5500, 5600, 4029, 6000, 5700, 5800, 5900, 8500, 4042, 4043, 4044] X X1 ∧ MInv X1 ∧ (-2147483648 ≤ z ∧ z ≤ 2147483647) ∧ ((¬ (0 ≤ sv ∧ sv < 4 ∧ X 70 0 sv ≠ 0) ∧ z = -1 ∧ Frm [4001] X X1) ∨ ((0 ≤ sv ∧ sv < 4 ∧ X 70 0 sv ≠ 0) ∧ ¬ (0 ≤ rule ∧ rule ≤ 3) ∧ z = -2 ∧ Frm [4001] X X1) ∨ ((0 ≤ sv ∧ sv < 4 ∧ X 70 0 sv ≠ 0) ∧ (0 ≤ rule ∧ rule ≤ 3) ∧ 30 < X 40 0 13 + X 70 0 sv ∧ z = -4 ∧ Frm [4001] X X1) ∨ ((0 ≤ sv ∧ sv < 4 ∧ X 70 0 sv ≠ 0) ∧ (0 ≤ rule ∧ rule ≤ 3) ∧ X 40 0 13 + X 70 0 sv ≤ 30 ∧ ∃ A : Nat → Int → Int → Int, rsI X A sv ∧ ((∃ B : Nat → Int → Int → Int, (Rng B ∧ MInv B) ∧ rTrM sv rule (X 40 0 13) (X 70 0 sv).toNat A B ∧ (((∀ r, 0 ≤ r → r < X 70 0 sv → jdM B (X 40 0 13 + r) 0) ∧ z = X 40 0 13 ∧ Frm [4029] B X1) ∨ (∃ r how, 0 ≤ r ∧ r < X 70 0 sv ∧ (∀ r', 0 ≤ r' → r' < r → jdM B (X 40 0 13 + r') 0) ∧ how ≠ 0 ∧ jdM B (X 40 0 13 + r) how ∧ z = -10 - how ∧ X1 40 0 13 = X 40 0 13 ∧ Frm [4014, 4029, 4042, 4043, 4044] B X1))) ∨ (∃ (r : Int) (B P : Nat → Int → Int → Int), 0 ≤ r ∧ r < X 70 0 sv ∧ rTrM sv rule (X 40 0 13) r.toNat A B ∧ fEndM sv r rule (X 40 0 13) z B P ∧ z ≠ 0 ∧ X1 40 0 13 = X 40 0 13 ∧ Frm [4014] P X1))))) := by
  refine K_of (cc := cX9_restore) (maxL := 8) (ret := (some .int)) (by decide) rfl (Nat.le_of_ble_eq_true rfl) ?_
  intro p e s m below meth c ls hx hb hr hml hown hts hlocks hl hK hw hS
  have hown : s.vm.findClass RX9 = some m.cls := hown
  obtain ⟨av9, hav9⟩ : ∃ a9 : Array Value, a9 = ([.ref (ad 40 0), .int (jI sv), .int (jI rule)] : List Value).toArray := ⟨_, rfl⟩
  rw [← hav9] at hts ⊢
  obtain ⟨Q9, hQ9⟩ : ∃ q9Q : State → Prop, q9Q = MQ below (QI D tc base (fun z u => ∃ X1 : Nat → Int → Int → Int, u = (ad, cnt, X1, Y, ln) ∧ Rng X1 ∧ Frm [4001, 4014, 5500, 5600, 4029, 6000, 5700, 5800, 5900, 8500, 4042, 4043, 4044] X X1 ∧ MInv X1 ∧ (-2147483648 ≤ z ∧ z ≤ 2147483647) ∧ ((¬ (0 ≤ sv ∧ sv < 4 ∧ X 70 0 sv ≠ 0) ∧ z = -1 ∧ Frm [4001] X X1) ∨ ((0 ≤ sv ∧ sv < 4 ∧ X 70 0 sv ≠ 0) ∧ ¬ (0 ≤ rule ∧ rule ≤ 3) ∧ z = -2 ∧ Frm [4001] X X1) ∨ ((0 ≤ sv ∧ sv < 4 ∧ X 70 0 sv ≠ 0) ∧ (0 ≤ rule ∧ rule ≤ 3) ∧ 30 < X 40 0 13 + X 70 0 sv ∧ z = -4 ∧ Frm [4001] X X1) ∨ ((0 ≤ sv ∧ sv < 4 ∧ X 70 0 sv ≠ 0) ∧ (0 ≤ rule ∧ rule ≤ 3) ∧ X 40 0 13 + X 70 0 sv ≤ 30 ∧ ∃ A : Nat → Int → Int → Int, rsI X A sv ∧ ((∃ B : Nat → Int → Int → Int, (Rng B ∧ MInv B) ∧ rTrM sv rule (X 40 0 13) (X 70 0 sv).toNat A B ∧ (((∀ r, 0 ≤ r → r < X 70 0 sv → jdM B (X 40 0 13 + r) 0) ∧ z = X 40 0 13 ∧ Frm [4029] B X1) ∨ (∃ r how, 0 ≤ r ∧ r < X 70 0 sv ∧ (∀ r', 0 ≤ r' → r' < r → jdM B (X 40 0 13 + r') 0) ∧ how ≠ 0 ∧ jdM B (X 40 0 13 + r) how ∧ z = -10 - how ∧ X1 40 0 13 = X 40 0 13 ∧ Frm [4014, 4029, 4042, 4043, 4044] B X1))) ∨ (∃ (r : Int) (B P : Nat → Int → Int → Int), 0 ≤ r ∧ r < X 70 0 sv ∧ rTrM sv rule (X 40 0 13) r.toNat A B ∧ fEndM sv r rule (X 40 0 13) z B P ∧ z ≠ 0 ∧ X1 40 0 13 = X 40 0 13 ∧ Frm [4014] P X1)))))) av9 s 0 0 (frA base) := ⟨_, rfl⟩
  rw [← hQ9]
  have hi9 : ∀ w ∈ wsX90, w ∈ wsX9_restore := fun w h => List.mem_cons_of_mem _ (List.mem_append_right _ h)
  have hf9 : fctx s m _ RX9 wsX9_restore D tc RX9 TX9 51 9 := ⟨hts, hi9, hown, hK.1, rfl⟩
  have lk13 := hts (.fieldLink RX9 13 (TX9 3).1 (TX9 3).2.1 (TX9 3).2.2.1) (gj_X9_restore_0 _ (gp_4 (gp_1 (gp_1 gp_h))))
  have lk23 := hts (.fieldLink RX9 23 (TX9 6).1 (TX9 6).2.1 (TX9 6).2.2.1) (gj_X9_restore_0 _ (gp_4 (gp_4 gp_h)))
  have lk45 := hts (.fieldLink RX9 45 (TX9 14).1 (TX9 14).2.1 (TX9 14).2.2.1) (gj_X9_restore_0 _ (gp_4 (gp_1 gp_h)))
  have lk48 := hts (.fieldLink RX9 48 (TX9 15).1 (TX9 15).2.1 (TX9 15).2.2.1) (gj_X9_restore_0 _ (gp_4 (gp_1 (gp_1 (gp_1 gp_h)))))
  have lk81 := hts (.fieldLink RX9 81 (TX9 29).1 (TX9 29).2.1 (TX9 29).2.2.1) (gj_X9_restore_0 _ (gp_1 gp_h))
  have lk84 := hts (.fieldLink RX9 84 (TX9 30).1 (TX9 30).2.1 (TX9 30).2.2.1) (gj_X9_restore_0 _ (gp_4 gp_h))
  have lk127 := hts (.fieldLink RX9 127 (TX9 44).1 (TX9 44).2.1 (TX9 44).2.2.1) (gj_X9_restore_0 _ (gp_1 (gp_1 (gp_1 gp_h))))
  have lk145 := hts (.fieldLink RX9 145 (TX9 0).1 (TX9 0).2.1 (TX9 0).2.2.1) (gj_X9_restore_0 _ (gp_h))
  have lk151 := hts (.fieldLink RX9 151 (TX9 13).1 (TX9 13).2.1 (TX9 13).2.2.1) (gj_X9_restore_0 _ (gp_1 (gp_1 gp_h)))
  have lk206 := hts (.fieldLink RX9 206 (TX9 28).1 (TX9 28).2.1 (TX9 28).2.2.1) (gj_X9_restore_0 _ (gp_4 (gp_4 (gp_1 gp_h))))
  have hc40 : cnt 40 = 1 := hFx.at 40 1 (by decide)
  have hc44 : cnt 44 = 1 := hFx.at 44 1 (by decide)
  have hc47 : cnt 47 = 1 := hFx.at 47 1 (by decide)
  have hc55 : cnt 55 = 1 := hFx.at 55 1 (by decide)
  have hc56 : cnt 56 = 1 := hFx.at 56 1 (by decide)
  have hc70 : cnt 70 = 1 := hFx.at 70 1 (by decide)
  have hc71 : cnt 71 = 1 := hFx.at 71 1 (by decide)
  have hc85 : cnt 85 = 1 := hFx.at 85 1 (by decide)
  have hl : lv_has ls 8 [(0, .ref (ad 40 0)), (1, .int (jI sv)), (2, .int (jI rule))] := hl
  have fstypes : 0 ≤ X 40 0 2 ∧ X 40 0 2 ≤ 8 := hR 40 0 2
  have fsthings : 0 ≤ X 40 0 13 ∧ X 40 0 13 ≤ 30 := hR 40 0 13
  have fsmarks : 0 ≤ X 40 0 20 ∧ X 40 0 20 ≤ 4 := hR 40 0 20
  have fsnotes : 0 ≤ X 40 0 22 ∧ X 40 0 22 ≤ 80 := hR 40 0 22
  refine lv_aload_n hx hb dX9_restore_0 rfl (lv_at hl 0 rfl) ?_
  refine lv_iconst (v := jI 0) hx hb dX9_restore_1 rfl ?_
  refine x_puti (jz := 0) hx hb hf9 ⟨tyX9_ok, nmX9⟩ hw hS (by first | exact Int.le_refl 0 | omega) (by first | exact zlt hc40 | omega) sl_40_0 rfl lk145 rfl (tyX9_ok 0 (by decide)) rfl rfl dX9_restore_2 (fun H locs hw hS => ?_)
  obtain ⟨X1, hX1⟩ : ∃ Xq, Xq = u3 X 40 0 0 0 := ⟨_, rfl⟩
  rw [← hX1] at hw
  have hRX1 : Rng X1 := by rw [hX1]; exact rng_set hR (show (-2147483648) ≤ 0 ∧ 0 ≤ 2147483647 by omega)
  have hVX1 : X1 40 0 0 = 0 := by rw [hX1]; exact u3_s _ _ _ _ _
  have hFX1 : Frm [4001, 4014, 5500, 5600, 4029, 6000, 5700, 5800, 5900, 8500, 4042, 4043, 4044] X X1 := by rw [hX1]; exact Frm.set Frm.rf (show 4001 ∈ [4001, 4014, 5500, 5600, 4029, 6000, 5700, 5800, 5900, 8500, 4042, 4043, 4044] by first | exact nlm_in rfl | decide)
  refine lv_aload_n hx hb dX9_restore_5 rfl (lv_at hl 0 rfl) ?_
  refine lv_iload_n hx hb dX9_restore_6 rfl (lv_at hl 1 rfl) ?_
  refine gos_i (run_V (As := [.int (jI sv)]) (rest := []) hx hb hml hown hts (c_X9_isSave l D tc base ad cnt X1 Y ln hRX1 hFx sv (by omega)) (cwV 1 hts gX9_restore_X9_isSave rfl rfl rfl (by first | exact hd_X9_isSave | decide +kernel) ⟨Nat.le_of_ble_eq_true rfl, Nat.le_of_ble_eq_true rfl⟩) hK hw (by first | exact Int.le_refl 0 | omega) (by first | exact zlt hc40 | omega) sl_40_0 rfl rfl hl.1 rfl (Nat.le_of_ble_eq_true rfl) dX9_restore_7 ⟨Nat.le_of_ble_eq_true rfl, Nat.le_of_ble_eq_true rfl⟩) hS (fun z2 u3 H locs p4 hw hS => ?_)
  obtain ⟨eu3, p4⟩ := p4
  subst eu3
  rcases p4 with ⟨ez2, p4⟩ | ⟨ez2, p4⟩
  · subst ez2
    refine x_if_eqF (tgt := 22) hx hb (by omega) (by decide) dX9_restore_10 (by decide) ?_
    refine lv_aload_n hx hb dX9_restore_13 rfl (lv_at hl 0 rfl) ?_
    refine x_geto hx hb hf9 hw (by first | exact Int.le_refl 0 | omega) (by first | exact zlt hc40 | omega) sl_40_29 lk81 dX9_restore_14 ?_
    refine lv_iload_n hx hb dX9_restore_17 rfl (lv_at hl 1 rfl) ?_
    refine x_iald hx hb hK.1 hw (by first | exact Int.le_refl 0 | omega) (by first | exact zlt hc70 | omega) ar_70 (len_E ar_70 (by first | exact Nat.ne_of_beq_eq_false rfl | decide)) (by omega) (by omega) (by omega) dX9_restore_18 ?_
    have e5 : ∀ p9 q9 : Int, X1 70 p9 q9 = X 70 p9 q9 := fun p9 q9 => by rw [hX1, u3_k _ _ _ _ (by first | exact Nat.ne_of_beq_eq_false rfl | decide)]
    rw [e5 0 sv]
    have f6 : 0 ≤ X 70 0 sv ∧ X 70 0 sv ≤ 30 := hR 70 0 sv
    refine x_if_ne (tgt := 24) hx hb (by omega) dX9_restore_19 (by decide) (fun c7 => ?_) (fun c7 => ?_)
    · refine lv_iload_n hx hb dX9_restore_24 rfl (lv_at hl 2 rfl) ?_
      refine x_if_lt (tgt := 33) hx hb (by omega) dX9_restore_25 (by decide) (fun c8 => ?_) (fun c8 => ?_)
      · refine lv_bipush (v := jI (-2)) hx hb dX9_restore_33 (by decide) ?_
        rw [hQ9]
        refine ret_i (mc := 0) (ms := 0) hx hb hr hlocks hw hS (by first | exact Nat.le_of_ble_eq_true rfl | omega) (by first | exact Nat.le_of_ble_eq_true rfl | omega) dX9_restore_35 ?_
        have q10 : Frm [4001] X X1 := by rw [hX1]; exact Frm.set Frm.rf (show 4001 ∈ [4001] by first | exact nlm_in rfl | decide)
        have hMq9 : MInv X1 := minv_frm hMI q10 (by decide)
        have q11 : Frm [4001] X X1 := by rw [hX1]; exact Frm.set Frm.rf (show 4001 ∈ [4001] by first | exact nlm_in rfl | decide)
        exact ⟨X1, rfl, hRX1, hFX1, hMq9, by omega, Or.inr (Or.inl ⟨(by (try delta Hid at *); omega), (fun q => by (try delta Hid at *); omega), by omega, q11⟩)⟩
      · refine lv_iload_n hx hb dX9_restore_28 rfl (lv_at hl 2 rfl) ?_
        refine lv_iconst (v := jI 3) hx hb dX9_restore_29 rfl ?_
        refine x_icmp_le (tgt := 36) hx hb (by omega) (by omega) dX9_restore_30 (by decide) (fun c12 => ?_) (fun c12 => ?_)
        · refine lv_aload_n hx hb dX9_restore_36 rfl (lv_at hl 0 rfl) ?_
          refine x_geti (jz := 13) hx hb hf9 hw (by first | exact Int.le_refl 0 | omega) (by first | exact zlt hc40 | omega) sl_40_13 rfl lk151 dX9_restore_37 ?_
          have e13 : X1 40 0 13 = X 40 0 13 := by rw [hX1, u3_j _ _ _ _ (by decide)]
          rw [e13]
          have f14 : 0 ≤ X 40 0 13 ∧ X 40 0 13 ≤ 30 := hR 40 0 13
          refine lv_istore_n (lv' := [(3, .int (jI (X 40 0 13))), (0, .ref (ad 40 0)), (1, .int (jI sv)), (2, .int (jI rule))]) hx hb dX9_restore_40 rfl hl (by decide) rfl (fun ls hl => ?_)
          refine lv_aload_n hx hb dX9_restore_41 rfl (lv_at hl 1 rfl) ?_
          refine x_geto hx hb hf9 hw (by first | exact Int.le_refl 0 | omega) (by first | exact zlt hc40 | omega) sl_40_29 lk81 dX9_restore_42 ?_
          refine lv_iload_n hx hb dX9_restore_45 rfl (lv_at hl 2 rfl) ?_
          refine x_iald hx hb hK.1 hw (by first | exact Int.le_refl 0 | omega) (by first | exact zlt hc70 | omega) ar_70 (len_E ar_70 (by first | exact Nat.ne_of_beq_eq_false rfl | decide)) (by omega) (by omega) (by omega) dX9_restore_46 ?_
          have e15 : ∀ p9 q9 : Int, X1 70 p9 q9 = X 70 p9 q9 := fun p9 q9 => by rw [hX1, u3_k _ _ _ _ (by first | exact Nat.ne_of_beq_eq_false rfl | decide)]
          rw [e15 0 sv]
          have f16 : 0 ≤ X 70 0 sv ∧ X 70 0 sv ≤ 30 := hR 70 0 sv
          refine lv_istore (lv' := [(4, .int (jI (X 70 0 sv))), (3, .int (jI (X 40 0 13))), (0, .ref (ad 40 0)), (1, .int (jI sv)), (2, .int (jI rule))]) hx hb dX9_restore_47 hl (by decide) rfl (fun ls hl => ?_)
          refine lv_iload_n hx hb dX9_restore_49 rfl (lv_at hl 1 rfl) ?_
          refine lv_iload hx hb dX9_restore_50 (lv_at hl 0 rfl) ?_
          refine x_iadd hx hb dX9_restore_52 ?_
          refine lv_bipush (v := jI 30) hx hb dX9_restore_53 (by decide) ?_
          refine x_icmp_le (tgt := 61) hx hb (by omega) (by omega) dX9_restore_55 (by decide) (fun c17 => ?_) (fun c17 => ?_)
          · refine lv_iconst (v := jI 0) hx hb dX9_restore_61 rfl ?_
            refine lv_istore (lv' := [(5, .int (jI 0)), (4, .int (jI (X 70 0 sv))), (3, .int (jI (X 40 0 13))), (0, .ref (ad 40 0)), (1, .int (jI sv)), (2, .int (jI rule))]) hx hb dX9_restore_62 hl (by decide) rfl (fun ls hl => ?_)
            have lp64 : ∀ (nn : Nat) (k : Int) (Xa : Nat → Int → Int → Int) (H : Heap) (locs : List Loc) (ls : Array Slot), (450 - k) < (nn : Int) → (Rng Xa) → (Frm [8500] X1 Xa) → (0 ≤ k ∧ k ≤ 450) → (∀ j, 0 ≤ j → j < k → Xa 85 0 j = -1) → wd D tc base (ad, cnt, Xa, Y, ln) H → va_S (frA base) s.heap H locs → lv_has ls 8 [(0, .ref (ad 40 0)), (1, .int (jI sv)), (2, .int (jI rule)), (3, .int (jI (X 40 0 13))), (4, .int (jI (X 70 0 sv))), (5, .int (jI k))] → W p l e ({ frames := 4, cells := 0, slots := 0, locals := 105 } : Room) s m av9 below meth c H locs 0 0 Q9 (F0 m 64 ls []) := by
              intro nn
              induction nn with
              | zero => intro k Xa H locs ls hm hRXa hGXa hk hbk hw hS hl; exfalso; omega
              | succ nn ih64 =>
                intro k Xa H locs ls hm hRXa hGXa hk hbk hw hS hl
                have hFXa : Frm [4001, 4014, 5500, 5600, 4029, 6000, 5700, 5800, 5900, 8500, 4042, 4043, 4044] X Xa := Frm.tr hFX1 (Frm.mono hGXa (by first | exact nls_of rfl | decide))
                refine lv_iload hx hb dX9_restore_64 (lv_at hl 5 rfl) ?_
                refine lv_sipush (v := jI 450) hx hb dX9_restore_66 (by decide) ?_
                refine x_icmp_ge (tgt := 86) hx hb (by omega) (by omega) dX9_restore_69 (by decide) (fun c18 => ?_) (fun c18 => ?_)
                · refine lv_iconst (v := jI 0) hx hb dX9_restore_86 rfl ?_
                  refine lv_istore (lv' := [(5, .int (jI 0)), (0, .ref (ad 40 0)), (1, .int (jI sv)), (2, .int (jI rule)), (3, .int (jI (X 40 0 13))), (4, .int (jI (X 70 0 sv)))]) hx hb dX9_restore_87 hl (by decide) rfl (fun ls hl => ?_)
                  have lp89 : ∀ (nn : Nat) (r : Int) (Xb : Nat → Int → Int → Int) (H : Heap) (locs : List Loc) (ls : Array Slot), (30 - r) < (nn : Int) → (Rng Xb) → (Frm [5500, 5600] Xa Xb) → (0 ≤ r ∧ r ≤ 30) → (Old X Xb) → (New X Xb sv r) → (r ≤ X 70 0 sv) → wd D tc base (ad, cnt, Xb, Y, ln) H → va_S (frA base) s.heap H locs → lv_has ls 8 [(0, .ref (ad 40 0)), (1, .int (jI sv)), (2, .int (jI rule)), (3, .int (jI (X 40 0 13))), (4, .int (jI (X 70 0 sv))), (5, .int (jI r))] → W p l e ({ frames := 4, cells := 0, slots := 0, locals := 105 } : Room) s m av9 below meth c H locs 0 0 Q9 (F0 m 89 ls []) := by
                    intro nn
                    induction nn with
                    | zero => intro r Xb H locs ls hm hRXb hGXb hr0 hOl hNw hrn hw hS hl; exfalso; omega
                    | succ nn ih89 =>
                      intro r Xb H locs ls hm hRXb hGXb hr0 hOl hNw hrn hw hS hl
                      have hFXb : Frm [4001, 4014, 5500, 5600, 4029, 6000, 5700, 5800, 5900, 8500, 4042, 4043, 4044] X Xb := Frm.tr hFXa (Frm.mono hGXb (by first | exact nls_of rfl | decide))
                      refine lv_iload hx hb dX9_restore_89 (lv_at hl 5 rfl) ?_
                      refine lv_iload hx hb dX9_restore_91 (lv_at hl 4 rfl) ?_
                      refine x_icmp_ge (tgt := 174) hx hb (by omega) (by omega) dX9_restore_93 (by decide) (fun c19 => ?_) (fun c19 => ?_)
                      · refine lv_aload_n hx hb dX9_restore_174 rfl (lv_at hl 0 rfl) ?_
                        refine lv_dup hx hb dX9_restore_175 rfl ?_
                        refine x_geti (jz := 13) hx hb hf9 hw (by first | exact Int.le_refl 0 | omega) (by first | exact zlt hc40 | omega) sl_40_13 rfl lk151 dX9_restore_176 ?_
                        have e20 : Xb 40 0 13 = X 40 0 13 := by rw [hGXb 40 0 13 (show 4014 ∉ [5500, 5600] by first | exact nlm_ni rfl | decide), hGXa 40 0 13 (show 4014 ∉ [8500] by first | exact nlm_ni rfl | decide), hX1, u3_j _ _ _ _ (by decide)]
                        rw [e20]
                        have f21 : 0 ≤ X 40 0 13 ∧ X 40 0 13 ≤ 30 := hR 40 0 13
                        refine lv_iload hx hb dX9_restore_179 (lv_at hl 4 rfl) ?_
                        refine x_iadd hx hb dX9_restore_181 ?_
                        refine x_puti (jz := 13) hx hb hf9 ⟨tyX9_ok, nmX9⟩ hw hS (by first | exact Int.le_refl 0 | omega) (by first | exact zlt hc40 | omega) sl_40_13 rfl lk151 rfl (tyX9_ok 13 (by decide)) rfl rfl dX9_restore_182 (fun H locs hw hS => ?_)
                        obtain ⟨X22, hX22⟩ : ∃ Xq, Xq = u3 Xb 40 0 13 ((X 40 0 13) + (X 70 0 sv)) := ⟨_, rfl⟩
                        rw [← hX22] at hw
                        have hRX22 : Rng X22 := by rw [hX22]; exact rng_set hRXb (show 0 ≤ ((X 40 0 13) + (X 70 0 sv)) ∧ ((X 40 0 13) + (X 70 0 sv)) ≤ 30 by omega)
                        have hVX22 : X22 40 0 13 = ((X 40 0 13) + (X 70 0 sv)) := by rw [hX22]; exact u3_s _ _ _ _ _
                        have hFX22 : Frm [4001, 4014, 5500, 5600, 4029, 6000, 5700, 5800, 5900, 8500, 4042, 4043, 4044] X X22 := by rw [hX22]; exact Frm.set hFXb (show 4014 ∈ [4001, 4014, 5500, 5600, 4029, 6000, 5700, 5800, 5900, 8500, 4042, 4043, 4044] by first | exact nlm_in rfl | decide)
                        refine lv_iconst (v := jI 0) hx hb dX9_restore_185 rfl ?_
                        refine lv_istore (lv' := [(5, .int (jI 0)), (0, .ref (ad 40 0)), (1, .int (jI sv)), (2, .int (jI rule)), (3, .int (jI (X 40 0 13))), (4, .int (jI (X 70 0 sv)))]) hx hb dX9_restore_186 hl (by decide) rfl (fun ls hl => ?_)
                        have lp188 : ∀ (nn : Nat) (r : Int) (Xd : Nat → Int → Int → Int) (H : Heap) (locs : List Loc) (ls : Array Slot), (30 - r) < (nn : Int) → (Rng Xd) → (Frm [5600, 6000, 5700, 5800, 5900, 8500, 4042, 4043, 4044] X22 Xd) → (0 ≤ r ∧ r ≤ 30) → (MInv Xd) → (Old X Xd) → (rTrM sv rule (X 40 0 13) r.toNat X22 Xd) → (r ≤ X 70 0 sv) → (rsI X X22 sv) → wd D tc base (ad, cnt, Xd, Y, ln) H → va_S (frA base) s.heap H locs → lv_has ls 8 [(0, .ref (ad 40 0)), (1, .int (jI sv)), (2, .int (jI rule)), (3, .int (jI (X 40 0 13))), (4, .int (jI (X 70 0 sv))), (5, .int (jI r))] → W p l e ({ frames := 4, cells := 0, slots := 0, locals := 105 } : Room) s m av9 below meth c H locs 0 0 Q9 (F0 m 188 ls []) := by
                          intro nn
                          induction nn with
                          | zero => intro r Xd H locs ls hm hRXd hGXd hr0 hMIXd hOd hTr hrn hgI hw hS hl; exfalso; omega
                          | succ nn ih188 =>
                            intro r Xd H locs ls hm hRXd hGXd hr0 hMIXd hOd hTr hrn hgI hw hS hl
                            have hFXd : Frm [4001, 4014, 5500, 5600, 4029, 6000, 5700, 5800, 5900, 8500, 4042, 4043, 4044] X Xd := Frm.tr hFX22 (Frm.mono hGXd (by first | exact nls_of rfl | decide))
                            refine lv_iload hx hb dX9_restore_188 (lv_at hl 5 rfl) ?_
                            refine lv_iload hx hb dX9_restore_190 (lv_at hl 4 rfl) ?_
                            refine x_icmp_ge (tgt := 225) hx hb (by omega) (by omega) dX9_restore_192 (by decide) (fun c23 => ?_) (fun c23 => ?_)
                            · refine lv_iconst (v := jI 0) hx hb dX9_restore_225 rfl ?_
                              refine lv_istore (lv' := [(5, .int (jI 0)), (0, .ref (ad 40 0)), (1, .int (jI sv)), (2, .int (jI rule)), (3, .int (jI (X 40 0 13))), (4, .int (jI (X 70 0 sv)))]) hx hb dX9_restore_226 hl (by decide) rfl (fun ls hl => ?_)
                              have lp228 : ∀ (nn : Nat) (rj : Int) (Xe : Nat → Int → Int → Int) (H : Heap) (locs : List Loc) (ls : Array Slot), (30 - rj) < (nn : Int) → (Rng Xe) → (Frm [4029] Xd Xe) → (0 ≤ rj ∧ rj ≤ 30) → (MInv Xe) → (∀ r', 0 ≤ r' → r' < rj → jdM Xd (X 40 0 13 + r') 0) → (rj ≤ X 70 0 sv) → (Frm [4029] Xd Xe) → wd D tc base (ad, cnt, Xe, Y, ln) H → va_S (frA base) s.heap H locs → lv_has ls 8 [(0, .ref (ad 40 0)), (1, .int (jI sv)), (2, .int (jI rule)), (3, .int (jI (X 40 0 13))), (4, .int (jI (X 70 0 sv))), (5, .int (jI rj))] → W p l e ({ frames := 4, cells := 0, slots := 0, locals := 105 } : Room) s m av9 below meth c H locs 0 0 Q9 (F0 m 228 ls []) := by
                                intro nn
                                induction nn with
                                | zero => intro rj Xe H locs ls hm hRXe hGXe hr0 hMIXe hjd hrn2 hGe hw hS hl; exfalso; omega
                                | succ nn ih228 =>
                                  intro rj Xe H locs ls hm hRXe hGXe hr0 hMIXe hjd hrn2 hGe hw hS hl
                                  have hFXe : Frm [4001, 4014, 5500, 5600, 4029, 6000, 5700, 5800, 5900, 8500, 4042, 4043, 4044] X Xe := Frm.tr hFXd (Frm.mono hGXe (by first | exact nls_of rfl | decide))
                                  refine lv_iload hx hb dX9_restore_228 (lv_at hl 5 rfl) ?_
                                  refine lv_iload hx hb dX9_restore_230 (lv_at hl 4 rfl) ?_
                                  refine x_icmp_ge (tgt := 275) hx hb (by omega) (by omega) dX9_restore_232 (by decide) (fun c24 => ?_) (fun c24 => ?_)
                                  · refine lv_iload_n hx hb dX9_restore_275 rfl (lv_at hl 3 rfl) ?_
                                    rw [hQ9]
                                    refine ret_i (mc := 0) (ms := 0) hx hb hr hlocks hw hS (by first | exact Nat.le_of_ble_eq_true rfl | omega) (by first | exact Nat.le_of_ble_eq_true rfl | omega) dX9_restore_276 ?_
                                    exact ⟨Xe, rfl, hRXe, hFXe, hMIXe, by omega, Or.inr (Or.inr (Or.inr ⟨(by (try delta Hid at *); omega), (by (try delta Hid at *); omega), by omega, _, hgI, Or.inl ⟨Xd, ⟨hRXd, hMIXd⟩, (by rw [show X 70 0 sv = r by omega]; exact hTr), Or.inl ⟨fun r9 a b => hjd r9 a (by omega), by omega, hGe⟩⟩⟩))⟩
                                  · refine lv_aload_n hx hb dX9_restore_235 rfl (lv_at hl 0 rfl) ?_
                                    refine lv_iload_n hx hb dX9_restore_236 rfl (lv_at hl 3 rfl) ?_
                                    refine lv_iload hx hb dX9_restore_237 (lv_at hl 5 rfl) ?_
                                    refine x_iadd hx hb dX9_restore_239 ?_
                                    have e25 : Xe 40 0 13 = X22 40 0 13 := by rw [hGXe 40 0 13 (show 4014 ∉ [4029] by first | exact nlm_ni rfl | decide), hGXd 40 0 13 (show 4014 ∉ [5600, 6000, 5700, 5800, 5900, 8500, 4042, 4043, 4044] by first | exact nlm_ni rfl | decide)]
                                    refine gos_i (run_V (As := [.int (jI ((X 40 0 13) + rj))]) (rest := []) hx hb hml hown hts (c_X9_judged l D tc base ad cnt Xe Y ln hRXe hFx hMIXe ((X 40 0 13) + rj) (by omega) (by simp only [e25]; omega)) (cwV 1 hts gX9_restore_X9_judged rfl rfl rfl (by first | exact hd_X9_judged | decide +kernel) ⟨Nat.le_of_ble_eq_true rfl, Nat.le_of_ble_eq_true rfl⟩) hK hw (by first | exact Int.le_refl 0 | omega) (by first | exact zlt hc40 | omega) sl_40_0 rfl rfl hl.1 rfl (Nat.le_of_ble_eq_true rfl) dX9_restore_240 ⟨Nat.le_of_ble_eq_true rfl, Nat.le_of_ble_eq_true rfl⟩) hS (fun z26 u27 H locs p28 hw hS => ?_)
                                    obtain ⟨X29, eu27, hRX29, hG30, hMIX29, p28, hjdX29⟩ := p28
                                    subst eu27
                                    have hFX29 : Frm [4001, 4014, 5500, 5600, 4029, 6000, 5700, 5800, 5900, 8500, 4042, 4043, 4044] X X29 := Frm.tr hFXe (Frm.mono hG30 (by first | exact nls_of rfl | decide))
                                    refine lv_istore (lv' := [(6, .int (jI z26)), (0, .ref (ad 40 0)), (1, .int (jI sv)), (2, .int (jI rule)), (3, .int (jI (X 40 0 13))), (4, .int (jI (X 70 0 sv))), (5, .int (jI rj))]) hx hb dX9_restore_243 hl (by decide) rfl (fun ls hl => ?_)
                                    refine lv_iload hx hb dX9_restore_245 (lv_at hl 0 rfl) ?_
                                    refine x_if_eq (tgt := 269) hx hb (by omega) dX9_restore_247 (by decide) (fun c31 => ?_) (fun c31 => ?_)
                                    · refine lv_iinc (v := jI (rj + 1)) (lv' := [(5, .int (jI (rj + 1))), (6, .int (jI z26)), (0, .ref (ad 40 0)), (1, .int (jI sv)), (2, .int (jI rule)), (3, .int (jI (X 40 0 13))), (4, .int (jI (X 70 0 sv)))]) hx hb dX9_restore_269 hl (k := 6) rfl (jI_add _ _) (by decide) rfl (fun ls hl => ?_)
                                      refine lv_goto (tgt := 228) hx hb dX9_restore_272 (by decide) ?_
                                      have q32 : Frm [4029] Xd Xe := Frm.tr Frm.rf (Frm.mono hGXe (by first | exact nls_of rfl | decide))
                                      have q33 : Frm [4029] Xd X29 := Frm.tr q32 (Frm.mono hG30 (by first | exact nls_of rfl | decide))
                                      exact ih228 (rj + 1) X29 _ _ _ (by omega) hRX29 q33 (by omega) (hMIX29) (fun r' a b => if hr9 : r' = rj then (by rw [hr9]; exact jdM.from (L := [4029]) (by have h9 := hjdX29; rw [show z26 = 0 by omega] at h9; exact h9) hGe (by decide)) else hjd r' a (by omega)) (by omega) (q33) hw hS (lv_sub hl [2, 3, 4, 5, 6, 0] rfl)
                                    · refine lv_aload_n hx hb dX9_restore_250 rfl (lv_at hl 1 rfl) ?_
                                      refine lv_iload_n hx hb dX9_restore_251 rfl (lv_at hl 4 rfl) ?_
                                      refine x_puti (jz := 13) hx hb hf9 ⟨tyX9_ok, nmX9⟩ hw hS (by first | exact Int.le_refl 0 | omega) (by first | exact zlt hc40 | omega) sl_40_13 rfl lk151 rfl (tyX9_ok 13 (by decide)) rfl rfl dX9_restore_252 (fun H locs hw hS => ?_)
                                      obtain ⟨X36, hX36⟩ : ∃ Xq, Xq = u3 X29 40 0 13 (X 40 0 13) := ⟨_, rfl⟩
                                      rw [← hX36] at hw
                                      have hRX36 : Rng X36 := by rw [hX36]; exact rng_set hRX29 (show 0 ≤ (X 40 0 13) ∧ (X 40 0 13) ≤ 30 by omega)
                                      have hVX36 : X36 40 0 13 = (X 40 0 13) := by rw [hX36]; exact u3_s _ _ _ _ _
                                      have hFX36 : Frm [4001, 4014, 5500, 5600, 4029, 6000, 5700, 5800, 5900, 8500, 4042, 4043, 4044] X X36 := by rw [hX36]; exact Frm.set hFX29 (show 4014 ∈ [4001, 4014, 5500, 5600, 4029, 6000, 5700, 5800, 5900, 8500, 4042, 4043, 4044] by first | exact nlm_in rfl | decide)
                                      refine lv_aload_n hx hb dX9_restore_255 rfl (lv_at hl 1 rfl) ?_
                                      refine lv_iload hx hb dX9_restore_256 (lv_at hl 0 rfl) ?_
                                      refine lv_iload hx hb dX9_restore_258 (lv_at hl 6 rfl) ?_
                                      refine lv_iconst (v := jI (-1)) hx hb dX9_restore_260 rfl ?_
                                      refine lv_aload_n hx hb dX9_restore_261 rfl (lv_at hl 1 rfl) ?_
                                      refine x_geti (jz := 28) hx hb hf9 hw (by first | exact Int.le_refl 0 | omega) (by first | exact zlt hc40 | omega) sl_40_28 rfl lk206 dX9_restore_262 ?_
                                      have e37 : X36 40 0 28 = X29 40 0 28 := by rw [hX36, u3_j _ _ _ _ (by decide)]
                                      rw [e37]
                                      have f38 : 0 ≤ X29 40 0 28 ∧ X29 40 0 28 ≤ 3 := hRX29 40 0 28
                                      have q40 : Frm [4014, 4029] Xd Xe := Frm.tr Frm.rf (Frm.mono hGXe (by first | exact nls_of rfl | decide))
                                      have q41 : Frm [4014, 4029] Xd X29 := Frm.tr q40 (Frm.mono hG30 (by first | exact nls_of rfl | decide))
                                      have q42 : Frm [4014, 4029] Xd X36 := by rw [hX36]; exact Frm.set q41 (show 4014 ∈ [4014, 4029] by first | exact nlm_in rfl | decide)
                                      have hMb39 : MInv X36 := minv_rst_back hMI hR hFX36 (hOd.frm q42 (by decide)) hVX36
                                      refine gos_i (run_V (As := [.int (jI z26), .int (jI rj), .int (jI (-1)), .int (jI (X29 40 0 28))]) (rest := []) hx hb hml hown hts (c_X9_faulty l D tc base ad cnt X36 Y ln hRX36 hFx hMb39 z26 rj (-1) (X29 40 0 28) (by omega) (by omega) (by omega) (by omega)) (cwV 4 hts gX9_restore_X9_faulty rfl rfl rfl (by first | exact hd_X9_faulty | decide +kernel) ⟨Nat.le_of_ble_eq_true rfl, Nat.le_of_ble_eq_true rfl⟩) hK hw (by first | exact Int.le_refl 0 | omega) (by first | exact zlt hc40 | omega) sl_40_0 rfl rfl hl.1 rfl (Nat.le_of_ble_eq_true rfl) dX9_restore_265 ⟨Nat.le_of_ble_eq_true rfl, Nat.le_of_ble_eq_true rfl⟩) hS (fun z43 u44 H locs p45 hw hS => ?_)
                                      obtain ⟨X46, eu44, hRX46, hG47, hMIX46, p45⟩ := p45
                                      subst eu44
                                      have hFX46 : Frm [4001, 4014, 5500, 5600, 4029, 6000, 5700, 5800, 5900, 8500, 4042, 4043, 4044] X X46 := Frm.tr hFX36 (Frm.mono hG47 (by first | exact nls_of rfl | decide))
                                      rw [hQ9]
                                      refine ret_i (mc := 0) (ms := 0) hx hb hr hlocks hw hS (by first | exact Nat.le_of_ble_eq_true rfl | omega) (by first | exact Nat.le_of_ble_eq_true rfl | omega) dX9_restore_268 ?_
                                      have q48 : Frm [4014, 4029, 4042, 4043, 4044] Xd Xe := Frm.tr Frm.rf (Frm.mono hGXe (by first | exact nls_of rfl | decide))
                                      have q49 : Frm [4014, 4029, 4042, 4043, 4044] Xd X29 := Frm.tr q48 (Frm.mono hG30 (by first | exact nls_of rfl | decide))
                                      have q50 : Frm [4014, 4029, 4042, 4043, 4044] Xd X36 := by rw [hX36]; exact Frm.set q49 (show 4014 ∈ [4014, 4029, 4042, 4043, 4044] by first | exact nlm_in rfl | decide)
                                      have q51 : Frm [4014, 4029, 4042, 4043, 4044] Xd X46 := Frm.tr q50 (Frm.mono hG47 (by first | exact nls_of rfl | decide))
                                      exact ⟨X46, rfl, hRX46, hFX46, hMIX46, by omega, Or.inr (Or.inr (Or.inr ⟨(by (try delta Hid at *); omega), (by (try delta Hid at *); omega), by omega, _, hgI, Or.inl ⟨Xd, ⟨hRXd, hMIXd⟩, (by rw [show X 70 0 sv = r by omega]; exact hTr) , Or.inr ⟨rj, z26, by omega, by omega, hjd, by omega, jdM.from (L := [4029]) hjdX29 hGe (by decide), by omega, (by rw [hG47 40 0 13 (show 4014 ∉ [4042, 4043, 4044] by first | exact nlm_ni rfl | decide)]; exact hVX36), q51⟩⟩⟩))⟩
                              exact lp228 (30 - 0 : Int).toNat.succ 0 Xd _ _ _ (by omega) hRXd Frm.rf (by omega) (hMIXd) (fun r' a b => by omega) (by omega) (Frm.rf) hw hS (lv_sub hl [1, 2, 3, 4, 5, 0] rfl)
                            · refine lv_aload_n hx hb dX9_restore_195 rfl (lv_at hl 0 rfl) ?_
                              refine lv_iload_n hx hb dX9_restore_196 rfl (lv_at hl 1 rfl) ?_
                              refine lv_iload hx hb dX9_restore_197 (lv_at hl 5 rfl) ?_
                              refine lv_iload_n hx hb dX9_restore_199 rfl (lv_at hl 2 rfl) ?_
                              refine lv_iload_n hx hb dX9_restore_200 rfl (lv_at hl 3 rfl) ?_
                              have e52 : ∀ j : Int, Xd 70 0 j = X 70 0 j := fun j => by rw [hGXd 70 0 j (show 7000 ∉ [5600, 6000, 5700, 5800, 5900, 8500, 4042, 4043, 4044] by first | exact nlm_ni rfl | decide), hX22, u3_k _ _ _ _ (by first | exact Nat.ne_of_beq_eq_false rfl | decide), hGXb 70 0 j (show 7000 ∉ [5500, 5600] by first | exact nlm_ni rfl | decide), hGXa 70 0 j (show 7000 ∉ [8500] by first | exact nlm_ni rfl | decide), hX1, u3_k _ _ _ _ (by first | exact Nat.ne_of_beq_eq_false rfl | decide)]
                              have e53 : Xd 40 0 13 = X22 40 0 13 := by rw [hGXd 40 0 13 (show 4014 ∉ [5600, 6000, 5700, 5800, 5900, 8500, 4042, 4043, 4044] by first | exact nlm_ni rfl | decide)]
                              have e54 : Xd 55 0 (X 40 0 13 + r) = X 71 0 (30 * sv + r) := (by rw [hGXd 55 0 (X 40 0 13 + r) (show 5500 ∉ [5600, 6000, 5700, 5800, 5900, 8500, 4042, 4043, 4044] by first | exact nlm_ni rfl | decide), hX22, u3_k _ _ _ _ (by first | exact Nat.ne_of_beq_eq_false rfl | decide)]; exact (hNw r (by omega) (by omega)).1)
                              refine gos_i (run_V (As := [.int (jI sv), .int (jI r), .int (jI rule), .int (jI (X 40 0 13))]) (rest := []) hx hb hml hown hts (c_X9_fieldsBack l D tc base ad cnt Xd Y ln hRXd hFx hMIXd sv r rule (X 40 0 13) (by omega) (by simp only [e52, e53]; omega) (by omega) (by omega) (by simp only [e52, e53]; omega) (by rw [e54]; exact (show Xd 71 0 (30 * sv + r) = X 71 0 (30 * sv + r) from (by rw [hGXd 71 0 (30 * sv + r) (show 7100 ∉ [5600, 6000, 5700, 5800, 5900, 8500, 4042, 4043, 4044] by first | exact nlm_ni rfl | decide), hX22, u3_k _ _ _ _ (by first | exact Nat.ne_of_beq_eq_false rfl | decide), hGXb 71 0 (30 * sv + r) (show 7100 ∉ [5500, 5600] by first | exact nlm_ni rfl | decide), hGXa 71 0 (30 * sv + r) (show 7100 ∉ [8500] by first | exact nlm_ni rfl | decide), hX1, u3_k _ _ _ _ (by first | exact Nat.ne_of_beq_eq_false rfl | decide)])).symm)) (cwV 4 hts gX9_restore_X9_fieldsBack rfl rfl rfl (by first | exact hd_X9_fieldsBack | decide +kernel) ⟨Nat.le_of_ble_eq_true rfl, Nat.le_of_ble_eq_true rfl⟩) hK hw (by first | exact Int.le_refl 0 | omega) (by first | exact zlt hc40 | omega) sl_40_0 rfl rfl hl.1 rfl (Nat.le_of_ble_eq_true rfl) dX9_restore_201 ⟨Nat.le_of_ble_eq_true rfl, Nat.le_of_ble_eq_true rfl⟩) hS (fun z55 u56 H locs p57 hw hS => ?_)
                              obtain ⟨X58, eu56, hRX58, hG59, hMIX58, p57, hloX58, hfeX58⟩ := p57
                              subst eu56
                              have hFX58 : Frm [4001, 4014, 5500, 5600, 4029, 6000, 5700, 5800, 5900, 8500, 4042, 4043, 4044] X X58 := Frm.tr hFXd (Frm.mono hG59 (by first | exact nls_of rfl | decide))
                              have hOlX58 : Old X X58 := hOd.lo hG59 (by decide) hloX58
                              refine lv_istore (lv' := [(6, .int (jI z55)), (0, .ref (ad 40 0)), (1, .int (jI sv)), (2, .int (jI rule)), (3, .int (jI (X 40 0 13))), (4, .int (jI (X 70 0 sv))), (5, .int (jI r))]) hx hb dX9_restore_204 hl (by decide) rfl (fun ls hl => ?_)
                              refine lv_iload hx hb dX9_restore_206 (lv_at hl 0 rfl) ?_
                              refine x_if_eq (tgt := 219) hx hb (by omega) dX9_restore_208 (by decide) (fun c60 => ?_) (fun c60 => ?_)
                              · refine lv_iinc (v := jI (r + 1)) (lv' := [(5, .int (jI (r + 1))), (6, .int (jI z55)), (0, .ref (ad 40 0)), (1, .int (jI sv)), (2, .int (jI rule)), (3, .int (jI (X 40 0 13))), (4, .int (jI (X 70 0 sv)))]) hx hb dX9_restore_219 hl (k := 6) rfl (jI_add _ _) (by decide) rfl (fun ls hl => ?_)
                                refine lv_goto (tgt := 188) hx hb dX9_restore_222 (by decide) ?_
                                have q61 : Frm [5600, 6000, 5700, 5800, 5900, 8500, 4042, 4043, 4044] X22 Xd := Frm.tr Frm.rf (Frm.mono hGXd (by first | exact nls_of rfl | decide))
                                have q62 : Frm [5600, 6000, 5700, 5800, 5900, 8500, 4042, 4043, 4044] X22 X58 := Frm.tr q61 (Frm.mono hG59 (by first | exact nls_of rfl | decide))
                                exact ih188 (r + 1) X58 _ _ _ (by omega) hRX58 q62 (by omega) (hMIX58) (hOlX58) ((by rcases hfeX58 with ⟨-, q⟩ | ⟨q, -⟩; exact rTrM.push hTr (by omega) q; exfalso; omega)) (by omega) (hgI) hw hS (lv_sub hl [2, 3, 4, 5, 6, 0] rfl)
                              · refine lv_aload_n hx hb dX9_restore_211 rfl (lv_at hl 1 rfl) ?_
                                refine lv_iload_n hx hb dX9_restore_212 rfl (lv_at hl 4 rfl) ?_
                                refine x_puti (jz := 13) hx hb hf9 ⟨tyX9_ok, nmX9⟩ hw hS (by first | exact Int.le_refl 0 | omega) (by first | exact zlt hc40 | omega) sl_40_13 rfl lk151 rfl (tyX9_ok 13 (by decide)) rfl rfl dX9_restore_213 (fun H locs hw hS => ?_)
                                obtain ⟨X63, hX63⟩ : ∃ Xq, Xq = u3 X58 40 0 13 (X 40 0 13) := ⟨_, rfl⟩
                                rw [← hX63] at hw
                                have hRX63 : Rng X63 := by rw [hX63]; exact rng_set hRX58 (show 0 ≤ (X 40 0 13) ∧ (X 40 0 13) ≤ 30 by omega)
                                have hVX63 : X63 40 0 13 = (X 40 0 13) := by rw [hX63]; exact u3_s _ _ _ _ _
                                have hFX63 : Frm [4001, 4014, 5500, 5600, 4029, 6000, 5700, 5800, 5900, 8500, 4042, 4043, 4044] X X63 := by rw [hX63]; exact Frm.set hFX58 (show 4014 ∈ [4001, 4014, 5500, 5600, 4029, 6000, 5700, 5800, 5900, 8500, 4042, 4043, 4044] by first | exact nlm_in rfl | decide)
                                refine lv_iload hx hb dX9_restore_216 (lv_at hl 0 rfl) ?_
                                rw [hQ9]
                                refine ret_i (mc := 0) (ms := 0) hx hb hr hlocks hw hS (by first | exact Nat.le_of_ble_eq_true rfl | omega) (by first | exact Nat.le_of_ble_eq_true rfl | omega) dX9_restore_218 ?_
                                have q64 : Frm [4014] X58 X63 := by rw [hX63]; exact Frm.set Frm.rf (show 4014 ∈ [4014] by first | exact nlm_in rfl | decide)
                                exact ⟨X63, rfl, hRX63, hFX63, minv_rst_back hMI hR hFX63 (hOlX58.frm q64 (by decide)) hVX63, by omega, Or.inr (Or.inr (Or.inr ⟨(by (try delta Hid at *); omega), (by (try delta Hid at *); omega), by omega, _, hgI, Or.inr ⟨r, Xd, X58, by omega, by omega, hTr, hfeX58, by omega, hVX63, q64⟩⟩))⟩
                        have q66 : Frm [4001, 4014, 5500, 5600, 8500] X X1 := by rw [hX1]; exact Frm.set Frm.rf (show 4001 ∈ [4001, 4014, 5500, 5600, 8500] by first | exact nlm_in rfl | decide)
                        have q67 : Frm [4001, 4014, 5500, 5600, 8500] X Xa := Frm.tr q66 (Frm.mono hGXa (by first | exact nls_of rfl | decide))
                        have q68 : Frm [4001, 4014, 5500, 5600, 8500] X Xb := Frm.tr q67 (Frm.mono hGXb (by first | exact nls_of rfl | decide))
                        have q69 : Frm [4001, 4014, 5500, 5600, 8500] X X22 := by rw [hX22]; exact Frm.set q68 (show 4014 ∈ [4001, 4014, 5500, 5600, 8500] by first | exact nlm_in rfl | decide)
                        have q70 : Frm [4014] Xb X22 := by rw [hX22]; exact Frm.set Frm.rf (show 4014 ∈ [4014] by first | exact nlm_in rfl | decide)
                        exact lp188 (30 - 0 : Int).toNat.succ 0 X22 _ _ _ (by omega) hRX22 Frm.rf (by omega) (minv_rst_in (n := X 70 0 sv) hMI hR (by omega) q69 (hOl.frm q70 (by decide)) (fun r1 a b => ⟨(by rw [hX22, u3_k _ _ _ _ (by first | exact Nat.ne_of_beq_eq_false rfl | decide)]; exact (hNw r1 a b).1), fun q q0 q1 => (by rw [hX22, u3_k _ _ _ _ (by first | exact Nat.ne_of_beq_eq_false rfl | decide)]; exact (hNw r1 a b).2 q q0 q1)⟩) (by omega) rfl hVX22) ((hOl.frm q70 (by decide))) (rfl) (by omega) (⟨(by rw [hVX22] <;> omega), fun j a b => (by rw [hX22, u3_k _ _ _ _ (by first | exact Nat.ne_of_beq_eq_false rfl | decide), hGXb 85 0 j (show 8500 ∉ [5500, 5600] by first | exact nlm_ni rfl | decide)]; exact hbk j a (by omega)), hOl.frm q70 (by decide), (fun r1 a b => ⟨(by rw [hX22, u3_k _ _ _ _ (by first | exact Nat.ne_of_beq_eq_false rfl | decide)]; exact (hNw r1 a (by omega)).1), fun q q0 q1 => (by rw [hX22, u3_k _ _ _ _ (by first | exact Nat.ne_of_beq_eq_false rfl | decide)]; exact (hNw r1 a (by omega)).2 q q0 q1)⟩), q69⟩) hw hS (lv_sub hl [1, 2, 3, 4, 5, 0] rfl)
                      · refine lv_aload_n hx hb dX9_restore_96 rfl (lv_at hl 0 rfl) ?_
                        refine x_geto hx hb hf9 hw (by first | exact Int.le_refl 0 | omega) (by first | exact zlt hc40 | omega) sl_40_30 lk84 dX9_restore_97 ?_
                        refine lv_bipush (v := jI 30) hx hb dX9_restore_100 (by decide) ?_
                        refine lv_iload_n hx hb dX9_restore_102 rfl (lv_at hl 1 rfl) ?_
                        refine x_imul hx hb dX9_restore_103 ?_
                        refine lv_iload hx hb dX9_restore_104 (lv_at hl 5 rfl) ?_
                        refine x_iadd hx hb dX9_restore_106 ?_
                        refine x_iald hx hb hK.1 hw (by first | exact Int.le_refl 0 | omega) (by first | exact zlt hc71 | omega) ar_71 (len_E ar_71 (by first | exact Nat.ne_of_beq_eq_false rfl | decide)) (by omega) (by omega) (by omega) dX9_restore_107 ?_
                        have e77 : ∀ p9 q9 : Int, Xb 71 p9 q9 = X 71 p9 q9 := fun p9 q9 => by rw [hGXb 71 p9 q9 (show 7100 ∉ [5500, 5600] by first | exact nlm_ni rfl | decide), hGXa 71 p9 q9 (show 7100 ∉ [8500] by first | exact nlm_ni rfl | decide), hX1, u3_k _ _ _ _ (by first | exact Nat.ne_of_beq_eq_false rfl | decide)]
                        rw [e77 0 ((30 * sv) + r)]
                        have f78 : 0 ≤ X 71 0 ((30 * sv) + r) ∧ X 71 0 ((30 * sv) + r) ≤ 7 := hR 71 0 ((30 * sv) + r)
                        refine lv_istore (lv' := [(6, .int (jI (X 71 0 ((30 * sv) + r)))), (0, .ref (ad 40 0)), (1, .int (jI sv)), (2, .int (jI rule)), (3, .int (jI (X 40 0 13))), (4, .int (jI (X 70 0 sv))), (5, .int (jI r))]) hx hb dX9_restore_108 hl (by decide) rfl (fun ls hl => ?_)
                        refine lv_aload_n hx hb dX9_restore_110 rfl (lv_at hl 1 rfl) ?_
                        refine x_geto hx hb hf9 hw (by first | exact Int.le_refl 0 | omega) (by first | exact zlt hc40 | omega) sl_40_14 lk45 dX9_restore_111 ?_
                        refine lv_iload_n hx hb dX9_restore_114 rfl (lv_at hl 4 rfl) ?_
                        refine lv_iload hx hb dX9_restore_115 (lv_at hl 6 rfl) ?_
                        refine x_iadd hx hb dX9_restore_117 ?_
                        refine lv_iload hx hb dX9_restore_118 (lv_at hl 0 rfl) ?_
                        refine x_iast hx hb hK.1 hw hS (by first | exact Int.le_refl 0 | omega) (by first | exact zlt hc55 | omega) ar_55 (len_E ar_55 (by first | exact Nat.ne_of_beq_eq_false rfl | decide)) (by omega) (by omega) (by omega) dX9_restore_120 (fun H locs hw hS => ?_)
                        obtain ⟨X79, hX79⟩ : ∃ Xq, Xq = u3 Xb 55 0 ((X 40 0 13) + r) (X 71 0 ((30 * sv) + r)) := ⟨_, rfl⟩
                        rw [← hX79] at hw
                        have hRX79 : Rng X79 := by rw [hX79]; exact rng_set hRXb (show 0 ≤ (X 71 0 ((30 * sv) + r)) ∧ (X 71 0 ((30 * sv) + r)) ≤ 7 by omega)
                        have hVX79 : X79 55 0 ((X 40 0 13) + r) = (X 71 0 ((30 * sv) + r)) := by rw [hX79]; exact u3_s _ _ _ _ _
                        have hFX79 : Frm [4001, 4014, 5500, 5600, 4029, 6000, 5700, 5800, 5900, 8500, 4042, 4043, 4044] X X79 := by rw [hX79]; exact Frm.set hFXb (show 5500 ∈ [4001, 4014, 5500, 5600, 4029, 6000, 5700, 5800, 5900, 8500, 4042, 4043, 4044] by first | exact nlm_in rfl | decide)
                        refine lv_iconst (v := jI 0) hx hb dX9_restore_121 rfl ?_
                        refine lv_istore (lv' := [(7, .int (jI 0)), (6, .int (jI (X 71 0 ((30 * sv) + r)))), (0, .ref (ad 40 0)), (1, .int (jI sv)), (2, .int (jI rule)), (3, .int (jI (X 40 0 13))), (4, .int (jI (X 70 0 sv))), (5, .int (jI r))]) hx hb dX9_restore_122 hl (by decide) rfl (fun ls hl => ?_)
                        have lp124 : ∀ (nn : Nat) (k : Int) (Xc : Nat → Int → Int → Int) (H : Heap) (locs : List Loc) (ls : Array Slot), (5 - k) < (nn : Int) → (Rng Xc) → (Frm [5600] X79 Xc) → (0 ≤ k ∧ k ≤ 5) → (Old X Xc) → (New X Xc sv r) → (Xc 55 0 (X 40 0 13 + r) = X 71 0 (30 * sv + r)) → (∀ q, 0 ≤ q → q < k → Xc 56 0 (5 * (X 40 0 13 + r) + q) = X 47 0 (5 * X 71 0 (30 * sv + r) + q)) → wd D tc base (ad, cnt, Xc, Y, ln) H → va_S (frA base) s.heap H locs → lv_has ls 8 [(0, .ref (ad 40 0)), (1, .int (jI sv)), (2, .int (jI rule)), (3, .int (jI (X 40 0 13))), (4, .int (jI (X 70 0 sv))), (5, .int (jI r)), (6, .int (jI (X 71 0 ((30 * sv) + r)))), (7, .int (jI k))] → W p l e ({ frames := 4, cells := 0, slots := 0, locals := 105 } : Room) s m av9 below meth c H locs 0 0 Q9 (F0 m 124 ls []) := by
                          intro nn
                          induction nn with
                          | zero => intro k Xc H locs ls hm hRXc hGXc hk hOl hNw hN5 hNv hw hS hl; exfalso; omega
                          | succ nn ih124 =>
                            intro k Xc H locs ls hm hRXc hGXc hk hOl hNw hN5 hNv hw hS hl
                            have hFXc : Frm [4001, 4014, 5500, 5600, 4029, 6000, 5700, 5800, 5900, 8500, 4042, 4043, 4044] X Xc := Frm.tr hFX79 (Frm.mono hGXc (by first | exact nls_of rfl | decide))
                            refine lv_iload hx hb dX9_restore_124 (lv_at hl 7 rfl) ?_
                            refine lv_aload_n hx hb dX9_restore_126 rfl (lv_at hl 0 rfl) ?_
                            refine x_geto hx hb hf9 hw (by first | exact Int.le_refl 0 | omega) (by first | exact zlt hc40 | omega) sl_40_3 lk13 dX9_restore_127 ?_
                            refine lv_iload hx hb dX9_restore_130 (lv_at hl 6 rfl) ?_
                            refine x_iald hx hb hK.1 hw (by first | exact Int.le_refl 0 | omega) (by first | exact zlt hc44 | omega) ar_44 (len_E ar_44 (by first | exact Nat.ne_of_beq_eq_false rfl | decide)) (by omega) (by omega) (by omega) dX9_restore_132 ?_
                            have e80 : ∀ p9 q9 : Int, Xc 44 p9 q9 = X 44 p9 q9 := fun p9 q9 => by rw [hGXc 44 p9 q9 (show 4400 ∉ [5600] by first | exact nlm_ni rfl | decide), hX79, u3_k _ _ _ _ (by first | exact Nat.ne_of_beq_eq_false rfl | decide), hGXb 44 p9 q9 (show 4400 ∉ [5500, 5600] by first | exact nlm_ni rfl | decide), hGXa 44 p9 q9 (show 4400 ∉ [8500] by first | exact nlm_ni rfl | decide), hX1, u3_k _ _ _ _ (by first | exact Nat.ne_of_beq_eq_false rfl | decide)]
                            rw [e80 0 (X 71 0 ((30 * sv) + r))]
                            have f81 : 0 ≤ X 44 0 (X 71 0 ((30 * sv) + r)) ∧ X 44 0 (X 71 0 ((30 * sv) + r)) ≤ 5 := hR 44 0 (X 71 0 ((30 * sv) + r))
                            refine x_icmp_ge (tgt := 168) hx hb (by omega) (by omega) dX9_restore_133 (by decide) (fun c82 => ?_) (fun c82 => ?_)
                            · refine lv_iinc (v := jI (r + 1)) (lv' := [(5, .int (jI (r + 1))), (0, .ref (ad 40 0)), (1, .int (jI sv)), (2, .int (jI rule)), (3, .int (jI (X 40 0 13))), (4, .int (jI (X 70 0 sv))), (6, .int (jI (X 71 0 ((30 * sv) + r)))), (7, .int (jI k))]) hx hb dX9_restore_168 hl (k := 5) rfl (jI_add _ _) (by decide) rfl (fun ls hl => ?_)
                              refine lv_goto (tgt := 89) hx hb dX9_restore_171 (by decide) ?_
                              have q83 : Frm [5500, 5600] Xa Xb := Frm.tr Frm.rf (Frm.mono hGXb (by first | exact nls_of rfl | decide))
                              have q84 : Frm [5500, 5600] Xa X79 := by rw [hX79]; exact Frm.set q83 (show 5500 ∈ [5500, 5600] by first | exact nlm_in rfl | decide)
                              have q85 : Frm [5500, 5600] Xa Xc := Frm.tr q84 (Frm.mono hGXc (by first | exact nls_of rfl | decide))
                              exact ih89 (r + 1) Xc _ _ _ (by omega) hRXc q85 (by omega) (hOl) (hNw.next hN5 (fun q a b => hNv q a (by omega))) (by omega) hw hS (lv_sub hl [1, 2, 3, 4, 5, 0] rfl)
                            · refine lv_aload_n hx hb dX9_restore_136 rfl (lv_at hl 0 rfl) ?_
                              refine x_geto hx hb hf9 hw (by first | exact Int.le_refl 0 | omega) (by first | exact zlt hc40 | omega) sl_40_15 lk48 dX9_restore_137 ?_
                              refine lv_iconst (v := jI 5) hx hb dX9_restore_140 rfl ?_
                              refine lv_iload_n hx hb dX9_restore_141 rfl (lv_at hl 3 rfl) ?_
                              refine lv_iload hx hb dX9_restore_142 (lv_at hl 5 rfl) ?_
                              refine x_iadd hx hb dX9_restore_144 ?_
                              refine x_imul hx hb dX9_restore_145 ?_
                              refine lv_iload hx hb dX9_restore_146 (lv_at hl 7 rfl) ?_
                              refine x_iadd hx hb dX9_restore_148 ?_
                              refine lv_aload_n hx hb dX9_restore_149 rfl (lv_at hl 0 rfl) ?_
                              refine x_geto hx hb hf9 hw (by first | exact Int.le_refl 0 | omega) (by first | exact zlt hc40 | omega) sl_40_6 lk23 dX9_restore_150 ?_
                              refine lv_iconst (v := jI 5) hx hb dX9_restore_153 rfl ?_
                              refine lv_iload hx hb dX9_restore_154 (lv_at hl 6 rfl) ?_
                              refine x_imul hx hb dX9_restore_156 ?_
                              refine lv_iload hx hb dX9_restore_157 (lv_at hl 7 rfl) ?_
                              refine x_iadd hx hb dX9_restore_159 ?_
                              refine x_lald hx hb hK.1 hw (by first | exact Int.le_refl 0 | omega) (by first | exact zlt hc47 | omega) ar_47 (len_E ar_47 (by first | exact Nat.ne_of_beq_eq_false rfl | decide)) (by omega) (by omega) (by omega) dX9_restore_160 ?_
                              have e86 : ∀ p9 q9 : Int, Xc 47 p9 q9 = X 47 p9 q9 := fun p9 q9 => by rw [hGXc 47 p9 q9 (show 4700 ∉ [5600] by first | exact nlm_ni rfl | decide), hX79, u3_k _ _ _ _ (by first | exact Nat.ne_of_beq_eq_false rfl | decide), hGXb 47 p9 q9 (show 4700 ∉ [5500, 5600] by first | exact nlm_ni rfl | decide), hGXa 47 p9 q9 (show 4700 ∉ [8500] by first | exact nlm_ni rfl | decide), hX1, u3_k _ _ _ _ (by first | exact Nat.ne_of_beq_eq_false rfl | decide)]
                              rw [e86 0 ((5 * (X 71 0 ((30 * sv) + r))) + k)]
                              have f87 : (-9223372036854775808) ≤ X 47 0 ((5 * (X 71 0 ((30 * sv) + r))) + k) ∧ X 47 0 ((5 * (X 71 0 ((30 * sv) + r))) + k) ≤ 9223372036854775807 := hR 47 0 ((5 * (X 71 0 ((30 * sv) + r))) + k)
                              refine x_last hx hb hK.1 hw hS (by first | exact Int.le_refl 0 | omega) (by first | exact zlt hc56 | omega) ar_56 (len_E ar_56 (by first | exact Nat.ne_of_beq_eq_false rfl | decide)) (by omega) (by omega) (by omega) dX9_restore_161 (fun H locs hw hS => ?_)
                              obtain ⟨X88, hX88⟩ : ∃ Xq, Xq = u3 Xc 56 0 ((5 * ((X 40 0 13) + r)) + k) (X 47 0 ((5 * (X 71 0 ((30 * sv) + r))) + k)) := ⟨_, rfl⟩
                              rw [← hX88] at hw
                              have hRX88 : Rng X88 := by rw [hX88]; exact rng_set hRXc (show (-9223372036854775808) ≤ (X 47 0 ((5 * (X 71 0 ((30 * sv) + r))) + k)) ∧ (X 47 0 ((5 * (X 71 0 ((30 * sv) + r))) + k)) ≤ 9223372036854775807 by omega)
                              have hVX88 : X88 56 0 ((5 * ((X 40 0 13) + r)) + k) = (X 47 0 ((5 * (X 71 0 ((30 * sv) + r))) + k)) := by rw [hX88]; exact u3_s _ _ _ _ _
                              have hFX88 : Frm [4001, 4014, 5500, 5600, 4029, 6000, 5700, 5800, 5900, 8500, 4042, 4043, 4044] X X88 := by rw [hX88]; exact Frm.set hFXc (show 5600 ∈ [4001, 4014, 5500, 5600, 4029, 6000, 5700, 5800, 5900, 8500, 4042, 4043, 4044] by first | exact nlm_in rfl | decide)
                              refine lv_iinc (v := jI (k + 1)) (lv' := [(7, .int (jI (k + 1))), (0, .ref (ad 40 0)), (1, .int (jI sv)), (2, .int (jI rule)), (3, .int (jI (X 40 0 13))), (4, .int (jI (X 70 0 sv))), (5, .int (jI r)), (6, .int (jI (X 71 0 ((30 * sv) + r))))]) hx hb dX9_restore_162 hl (k := 7) rfl (jI_add _ _) (by decide) rfl (fun ls hl => ?_)
                              refine lv_goto (tgt := 124) hx hb dX9_restore_165 (by decide) ?_
                              have q89 : Frm [5600] X79 Xc := Frm.tr Frm.rf (Frm.mono hGXc (by first | exact nls_of rfl | decide))
                              have q90 : Frm [5600] X79 X88 := by rw [hX88]; exact Frm.set q89 (show 5600 ∈ [5600] by first | exact nlm_in rfl | decide)
                              exact ih124 (k + 1) X88 _ _ _ (by omega) hRX88 q90 (by omega) ((by rw [hX88]; exact hOl.s56 (by omega))) ((by rw [hX88]; exact hNw.s56 hR (by omega))) ((by rw [hX88, u3_k _ _ _ _ (by first | exact Nat.ne_of_beq_eq_false rfl | decide)]; exact hN5)) (fun q a b => if hq : q = k then (by rw [hq]; exact hVX88) else (by rw [hX88, u3_j _ _ _ _ (by omega)]; exact hNv q a (by omega))) hw hS (lv_sub hl [1, 2, 3, 4, 5, 6, 7, 0] rfl)
                        exact lp124 (5 - 0 : Int).toNat.succ 0 X79 _ _ _ (by omega) hRX79 Frm.rf (by omega) ((by rw [hX79]; exact hOl.s55 (by omega))) ((by rw [hX79]; exact hNw.s55 (by omega))) (hVX79) (fun q a b => by omega) hw hS (lv_sub hl [2, 3, 4, 5, 6, 7, 1, 0] rfl)
                  have q91 : Frm [4001, 8500] X X1 := by rw [hX1]; exact Frm.set Frm.rf (show 4001 ∈ [4001, 8500] by first | exact nlm_in rfl | decide)
                  have q92 : Frm [4001, 8500] X Xa := Frm.tr q91 (Frm.mono hGXa (by first | exact nls_of rfl | decide))
                  exact lp89 (30 - 0 : Int).toNat.succ 0 Xa _ _ _ (by omega) hRXa Frm.rf (by omega) (Old.rf q92 (by decide)) (New.nil) (by omega) hw hS (lv_sub hl [1, 2, 3, 4, 5, 0] rfl)
                · refine lv_aload_n hx hb dX9_restore_72 rfl (lv_at hl 0 rfl) ?_
                  refine x_geto hx hb hf9 hw (by first | exact Int.le_refl 0 | omega) (by first | exact zlt hc40 | omega) sl_40_44 lk127 dX9_restore_73 ?_
                  refine lv_iload hx hb dX9_restore_76 (lv_at hl 5 rfl) ?_
                  refine lv_iconst (v := jI (-1)) hx hb dX9_restore_78 rfl ?_
                  refine x_iast hx hb hK.1 hw hS (by first | exact Int.le_refl 0 | omega) (by first | exact zlt hc85 | omega) ar_85 (len_E ar_85 (by first | exact Nat.ne_of_beq_eq_false rfl | decide)) (by omega) (by omega) (by omega) dX9_restore_79 (fun H locs hw hS => ?_)
                  obtain ⟨X93, hX93⟩ : ∃ Xq, Xq = u3 Xa 85 0 k (-1) := ⟨_, rfl⟩
                  rw [← hX93] at hw
                  have hRX93 : Rng X93 := by rw [hX93]; exact rng_set hRXa (show (-1) ≤ (-1) ∧ (-1) ≤ 399 by omega)
                  have hVX93 : X93 85 0 k = (-1) := by rw [hX93]; exact u3_s _ _ _ _ _
                  have hFX93 : Frm [4001, 4014, 5500, 5600, 4029, 6000, 5700, 5800, 5900, 8500, 4042, 4043, 4044] X X93 := by rw [hX93]; exact Frm.set hFXa (show 8500 ∈ [4001, 4014, 5500, 5600, 4029, 6000, 5700, 5800, 5900, 8500, 4042, 4043, 4044] by first | exact nlm_in rfl | decide)
                  refine lv_iinc (v := jI (k + 1)) (lv' := [(5, .int (jI (k + 1))), (0, .ref (ad 40 0)), (1, .int (jI sv)), (2, .int (jI rule)), (3, .int (jI (X 40 0 13))), (4, .int (jI (X 70 0 sv)))]) hx hb dX9_restore_80 hl (k := 5) rfl (jI_add _ _) (by decide) rfl (fun ls hl => ?_)
                  refine lv_goto (tgt := 64) hx hb dX9_restore_83 (by decide) ?_
                  have q94 : Frm [8500] X1 Xa := Frm.tr Frm.rf (Frm.mono hGXa (by first | exact nls_of rfl | decide))
                  have q95 : Frm [8500] X1 X93 := by rw [hX93]; exact Frm.set q94 (show 8500 ∈ [8500] by first | exact nlm_in rfl | decide)
                  exact ih64 (k + 1) X93 _ _ _ (by omega) hRX93 q95 (by omega) (fun j a b => if hj : j = k then (by rw [hX93, hj]; exact u3_s _ _ _ _ _) else (by rw [hX93, u3_j _ _ _ _ hj]; exact hbk j a (by omega))) hw hS (lv_sub hl [1, 2, 3, 4, 5, 0] rfl)
            exact lp64 (450 - 0 : Int).toNat.succ 0 X1 _ _ _ (by omega) hRX1 Frm.rf (by omega) (fun j a b => by omega) hw hS (lv_sub hl [3, 4, 5, 2, 1, 0] rfl)
          · refine lv_bipush (v := jI (-4)) hx hb dX9_restore_58 (by decide) ?_
            rw [hQ9]
            refine ret_i (mc := 0) (ms := 0) hx hb hr hlocks hw hS (by first | exact Nat.le_of_ble_eq_true rfl | omega) (by first | exact Nat.le_of_ble_eq_true rfl | omega) dX9_restore_60 ?_
            have q97 : Frm [4001] X X1 := by rw [hX1]; exact Frm.set Frm.rf (show 4001 ∈ [4001] by first | exact nlm_in rfl | decide)
            have hMq96 : MInv X1 := minv_frm hMI q97 (by decide)
            exact ⟨X1, rfl, hRX1, hFX1, hMq96, by omega, Or.inr (Or.inr (Or.inl ⟨(by (try delta Hid at *); omega), (by (try delta Hid at *); omega), by omega, by omega, q97⟩))⟩
        · refine lv_bipush (v := jI (-2)) hx hb dX9_restore_33 (by decide) ?_
          rw [hQ9]
          refine ret_i (mc := 0) (ms := 0) hx hb hr hlocks hw hS (by first | exact Nat.le_of_ble_eq_true rfl | omega) (by first | exact Nat.le_of_ble_eq_true rfl | omega) dX9_restore_35 ?_
          have q100 : Frm [4001] X X1 := by rw [hX1]; exact Frm.set Frm.rf (show 4001 ∈ [4001] by first | exact nlm_in rfl | decide)
          have hMq99 : MInv X1 := minv_frm hMI q100 (by decide)
          exact ⟨X1, rfl, hRX1, hFX1, hMq99, by omega, Or.inr (Or.inl ⟨(by (try delta Hid at *); omega), (fun q => by (try delta Hid at *); omega), by omega, q100⟩)⟩
    · refine lv_iconst (v := jI (-1)) hx hb dX9_restore_22 rfl ?_
      rw [hQ9]
      refine ret_i (mc := 0) (ms := 0) hx hb hr hlocks hw hS (by first | exact Nat.le_of_ble_eq_true rfl | omega) (by first | exact Nat.le_of_ble_eq_true rfl | omega) dX9_restore_23 ?_
      have q103 : Frm [4001] X X1 := by rw [hX1]; exact Frm.set Frm.rf (show 4001 ∈ [4001] by first | exact nlm_in rfl | decide)
      have hMq102 : MInv X1 := minv_frm hMI q103 (by decide)
      exact ⟨X1, rfl, hRX1, hFX1, hMq102, by omega, Or.inl ⟨(fun q => by (try delta Hid at *); omega), by omega, q103⟩⟩
  · subst ez2
    refine x_if_eqT (tgt := 22) hx hb (by omega) (by decide) dX9_restore_10 (by decide) ?_
    refine lv_iconst (v := jI (-1)) hx hb dX9_restore_22 rfl ?_
    rw [hQ9]
    refine ret_i (mc := 0) (ms := 0) hx hb hr hlocks hw hS (by first | exact Nat.le_of_ble_eq_true rfl | omega) (by first | exact Nat.le_of_ble_eq_true rfl | omega) dX9_restore_23 ?_
    have q106 : Frm [4001] X X1 := by rw [hX1]; exact Frm.set Frm.rf (show 4001 ∈ [4001] by first | exact nlm_in rfl | decide)
    have hMq105 : MInv X1 := minv_frm hMI q106 (by decide)
    exact ⟨X1, rfl, hRX1, hFX1, hMq105, by omega, Or.inl ⟨(fun q => by (try delta Hid at *); omega), by omega, q106⟩⟩
end
