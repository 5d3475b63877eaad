set_option maxHeartbeats 4000000 in
set_option maxRecDepth 100000 in
theorem c_X9_rowBack (l : Launch) (D : va_G) (tc : Nat → ClassId) (base : Nat) (ad : Nat → Int → Nat) (cnt : Nat → Int) (X : Nat → Int → Int → Int) (Y : Nat → Int → Int → Option Int) (ln : Int → Int) (hR : Rng X) (hFx : Fx cnt) (hMI : MInv X) (sv r lane : Int) (hsv : 0 ≤ sv ∧ sv ≤ 3) (hr0 : 0 ≤ r ∧ r ≤ 149) (hlane : 3 ≤ lane ∧ lane ≤ 5) : KI l D tc base yX9_rowBack wsX9_rowBack ({ frames := 2, cells := 0, slots := 0, locals := 46 } : Room) [.ref (ad 40 0), .int (jI sv), .int (jI r), .int (jI lane)] (ad, cnt, X, Y, ln) 0 0 (fun z u => ∃ X1 : Nat → Int → Int → Int, u = (ad, cnt, X1, Y, ln) ∧ Rng X1 ∧ Frm [6000, 5700, 5800, 5900, 8500] X X1 ∧ MInv X1 ∧ (-1 ≤ z ∧ z ≤ 399)) := by
  refine K_of (cc := cX9_rowBack) (maxL := 8) (ret := (some .int)) (by decide) rfl (Nat.le_of_ble_eq_true rfl) ?_
  intro p e s m below meth c ls hx hb hr hml hown hts hlocks hl hK hw hS
  have hown : s.vm.findClass RX9 = some m.cls := hown
  have hi9 : ∀ w ∈ wsX90, w ∈ wsX9_rowBack := fun w h => List.mem_cons_of_mem _ (List.mem_append_right _ h)
  have hf9 : fctx s m _ RX9 wsX9_rowBack D tc RX9 TX9 51 9 := ⟨hts, hi9, hown, hK.1, rfl⟩
  have lk57 := hts (.fieldLink RX9 57 "StateRecordsModel" "rItems" "[J") (by decide +kernel)
  have lk105 := hts (.fieldLink RX9 105 "StateRecordsModel" "sRowMany" "[I") (by decide +kernel)
  have lk108 := hts (.fieldLink RX9 108 "StateRecordsModel" "sRowItems" "[J") (by decide +kernel)
  have lk127 := hts (.fieldLink RX9 127 "StateRecordsModel" "back" "[I") (by decide +kernel)
  have hc40 : cnt 40 = 1 := hFx.at 40 1 (by decide)
  have hc59 : cnt 59 = 1 := hFx.at 59 1 (by decide)
  have hc78 : cnt 78 = 1 := hFx.at 78 1 (by decide)
  have hc79 : cnt 79 = 1 := hFx.at 79 1 (by decide)
  have hc85 : cnt 85 = 1 := hFx.at 85 1 (by decide)
  have hl : lv_has ls 8 [(0, .ref (ad 40 0)), (1, .int (jI sv)), (2, .int (jI r)), (3, .int (jI lane))] := hl
  have fstypes : 0 ≤ X 40 0 2 ∧ X 40 0 2 ≤ 8 := hR 40 0 2
  have fsthings : 0 ≤ X 40 0 13 ∧ X 40 0 13 ≤ 30 := hR 40 0 13
  have fsmarks : 0 ≤ X 40 0 20 ∧ X 40 0 20 ≤ 4 := hR 40 0 20
  have fsnotes : 0 ≤ X 40 0 22 ∧ X 40 0 22 ≤ 80 := hR 40 0 22
  refine lv_iconst (v := jI 3) hx hb dX9_rowBack_0 rfl ?_
  refine lv_iload_n hx hb dX9_rowBack_1 rfl (lv_at hl 2 rfl) ?_
  refine x_imul hx hb dX9_rowBack_2 ?_
  refine lv_iload_n hx hb dX9_rowBack_3 rfl (lv_at hl 3 rfl) ?_
  refine x_iadd hx hb dX9_rowBack_4 ?_
  refine lv_iconst (v := jI 3) hx hb dX9_rowBack_5 rfl ?_
  refine x_isub hx hb dX9_rowBack_6 ?_
  refine lv_istore (lv' := [(4, .int (jI (((3 * r) + lane) - 3))), (0, .ref (ad 40 0)), (1, .int (jI sv)), (2, .int (jI r)), (3, .int (jI lane))]) hx hb dX9_rowBack_7 hl (by decide) rfl (fun ls hl => ?_)
  refine lv_aload_n hx hb dX9_rowBack_9 rfl (lv_at hl 1 rfl) ?_
  refine x_geto hx hb hf9 hw (by omega) (by omega) sl_40_44 lk127 dX9_rowBack_10 ?_
  refine lv_iload hx hb dX9_rowBack_13 (lv_at hl 0 rfl) ?_
  refine x_iald hx hb hK.1 hw (by omega) (by omega) ar_85 (len_E ar_85 (by decide)) (by omega) (by omega) (by omega) dX9_rowBack_15 ?_
  have f1 : (-1) ≤ X 85 0 (((3 * r) + lane) - 3) ∧ X 85 0 (((3 * r) + lane) - 3) ≤ 399 := hR 85 0 (((3 * r) + lane) - 3)
  refine x_if_ge (tgt := 98) hx hb (by omega) dX9_rowBack_16 (by decide) (fun c2 => ?_) (fun c2 => ?_)
  · refine lv_aload_n hx hb dX9_rowBack_98 rfl (lv_at hl 1 rfl) ?_
    refine x_geto hx hb hf9 hw (by omega) (by omega) sl_40_44 lk127 dX9_rowBack_99 ?_
    refine lv_iload hx hb dX9_rowBack_102 (lv_at hl 0 rfl) ?_
    refine x_iald hx hb hK.1 hw (by omega) (by omega) ar_85 (len_E ar_85 (by decide)) (by omega) (by omega) (by omega) dX9_rowBack_104 ?_
    have f3 : (-1) ≤ X 85 0 (((3 * r) + lane) - 3) ∧ X 85 0 (((3 * r) + lane) - 3) ≤ 399 := hR 85 0 (((3 * r) + lane) - 3)
    refine ret_i (mc := 0) (ms := 0) hx hb hr hlocks hw hS (by omega) (by omega) dX9_rowBack_105 ?_
    exact ⟨X, rfl, hR, Frm.rf, hMI, by omega⟩
  · refine lv_aload_n hx hb dX9_rowBack_19 rfl (lv_at hl 1 rfl) ?_
    refine x_geto hx hb hf9 hw (by omega) (by omega) sl_40_37 lk105 dX9_rowBack_20 ?_
    refine lv_sipush (v := jI 150) hx hb dX9_rowBack_23 (by decide) ?_
    refine lv_iload_n hx hb dX9_rowBack_26 rfl (lv_at hl 2 rfl) ?_
    refine x_imul hx hb dX9_rowBack_27 ?_
    refine lv_iload_n hx hb dX9_rowBack_28 rfl (lv_at hl 3 rfl) ?_
    refine x_iadd hx hb dX9_rowBack_29 ?_
    refine x_iald hx hb hK.1 hw (by omega) (by omega) ar_78 (len_E ar_78 (by decide)) (by omega) (by omega) (by omega) dX9_rowBack_30 ?_
    have f4 : 0 ≤ X 78 0 ((150 * sv) + r) ∧ X 78 0 ((150 * sv) + r) ≤ 12 := hR 78 0 ((150 * sv) + r)
    refine lv_istore (lv' := [(5, .int (jI (X 78 0 ((150 * sv) + r)))), (4, .int (jI (((3 * r) + lane) - 3))), (0, .ref (ad 40 0)), (1, .int (jI sv)), (2, .int (jI r)), (3, .int (jI lane))]) hx hb dX9_rowBack_31 hl (by decide) rfl (fun ls hl => ?_)
    refine lv_aload_n hx hb dX9_rowBack_33 rfl (lv_at hl 2 rfl) ?_
    refine lv_iload_n hx hb dX9_rowBack_34 rfl (lv_at hl 5 rfl) ?_
    refine lv_iload hx hb dX9_rowBack_35 (lv_at hl 0 rfl) ?_
    refine gos_i (run_V (As := [.int (jI lane), .int (jI (X 78 0 ((150 * sv) + r)))]) (rest := []) hx hb hml hown hts (c_X9_newRow l D tc base ad cnt X Y ln hR hFx hMI lane (X 78 0 ((150 * sv) + r)) (by omega) (by omega)) (cwV 2 hts gX9_rowBack_X9_newRow rfl rfl rfl (by decide +kernel) ⟨Nat.le_of_ble_eq_true rfl, Nat.le_of_ble_eq_true rfl⟩) hK hw (by omega) (by omega) sl_40_0 rfl rfl hl.1 rfl (Nat.le_of_ble_eq_true rfl) dX9_rowBack_37 ⟨Nat.le_of_ble_eq_true rfl, Nat.le_of_ble_eq_true rfl⟩) hS (fun z5 u6 H locs p7 hw hS => ?_)
    obtain ⟨X8, eu6, hRX8, hG9, hMIX8, p7⟩ := p7
    subst eu6
    have hFX8 : Frm [6000, 5700, 5800, 5900, 8500] X X8 := Frm.tr Frm.rf (Frm.mono hG9 (by decide))
    refine lv_istore (lv' := [(6, .int (jI z5)), (5, .int (jI (X 78 0 ((150 * sv) + r)))), (4, .int (jI (((3 * r) + lane) - 3))), (0, .ref (ad 40 0)), (1, .int (jI sv)), (2, .int (jI r)), (3, .int (jI lane))]) hx hb dX9_rowBack_40 hl (by decide) rfl (fun ls hl => ?_)
    refine lv_iconst (v := jI 0) hx hb dX9_rowBack_42 rfl ?_
    refine lv_istore (lv' := [(7, .int (jI 0)), (6, .int (jI z5)), (5, .int (jI (X 78 0 ((150 * sv) + r)))), (4, .int (jI (((3 * r) + lane) - 3))), (0, .ref (ad 40 0)), (1, .int (jI sv)), (2, .int (jI r)), (3, .int (jI lane))]) hx hb dX9_rowBack_43 hl (by decide) rfl (fun ls hl => ?_)
    have lp45 : ∀ (nn : Nat) (k : Int) (Xa : Nat → Int → Int → Int) (H : Heap) (locs : List Loc) (ls : Array Slot), (12 - k) < (nn : Int) → (Rng Xa) → (Frm [5900] X8 Xa) → (0 ≤ k ∧ k ≤ 12) → wd D tc base (ad, cnt, Xa, Y, ln) H → va_S (frA base) s.heap H locs → lv_has ls 8 [(0, .ref (ad 40 0)), (1, .int (jI sv)), (2, .int (jI r)), (3, .int (jI lane)), (4, .int (jI (((3 * r) + lane) - 3))), (5, .int (jI (X 78 0 ((150 * sv) + r)))), (6, .int (jI z5)), (7, .int (jI k))] → W p l e ({ frames := 2, cells := 0, slots := 0, locals := 46 } : Room) s m ([.ref (ad 40 0), .int (jI sv), .int (jI r), .int (jI lane)] : List Value).toArray below meth c H locs 0 0 (MQ below (QI D tc base (fun z u => ∃ X1 : Nat → Int → Int → Int, u = (ad, cnt, X1, Y, ln) ∧ Rng X1 ∧ Frm [6000, 5700, 5800, 5900, 8500] X X1 ∧ MInv X1 ∧ (-1 ≤ z ∧ z ≤ 399))) ([.ref (ad 40 0), .int (jI sv), .int (jI r), .int (jI lane)] : List Value).toArray s 0 0 (frA base)) (F0 m 45 ls []) := by
      intro nn
      induction nn with
      | zero => intro k Xa H locs ls hm hRXa hGXa hk hw hS hl; exfalso; omega
      | succ nn ih45 =>
        intro k Xa H locs ls hm hRXa hGXa hk hw hS hl
        have hFXa : Frm [6000, 5700, 5800, 5900, 8500] X Xa := Frm.tr hFX8 (Frm.mono hGXa (by decide))
        refine lv_iload hx hb dX9_rowBack_45 (lv_at hl 7 rfl) ?_
        refine lv_iload hx hb dX9_rowBack_47 (lv_at hl 5 rfl) ?_
        refine x_icmp_ge (tgt := 89) hx hb (by omega) (by omega) dX9_rowBack_49 (by decide) (fun c10 => ?_) (fun c10 => ?_)
        · refine lv_aload_n hx hb dX9_rowBack_89 rfl (lv_at hl 0 rfl) ?_
          refine x_geto hx hb hf9 hw (by omega) (by omega) sl_40_44 lk127 dX9_rowBack_90 ?_
          refine lv_iload hx hb dX9_rowBack_93 (lv_at hl 4 rfl) ?_
          refine lv_iload hx hb dX9_rowBack_95 (lv_at hl 6 rfl) ?_
          refine x_iast hx hb hK.1 hw hS (by omega) (by omega) ar_85 (len_E ar_85 (by decide)) (by omega) (by omega) (by omega) dX9_rowBack_97 (fun H locs hw hS => ?_)
          obtain ⟨X11, hX11⟩ : ∃ Xq, Xq = u3 Xa 85 0 (((3 * r) + lane) - 3) z5 := ⟨_, rfl⟩
          rw [← hX11] at hw
          have hRX11 : Rng X11 := by rw [hX11]; exact rng_set hRXa (show (-1) ≤ z5 ∧ z5 ≤ 399 by omega)
          have hVX11 : X11 85 0 (((3 * r) + lane) - 3) = z5 := by rw [hX11]; exact u3_s _ _ _ _ _
          have hFX11 : Frm [6000, 5700, 5800, 5900, 8500] X X11 := by rw [hX11]; exact Frm.set hFXa (show 8500 ∈ [6000, 5700, 5800, 5900, 8500] by decide)
          refine lv_aload_n hx hb dX9_rowBack_98 rfl (lv_at hl 0 rfl) ?_
          refine x_geto hx hb hf9 hw (by omega) (by omega) sl_40_44 lk127 dX9_rowBack_99 ?_
          refine lv_iload hx hb dX9_rowBack_102 (lv_at hl 4 rfl) ?_
          refine x_iald hx hb hK.1 hw (by omega) (by omega) ar_85 (len_E ar_85 (by decide)) (by omega) (by omega) (by omega) dX9_rowBack_104 ?_
          rw [hVX11]
          refine ret_i (mc := 0) (ms := 0) hx hb hr hlocks hw hS (by omega) (by omega) dX9_rowBack_105 ?_
          have q13 : Frm [5900, 8500] X8 Xa := Frm.tr Frm.rf (Frm.mono hGXa (by decide))
          have q14 : Frm [5900, 8500] X8 X11 := by rw [hX11]; exact Frm.set q13 (show 8500 ∈ [5900, 8500] by decide)
          have hMq12 : MInv X11 := minv_frm hMIX8 q14 (by decide)
          exact ⟨X11, rfl, hRX11, hFX11, hMq12, by omega⟩
        · refine lv_aload_n hx hb dX9_rowBack_52 rfl (lv_at hl 0 rfl) ?_
          refine x_geto hx hb hf9 hw (by omega) (by omega) sl_40_18 lk57 dX9_rowBack_53 ?_
          refine lv_bipush (v := jI 12) hx hb dX9_rowBack_56 (by decide) ?_
          refine lv_iload hx hb dX9_rowBack_58 (lv_at hl 6 rfl) ?_
          refine x_imul hx hb dX9_rowBack_60 ?_
          refine lv_iload hx hb dX9_rowBack_61 (lv_at hl 7 rfl) ?_
          refine x_iadd hx hb dX9_rowBack_63 ?_
          refine lv_aload_n hx hb dX9_rowBack_64 rfl (lv_at hl 0 rfl) ?_
          refine x_geto hx hb hf9 hw (by omega) (by omega) sl_40_38 lk108 dX9_rowBack_65 ?_
          refine lv_bipush (v := jI 12) hx hb dX9_rowBack_68 (by decide) ?_
          refine lv_sipush (v := jI 150) hx hb dX9_rowBack_70 (by decide) ?_
          refine lv_iload_n hx hb dX9_rowBack_73 rfl (lv_at hl 1 rfl) ?_
          refine x_imul hx hb dX9_rowBack_74 ?_
          refine lv_iload_n hx hb dX9_rowBack_75 rfl (lv_at hl 2 rfl) ?_
          refine x_iadd hx hb dX9_rowBack_76 ?_
          refine x_imul hx hb dX9_rowBack_77 ?_
          refine lv_iload hx hb dX9_rowBack_78 (lv_at hl 7 rfl) ?_
          refine x_iadd hx hb dX9_rowBack_80 ?_
          refine x_lald hx hb hK.1 hw (by omega) (by omega) ar_79 (len_E ar_79 (by decide)) (by omega) (by omega) (by omega) dX9_rowBack_81 ?_
          have e15 : ∀ p9 q9 : Int, Xa 79 p9 q9 = X 79 p9 q9 := fun p9 q9 => by rw [hGXa 79 p9 q9 (show 7900 ∉ [5900] by decide), hG9 79 p9 q9 (show 7900 ∉ [6000, 5700, 5800, 5900] by decide)]
          rw [e15 0 ((12 * ((150 * sv) + r)) + k)]
          have f16 : (-9223372036854775808) ≤ X 79 0 ((12 * ((150 * sv) + r)) + k) ∧ X 79 0 ((12 * ((150 * sv) + r)) + k) ≤ 9223372036854775807 := hR 79 0 ((12 * ((150 * sv) + r)) + k)
          refine x_last hx hb hK.1 hw hS (by omega) (by omega) ar_59 (len_E ar_59 (by decide)) (by omega) (by omega) (by omega) dX9_rowBack_82 (fun H locs hw hS => ?_)
          obtain ⟨X17, hX17⟩ : ∃ Xq, Xq = u3 Xa 59 0 ((12 * z5) + k) (X 79 0 ((12 * ((150 * sv) + r)) + k)) := ⟨_, rfl⟩
          rw [← hX17] at hw
          have hRX17 : Rng X17 := by rw [hX17]; exact rng_set hRXa (show (-9223372036854775808) ≤ (X 79 0 ((12 * ((150 * sv) + r)) + k)) ∧ (X 79 0 ((12 * ((150 * sv) + r)) + k)) ≤ 9223372036854775807 by omega)
          have hVX17 : X17 59 0 ((12 * z5) + k) = (X 79 0 ((12 * ((150 * sv) + r)) + k)) := by rw [hX17]; exact u3_s _ _ _ _ _
          have hFX17 : Frm [6000, 5700, 5800, 5900, 8500] X X17 := by rw [hX17]; exact Frm.set hFXa (show 5900 ∈ [6000, 5700, 5800, 5900, 8500] by decide)
          refine lv_iinc (v := jI (k + 1)) (lv' := [(7, .int (jI (k + 1))), (0, .ref (ad 40 0)), (1, .int (jI sv)), (2, .int (jI r)), (3, .int (jI lane)), (4, .int (jI (((3 * r) + lane) - 3))), (5, .int (jI (X 78 0 ((150 * sv) + r)))), (6, .int (jI z5))]) hx hb dX9_rowBack_83 hl (k := 7) rfl (jI_add _ _) (by decide) rfl (fun ls hl => ?_)
          refine lv_goto (tgt := 45) hx hb dX9_rowBack_86 (by decide) ?_
          have q18 : Frm [5900] X8 Xa := Frm.tr Frm.rf (Frm.mono hGXa (by decide))
          have q19 : Frm [5900] X8 X17 := by rw [hX17]; exact Frm.set q18 (show 5900 ∈ [5900] by decide)
          exact ih45 (k + 1) X17 _ _ _ (by omega) hRX17 q19 (by omega) hw hS (lv_sub hl [1, 2, 3, 4, 5, 6, 7, 0] rfl)
    exact lp45 (12 - 0 : Int).toNat.succ 0 X8 _ _ _ (by omega) hRX8 Frm.rf (by omega) hw hS (lv_sub hl [4, 5, 6, 7, 3, 2, 1, 0] rfl)

set_option maxHeartbeats 4000000 in
set_option maxRecDepth 100000 in
theorem c_X9_fieldsBack (l : Launch) (D : va_G) (tc : Nat → ClassId) (base : Nat) (ad : Nat → Int → Nat) (cnt : Nat → Int) (X : Nat → Int → Int → Int) (Y : Nat → Int → Int → Option Int) (ln : Int → Int) (hR : Rng X) (hFx : Fx cnt) (hMI : MInv X) (sv r rule bs : Int) (hsv : 0 ≤ sv ∧ sv ≤ 3) (hr0 : 0 ≤ r ∧ r < X 70 0 sv) (hrule : -2147483648 ≤ rule ∧ rule ≤ 2147483647) (hbs : 0 ≤ bs) (hbt : bs + X 70 0 sv = X 40 0 13) : KI l D tc base yX9_fieldsBack wsX9_fieldsBack ({ frames := 3, cells := 0, slots := 0, locals := 73 } : Room) [.ref (ad 40 0), .int (jI sv), .int (jI r), .int (jI rule), .int (jI bs)] (ad, cnt, X, Y, ln) 0 0 (fun z u => ∃ X1 : Nat → Int → Int → Int, u = (ad, cnt, X1, Y, ln) ∧ Rng X1 ∧ Frm [5600, 6000, 5700, 5800, 5900, 8500, 4042, 4043, 4044] X X1 ∧ MInv X1 ∧ (-20 ≤ z ∧ z ≤ 0) ∧ ∀ j, j < 5 * bs → X1 56 0 j = X 56 0 j) := by
  refine K_of (cc := cX9_fieldsBack) (maxL := 13) (ret := (some .int)) (by decide) rfl (Nat.le_of_ble_eq_true rfl) ?_
  intro p e s m below meth c ls hx hb hr hml hown hts hlocks hl hK hw hS
  have hown : s.vm.findClass RX9 = some m.cls := hown
  have hi9 : ∀ w ∈ wsX90, w ∈ wsX9_fieldsBack := fun w h => List.mem_cons_of_mem _ (List.mem_append_right _ h)
  have hf9 : fctx s m _ RX9 wsX9_fieldsBack D tc RX9 TX9 51 9 := ⟨hts, hi9, hown, hK.1, rfl⟩
  have lk7 := hts (.fieldLink RX9 7 "StateRecordsModel" "isOut" "[Z") (by decide +kernel)
  have lk20 := hts (.fieldLink RX9 20 "StateRecordsModel" "fLane" "[I") (by decide +kernel)
  have lk45 := hts (.fieldLink RX9 45 "StateRecordsModel" "xType" "[I") (by decide +kernel)
  have lk48 := hts (.fieldLink RX9 48 "StateRecordsModel" "xVal" "[J") (by decide +kernel)
  have lk87 := hts (.fieldLink RX9 87 "StateRecordsModel" "sFields" "[I") (by decide +kernel)
  have lk90 := hts (.fieldLink RX9 90 "StateRecordsModel" "sName" "[I") (by decide +kernel)
  have lk93 := hts (.fieldLink RX9 93 "StateRecordsModel" "sLane" "[I") (by decide +kernel)
  have lk96 := hts (.fieldLink RX9 96 "StateRecordsModel" "sVal" "[J") (by decide +kernel)
  have hc40 : cnt 40 = 1 := hFx.at 40 1 (by decide)
  have hc42 : cnt 42 = 1 := hFx.at 42 1 (by decide)
  have hc46 : cnt 46 = 1 := hFx.at 46 1 (by decide)
  have hc55 : cnt 55 = 1 := hFx.at 55 1 (by decide)
  have hc56 : cnt 56 = 1 := hFx.at 56 1 (by decide)
  have hc72 : cnt 72 = 1 := hFx.at 72 1 (by decide)
  have hc73 : cnt 73 = 1 := hFx.at 73 1 (by decide)
  have hc74 : cnt 74 = 1 := hFx.at 74 1 (by decide)
  have hc75 : cnt 75 = 1 := hFx.at 75 1 (by decide)
  have hl : lv_has ls 13 [(0, .ref (ad 40 0)), (1, .int (jI sv)), (2, .int (jI r)), (3, .int (jI rule)), (4, .int (jI bs))] := hl
  have fstypes : 0 ≤ X 40 0 2 ∧ X 40 0 2 ≤ 8 := hR 40 0 2
  have fsthings : 0 ≤ X 40 0 13 ∧ X 40 0 13 ≤ 30 := hR 40 0 13
  have fsmarks : 0 ≤ X 40 0 20 ∧ X 40 0 20 ≤ 4 := hR 40 0 20
  have fsnotes : 0 ≤ X 40 0 22 ∧ X 40 0 22 ≤ 80 := hR 40 0 22
  have fsm : 0 ≤ X 70 0 sv ∧ X 70 0 sv ≤ 30 := hR 70 0 sv
  refine lv_iload hx hb dX9_fieldsBack_0 (lv_at hl 4 rfl) ?_
  refine lv_iload_n hx hb dX9_fieldsBack_2 rfl (lv_at hl 2 rfl) ?_
  refine x_iadd hx hb dX9_fieldsBack_3 ?_
  refine lv_istore (lv' := [(5, .int (jI (bs + r))), (0, .ref (ad 40 0)), (1, .int (jI sv)), (2, .int (jI r)), (3, .int (jI rule)), (4, .int (jI bs))]) hx hb dX9_fieldsBack_4 hl (by decide) rfl (fun ls hl => ?_)
  refine lv_aload_n hx hb dX9_fieldsBack_6 rfl (lv_at hl 1 rfl) ?_
  refine x_geto hx hb hf9 hw (by omega) (by omega) sl_40_14 lk45 dX9_fieldsBack_7 ?_
  refine lv_iload hx hb dX9_fieldsBack_10 (lv_at hl 0 rfl) ?_
  refine x_iald hx hb hK.1 hw (by omega) (by omega) ar_55 (len_E ar_55 (by decide)) (by omega) (by omega) (by omega) dX9_fieldsBack_12 ?_
  have f1 : 0 ≤ X 55 0 (bs + r) ∧ X 55 0 (bs + r) ≤ 7 := hR 55 0 (bs + r)
  refine lv_istore (lv' := [(6, .int (jI (X 55 0 (bs + r)))), (5, .int (jI (bs + r))), (0, .ref (ad 40 0)), (1, .int (jI sv)), (2, .int (jI r)), (3, .int (jI rule)), (4, .int (jI bs))]) hx hb dX9_fieldsBack_13 hl (by decide) rfl (fun ls hl => ?_)
  refine lv_iconst (v := jI 0) hx hb dX9_fieldsBack_15 rfl ?_
  refine lv_istore (lv' := [(7, .int (jI 0)), (6, .int (jI (X 55 0 (bs + r)))), (5, .int (jI (bs + r))), (0, .ref (ad 40 0)), (1, .int (jI sv)), (2, .int (jI r)), (3, .int (jI rule)), (4, .int (jI bs))]) hx hb dX9_fieldsBack_16 hl (by decide) rfl (fun ls hl => ?_)
  have lp18 : ∀ (nn : Nat) (k : Int) (Xa : Nat → Int → Int → Int) (H : Heap) (locs : List Loc) (ls : Array Slot), (5 - k) < (nn : Int) → (Rng Xa) → (Frm [5600, 6000, 5700, 5800, 5900, 8500] X Xa) → (0 ≤ k ∧ k ≤ 5) → (MInv Xa) → (∀ j, j < 5 * bs → Xa 56 0 j = X 56 0 j) → wd D tc base (ad, cnt, Xa, Y, ln) H → va_S (frA base) s.heap H locs → lv_has ls 13 [(0, .ref (ad 40 0)), (1, .int (jI sv)), (2, .int (jI r)), (3, .int (jI rule)), (4, .int (jI bs)), (5, .int (jI (bs + r))), (6, .int (jI (X 55 0 (bs + r)))), (7, .int (jI k))] → W p l e ({ frames := 3, cells := 0, slots := 0, locals := 73 } : Room) s m ([.ref (ad 40 0), .int (jI sv), .int (jI r), .int (jI rule), .int (jI bs)] : List Value).toArray below meth c H locs 0 0 (MQ below (QI D tc base (fun z u => ∃ X1 : Nat → Int → Int → Int, u = (ad, cnt, X1, Y, ln) ∧ Rng X1 ∧ Frm [5600, 6000, 5700, 5800, 5900, 8500, 4042, 4043, 4044] X X1 ∧ MInv X1 ∧ (-20 ≤ z ∧ z ≤ 0) ∧ ∀ j, j < 5 * bs → X1 56 0 j = X 56 0 j)) ([.ref (ad 40 0), .int (jI sv), .int (jI r), .int (jI rule), .int (jI bs)] : List Value).toArray s 0 0 (frA base)) (F0 m 18 ls []) := by
    intro nn
    induction nn with
    | zero => intro k Xa H locs ls hm hRXa hGXa hk hMIXa hlo hw hS hl; exfalso; omega
    | succ nn ih18 =>
      intro k Xa H locs ls hm hRXa hGXa hk hMIXa hlo hw hS hl
      have hFXa : Frm [5600, 6000, 5700, 5800, 5900, 8500, 4042, 4043, 4044] X Xa := Frm.tr Frm.rf (Frm.mono hGXa (by decide))
      refine lv_iload hx hb dX9_fieldsBack_18 (lv_at hl 7 rfl) ?_
      refine lv_aload_n hx hb dX9_fieldsBack_20 rfl (lv_at hl 0 rfl) ?_
      refine x_geto hx hb hf9 hw (by omega) (by omega) sl_40_31 lk87 dX9_fieldsBack_21 ?_
      refine lv_bipush (v := jI 30) hx hb dX9_fieldsBack_24 (by decide) ?_
      refine lv_iload_n hx hb dX9_fieldsBack_26 rfl (lv_at hl 1 rfl) ?_
      refine x_imul hx hb dX9_fieldsBack_27 ?_
      refine lv_iload_n hx hb dX9_fieldsBack_28 rfl (lv_at hl 2 rfl) ?_
      refine x_iadd hx hb dX9_fieldsBack_29 ?_
      refine x_iald hx hb hK.1 hw (by omega) (by omega) ar_72 (len_E ar_72 (by decide)) (by omega) (by omega) (by omega) dX9_fieldsBack_30 ?_
      have e2 : ∀ p9 q9 : Int, Xa 72 p9 q9 = X 72 p9 q9 := fun p9 q9 => by rw [hGXa 72 p9 q9 (show 7200 ∉ [5600, 6000, 5700, 5800, 5900, 8500] by decide)]
      rw [e2 0 ((30 * sv) + r)]
      have f3 : 0 ≤ X 72 0 ((30 * sv) + r) ∧ X 72 0 ((30 * sv) + r) ≤ 5 := hR 72 0 ((30 * sv) + r)
      refine x_icmp_ge (tgt := 256) hx hb (by omega) (by omega) dX9_fieldsBack_31 (by decide) (fun c4 => ?_) (fun c4 => ?_)
      · refine lv_iconst (v := jI 0) hx hb dX9_fieldsBack_256 rfl ?_
        refine ret_i (mc := 0) (ms := 0) hx hb hr hlocks hw hS (by omega) (by omega) dX9_fieldsBack_257 ?_
        exact ⟨Xa, rfl, hRXa, hFXa, hMIXa, by omega, fun j hj => (by exact hlo j hj)⟩
      · refine lv_iconst (v := jI 5) hx hb dX9_fieldsBack_34 rfl ?_
        refine lv_bipush (v := jI 30) hx hb dX9_fieldsBack_35 (by decide) ?_
        refine lv_iload_n hx hb dX9_fieldsBack_37 rfl (lv_at hl 1 rfl) ?_
        refine x_imul hx hb dX9_fieldsBack_38 ?_
        refine lv_iload_n hx hb dX9_fieldsBack_39 rfl (lv_at hl 2 rfl) ?_
        refine x_iadd hx hb dX9_fieldsBack_40 ?_
        refine x_imul hx hb dX9_fieldsBack_41 ?_
        refine lv_iload hx hb dX9_fieldsBack_42 (lv_at hl 7 rfl) ?_
        refine x_iadd hx hb dX9_fieldsBack_44 ?_
        refine lv_istore (lv' := [(8, .int (jI ((5 * ((30 * sv) + r)) + k))), (0, .ref (ad 40 0)), (1, .int (jI sv)), (2, .int (jI r)), (3, .int (jI rule)), (4, .int (jI bs)), (5, .int (jI (bs + r))), (6, .int (jI (X 55 0 (bs + r)))), (7, .int (jI k))]) hx hb dX9_fieldsBack_45 hl (by decide) rfl (fun ls hl => ?_)
        refine lv_aload_n hx hb dX9_fieldsBack_47 rfl (lv_at hl 1 rfl) ?_
        refine lv_iload hx hb dX9_fieldsBack_48 (lv_at hl 7 rfl) ?_
        refine lv_aload_n hx hb dX9_fieldsBack_50 rfl (lv_at hl 1 rfl) ?_
        refine x_geto hx hb hf9 hw (by omega) (by omega) sl_40_32 lk90 dX9_fieldsBack_51 ?_
        refine lv_iload hx hb dX9_fieldsBack_54 (lv_at hl 0 rfl) ?_
        refine x_iald hx hb hK.1 hw (by omega) (by omega) ar_73 (len_E ar_73 (by decide)) (by omega) (by omega) (by omega) dX9_fieldsBack_56 ?_
        have e5 : ∀ p9 q9 : Int, Xa 73 p9 q9 = X 73 p9 q9 := fun p9 q9 => by rw [hGXa 73 p9 q9 (show 7300 ∉ [5600, 6000, 5700, 5800, 5900, 8500] by decide)]
        rw [e5 0 ((5 * ((30 * sv) + r)) + k)]
        have f6 : 0 ≤ X 73 0 ((5 * ((30 * sv) + r)) + k) ∧ X 73 0 ((5 * ((30 * sv) + r)) + k) ≤ 19 := hR 73 0 ((5 * ((30 * sv) + r)) + k)
        refine gos_i (run_V (As := [.int (jI (X 55 0 (bs + r))), .int (jI (X 73 0 ((5 * ((30 * sv) + r)) + k)))]) (rest := []) hx hb hml hown hts (c_X9_named l D tc base ad cnt Xa Y ln hRXa hFx (X 55 0 (bs + r)) (X 73 0 ((5 * ((30 * sv) + r)) + k)) (by omega) (by omega)) (cwV 2 hts gX9_fieldsBack_X9_named rfl rfl rfl (by decide +kernel) ⟨Nat.le_of_ble_eq_true rfl, Nat.le_of_ble_eq_true rfl⟩) hK hw (by omega) (by omega) sl_40_0 rfl rfl hl.1 rfl (Nat.le_of_ble_eq_true rfl) dX9_fieldsBack_57 ⟨Nat.le_of_ble_eq_true rfl, Nat.le_of_ble_eq_true rfl⟩) hS (fun z7 u8 H locs p9 hw hS => ?_)
        obtain ⟨eu8, p9⟩ := p9
        subst eu8
        have e10 : ∀ j : Int, Xa 44 0 j = X 44 0 j := fun j => by rw [hGXa 44 0 j (show 4400 ∉ [5600, 6000, 5700, 5800, 5900, 8500] by decide)]
        have e11 : ∀ j : Int, Xa 45 0 j = X 45 0 j := fun j => by rw [hGXa 45 0 j (show 4500 ∉ [5600, 6000, 5700, 5800, 5900, 8500] by decide)]
        simp only [e10, e11] at p9
        refine lv_istore (lv' := [(9, .int (jI z7)), (8, .int (jI ((5 * ((30 * sv) + r)) + k))), (0, .ref (ad 40 0)), (1, .int (jI sv)), (2, .int (jI r)), (3, .int (jI rule)), (4, .int (jI bs)), (5, .int (jI (bs + r))), (6, .int (jI (X 55 0 (bs + r)))), (7, .int (jI k))]) hx hb dX9_fieldsBack_60 hl (by decide) rfl (fun ls hl => ?_)
        refine lv_iload hx hb dX9_fieldsBack_62 (lv_at hl 0 rfl) ?_
        refine x_if_ge (tgt := 89) hx hb (by omega) dX9_fieldsBack_64 (by decide) (fun c12 => ?_) (fun c12 => ?_)
        · refine lv_aload_n hx hb dX9_fieldsBack_89 rfl (lv_at hl 2 rfl) ?_
          refine x_geto hx hb hf9 hw (by omega) (by omega) sl_40_5 lk20 dX9_fieldsBack_90 ?_
          refine lv_iconst (v := jI 5) hx hb dX9_fieldsBack_93 rfl ?_
          refine lv_iload hx hb dX9_fieldsBack_94 (lv_at hl 8 rfl) ?_
          refine x_imul hx hb dX9_fieldsBack_96 ?_
          refine lv_iload hx hb dX9_fieldsBack_97 (lv_at hl 0 rfl) ?_
          refine x_iadd hx hb dX9_fieldsBack_99 ?_
          refine x_iald hx hb hK.1 hw (by omega) (by omega) ar_46 (len_E ar_46 (by decide)) (by omega) (by omega) (by omega) dX9_fieldsBack_100 ?_
          have e13 : ∀ p9 q9 : Int, Xa 46 p9 q9 = X 46 p9 q9 := fun p9 q9 => by rw [hGXa 46 p9 q9 (show 4600 ∉ [5600, 6000, 5700, 5800, 5900, 8500] by decide)]
          rw [e13 0 ((5 * (X 55 0 (bs + r))) + z7)]
          have f14 : 0 ≤ X 46 0 ((5 * (X 55 0 (bs + r))) + z7) ∧ X 46 0 ((5 * (X 55 0 (bs + r))) + z7) ≤ 5 := hR 46 0 ((5 * (X 55 0 (bs + r))) + z7)
          refine lv_istore (lv' := [(10, .int (jI (X 46 0 ((5 * (X 55 0 (bs + r))) + z7)))), (9, .int (jI z7)), (8, .int (jI ((5 * ((30 * sv) + r)) + k))), (0, .ref (ad 40 0)), (1, .int (jI sv)), (2, .int (jI r)), (3, .int (jI rule)), (4, .int (jI bs)), (5, .int (jI (bs + r))), (6, .int (jI (X 55 0 (bs + r)))), (7, .int (jI k))]) hx hb dX9_fieldsBack_101 hl (by decide) rfl (fun ls hl => ?_)
          refine lv_aload_n hx hb dX9_fieldsBack_103 rfl (lv_at hl 3 rfl) ?_
          refine x_geto hx hb hf9 hw (by omega) (by omega) sl_40_33 lk93 dX9_fieldsBack_104 ?_
          refine lv_iload hx hb dX9_fieldsBack_107 (lv_at hl 2 rfl) ?_
          refine x_iald hx hb hK.1 hw (by omega) (by omega) ar_74 (len_E ar_74 (by decide)) (by omega) (by omega) (by omega) dX9_fieldsBack_109 ?_
          have e15 : ∀ p9 q9 : Int, Xa 74 p9 q9 = X 74 p9 q9 := fun p9 q9 => by rw [hGXa 74 p9 q9 (show 7400 ∉ [5600, 6000, 5700, 5800, 5900, 8500] by decide)]
          rw [e15 0 ((5 * ((30 * sv) + r)) + k)]
          have f16 : 0 ≤ X 74 0 ((5 * ((30 * sv) + r)) + k) ∧ X 74 0 ((5 * ((30 * sv) + r)) + k) ≤ 5 := hR 74 0 ((5 * ((30 * sv) + r)) + k)
          refine lv_iload hx hb dX9_fieldsBack_110 (lv_at hl 0 rfl) ?_
          refine gos_i (run_S (As := [.int (jI (X 74 0 ((5 * ((30 * sv) + r)) + k))), .int (jI (X 46 0 ((5 * (X 55 0 (bs + r))) + z7)))]) (rest := []) hx hb hml hown hts (c_X9_goes l D tc base ad cnt Xa Y ln (X 74 0 ((5 * ((30 * sv) + r)) + k)) (X 46 0 ((5 * (X 55 0 (bs + r))) + z7)) (by omega) (by omega)) (cwS 2 hts gX9_fieldsBack_X9_goes rfl rfl rfl (by decide +kernel) ⟨Nat.le_of_ble_eq_true rfl, Nat.le_of_ble_eq_true rfl⟩) hK hw rfl hl.1 rfl (Nat.le_of_ble_eq_true rfl) dX9_fieldsBack_112 ⟨Nat.le_of_ble_eq_true rfl, Nat.le_of_ble_eq_true rfl⟩) hS (fun z17 u18 H locs p19 hw hS => ?_)
          obtain ⟨eu18, p19⟩ := p19
          subst eu18
          rcases p19 with ⟨ez17, p19⟩ | ⟨ez17, p19⟩
          · subst ez17
            refine x_if_neT (tgt := 134) hx hb (by omega) (by decide) dX9_fieldsBack_115 (by decide) ?_
            refine lv_aload_n hx hb dX9_fieldsBack_134 rfl (lv_at hl 3 rfl) ?_
            refine x_geto hx hb hf9 hw (by omega) (by omega) sl_40_34 lk96 dX9_fieldsBack_135 ?_
            refine lv_iload hx hb dX9_fieldsBack_138 (lv_at hl 2 rfl) ?_
            obtain ⟨hv1, hv2, hv3⟩ := (hMI.2.2.1 sv r (by omega) (by omega) (by omega) (by omega)).2 k (by omega) (by omega)
            refine x_lald hx hb hK.1 hw (by omega) (by omega) ar_75 (len_E ar_75 (by decide)) (by omega) (by omega) (by omega) dX9_fieldsBack_140 ?_
            have e20 : ∀ p9 q9 : Int, Xa 75 p9 q9 = X 75 p9 q9 := fun p9 q9 => by rw [hGXa 75 p9 q9 (show 7500 ∉ [5600, 6000, 5700, 5800, 5900, 8500] by decide)]
            rw [e20 0 ((5 * ((30 * sv) + r)) + k)]
            have f21 : (-9223372036854775808) ≤ X 75 0 ((5 * ((30 * sv) + r)) + k) ∧ X 75 0 ((5 * ((30 * sv) + r)) + k) ≤ 9223372036854775807 := hR 75 0 ((5 * ((30 * sv) + r)) + k)
            refine lv_lstore (lv' := [(11, .long (jL (X 75 0 ((5 * ((30 * sv) + r)) + k)))), (10, .int (jI (X 46 0 ((5 * (X 55 0 (bs + r))) + z7)))), (9, .int (jI z7)), (8, .int (jI ((5 * ((30 * sv) + r)) + k))), (0, .ref (ad 40 0)), (1, .int (jI sv)), (2, .int (jI r)), (3, .int (jI rule)), (4, .int (jI bs)), (5, .int (jI (bs + r))), (6, .int (jI (X 55 0 (bs + r)))), (7, .int (jI k))]) hx hb dX9_fieldsBack_141 hl (by decide) rfl (fun ls hl => ?_)
            refine lv_iload hx hb dX9_fieldsBack_143 (lv_at hl 1 rfl) ?_
            refine lv_iconst (v := jI 1) hx hb dX9_fieldsBack_145 rfl ?_
            refine x_icmp_ne (tgt := 194) hx hb (by omega) (by omega) dX9_fieldsBack_146 (by decide) (fun c22 => ?_) (fun c22 => ?_)
            · refine lv_aload_n hx hb dX9_fieldsBack_194 rfl (lv_at hl 4 rfl) ?_
              refine x_geto hx hb hf9 hw (by omega) (by omega) sl_40_15 lk48 dX9_fieldsBack_195 ?_
              refine lv_iconst (v := jI 5) hx hb dX9_fieldsBack_198 rfl ?_
              refine lv_iload hx hb dX9_fieldsBack_199 (lv_at hl 9 rfl) ?_
              refine x_imul hx hb dX9_fieldsBack_201 ?_
              refine lv_iload hx hb dX9_fieldsBack_202 (lv_at hl 2 rfl) ?_
              refine x_iadd hx hb dX9_fieldsBack_204 ?_
              refine lv_iload hx hb dX9_fieldsBack_205 (lv_at hl 1 rfl) ?_
              refine lv_iconst (v := jI 2) hx hb dX9_fieldsBack_207 rfl ?_
              refine x_icmp_lt (tgt := 218) hx hb (by omega) (by omega) dX9_fieldsBack_208 (by decide) (fun c23 => ?_) (fun c23 => ?_)
              · refine lv_lload hx hb dX9_fieldsBack_218 (lv_at hl 0 rfl) ?_
                refine lv_goto (tgt := 249) hx hb dX9_fieldsBack_220 (by decide) ?_
                refine x_last hx hb hK.1 hw hS (by omega) (by omega) ar_56 (len_E ar_56 (by decide)) (by omega) (by omega) (by omega) dX9_fieldsBack_249 (fun H locs hw hS => ?_)
                obtain ⟨X24, hX24⟩ : ∃ Xq, Xq = u3 Xa 56 0 ((5 * (bs + r)) + z7) (X 75 0 ((5 * ((30 * sv) + r)) + k)) := ⟨_, rfl⟩
                rw [← hX24] at hw
                have hRX24 : Rng X24 := by rw [hX24]; exact rng_set hRXa (show (-9223372036854775808) ≤ (X 75 0 ((5 * ((30 * sv) + r)) + k)) ∧ (X 75 0 ((5 * ((30 * sv) + r)) + k)) ≤ 9223372036854775807 by omega)
                have hVX24 : X24 56 0 ((5 * (bs + r)) + z7) = (X 75 0 ((5 * ((30 * sv) + r)) + k)) := by rw [hX24]; exact u3_s _ _ _ _ _
                have hFX24 : Frm [5600, 6000, 5700, 5800, 5900, 8500, 4042, 4043, 4044] X X24 := by rw [hX24]; exact Frm.set hFXa (show 5600 ∈ [5600, 6000, 5700, 5800, 5900, 8500, 4042, 4043, 4044] by decide)
                refine lv_iinc (v := jI (k + 1)) (lv' := [(7, .int (jI (k + 1))), (11, .long (jL (X 75 0 ((5 * ((30 * sv) + r)) + k)))), (10, .int (jI (X 46 0 ((5 * (X 55 0 (bs + r))) + z7)))), (9, .int (jI z7)), (8, .int (jI ((5 * ((30 * sv) + r)) + k))), (0, .ref (ad 40 0)), (1, .int (jI sv)), (2, .int (jI r)), (3, .int (jI rule)), (4, .int (jI bs)), (5, .int (jI (bs + r))), (6, .int (jI (X 55 0 (bs + r))))]) hx hb dX9_fieldsBack_250 hl (k := 11) rfl (jI_add _ _) (by decide) rfl (fun ls hl => ?_)
                refine lv_goto (tgt := 18) hx hb dX9_fieldsBack_253 (by decide) ?_
                have q25 : Frm [5600, 6000, 5700, 5800, 5900, 8500] X Xa := Frm.tr Frm.rf (Frm.mono hGXa (by decide))
                have q26 : Frm [5600, 6000, 5700, 5800, 5900, 8500] X X24 := by rw [hX24]; exact Frm.set q25 (show 5600 ∈ [5600, 6000, 5700, 5800, 5900, 8500] by decide)
                have e27 : Xa 40 0 13 = X 40 0 13 := by rw [hGXa 40 0 13 (show 4014 ∉ [5600, 6000, 5700, 5800, 5900, 8500] by decide)]
                have e28 : ∀ j : Int, Xa 44 0 j = X 44 0 j := fun j => by rw [hGXa 44 0 j (show 4400 ∉ [5600, 6000, 5700, 5800, 5900, 8500] by decide)]
                have e29 : ∀ j : Int, Xa 55 0 j = X 55 0 j := fun j => by rw [hGXa 55 0 j (show 5500 ∉ [5600, 6000, 5700, 5800, 5900, 8500] by decide)]
                have e30 : ∀ j : Int, Xa 46 0 j = X 46 0 j := fun j => by rw [hGXa 46 0 j (show 4600 ∉ [5600, 6000, 5700, 5800, 5900, 8500] by decide)]
                exact ih18 (k + 1) X24 _ _ _ (by omega) hRX24 q26 (by omega) (by rw [hX24]; exact minv_xval hMIXa hRXa (by omega) (by simp only [e27, e28, e29, e30]; omega) (by omega) (by simp only [e27, e28, e29, e30]; omega) (by unfold tyv; simp only [e27, e28, e29, e30]; exact ⟨fun _ => by omega, fun _ => by omega, fun _ => by omega⟩)) (fun j hj => (by rw [hX24, u3_j _ _ _ _ (by omega)]; exact hlo j hj)) hw hS (lv_sub hl [5, 6, 7, 8, 9, 10, 11, 0] rfl)
              · refine lv_lload hx hb dX9_fieldsBack_211 (lv_at hl 0 rfl) ?_
                refine lv_lconst (v := jL 0) hx hb dX9_fieldsBack_213 (by decide) ?_
                refine x_lcmp hx hb (by omega) (by omega) dX9_fieldsBack_214 ?_
                obtain ⟨z31, ez31⟩ : ∃ y : Int, y = cmpZ (X 75 0 ((5 * ((30 * sv) + r)) + k)) 0 := ⟨_, rfl⟩
                rw [← ez31]
                have gz31 : (z31 < 0 ↔ ((X 75 0 ((5 * ((30 * sv) + r)) + k)) : Int) < 0) ∧ (z31 = 0 ↔ ((X 75 0 ((5 * ((30 * sv) + r)) + k)) : Int) = 0) ∧ -1 ≤ z31 ∧ z31 ≤ 1 := by rw [ez31]; exact ⟨cmpZ_lt, cmpZ_eq, (cmpZ_r _ _).1, (cmpZ_r _ _).2⟩
                clear ez31
                refine x_if_ge (tgt := 223) hx hb (by omega) dX9_fieldsBack_215 (by decide) (fun c32 => ?_) (fun c32 => ?_)
                · refine lv_iload hx hb dX9_fieldsBack_223 (lv_at hl 1 rfl) ?_
                  refine lv_iconst (v := jI 2) hx hb dX9_fieldsBack_225 rfl ?_
                  refine x_icmp_ne (tgt := 238) hx hb (by omega) (by omega) dX9_fieldsBack_226 (by decide) (fun c33 => ?_) (fun c33 => ?_)
                  · refine lv_aload_n hx hb dX9_fieldsBack_238 rfl (lv_at hl 4 rfl) ?_
                    refine lv_iload_n hx hb dX9_fieldsBack_239 rfl (lv_at hl 5 rfl) ?_
                    refine lv_lload hx hb dX9_fieldsBack_240 (lv_at hl 0 rfl) ?_
                    refine x_l2i hx hb dX9_fieldsBack_242 ?_
                    refine lv_iload hx hb dX9_fieldsBack_243 (lv_at hl 1 rfl) ?_
                    refine gos_i (run_V (As := [.int (jI sv), .int (jI (X 75 0 ((5 * ((30 * sv) + r)) + k))), .int (jI (X 46 0 ((5 * (X 55 0 (bs + r))) + z7)))]) (rest := [.int (jI ((5 * (bs + r)) + z7)), .ref (ad 56 0)]) hx hb hml hown hts (c_X9_rowBack l D tc base ad cnt Xa Y ln hRXa hFx hMIXa sv (X 75 0 ((5 * ((30 * sv) + r)) + k)) (X 46 0 ((5 * (X 55 0 (bs + r))) + z7)) (by omega) (by omega) (by omega)) (cwV 3 hts gX9_fieldsBack_X9_rowBack rfl rfl rfl (by decide +kernel) ⟨Nat.le_of_ble_eq_true rfl, Nat.le_of_ble_eq_true rfl⟩) hK hw (by omega) (by omega) sl_40_0 rfl rfl hl.1 rfl (Nat.le_of_ble_eq_true rfl) dX9_fieldsBack_245 ⟨Nat.le_of_ble_eq_true rfl, Nat.le_of_ble_eq_true rfl⟩) hS (fun z34 u35 H locs p36 hw hS => ?_)
                    obtain ⟨X37, eu35, hRX37, hG38, hMIX37, p36⟩ := p36
                    subst eu35
                    have hFX37 : Frm [5600, 6000, 5700, 5800, 5900, 8500, 4042, 4043, 4044] X X37 := Frm.tr hFXa (Frm.mono hG38 (by decide))
                    refine x_i2l hx hb (by omega) dX9_fieldsBack_248 ?_
                    refine x_last hx hb hK.1 hw hS (by omega) (by omega) ar_56 (len_E ar_56 (by decide)) (by omega) (by omega) (by omega) dX9_fieldsBack_249 (fun H locs hw hS => ?_)
                    obtain ⟨X39, hX39⟩ : ∃ Xq, Xq = u3 X37 56 0 ((5 * (bs + r)) + z7) z34 := ⟨_, rfl⟩
                    rw [← hX39] at hw
                    have hRX39 : Rng X39 := by rw [hX39]; exact rng_set hRX37 (show (-9223372036854775808) ≤ z34 ∧ z34 ≤ 9223372036854775807 by omega)
                    have hVX39 : X39 56 0 ((5 * (bs + r)) + z7) = z34 := by rw [hX39]; exact u3_s _ _ _ _ _
                    have hFX39 : Frm [5600, 6000, 5700, 5800, 5900, 8500, 4042, 4043, 4044] X X39 := by rw [hX39]; exact Frm.set hFX37 (show 5600 ∈ [5600, 6000, 5700, 5800, 5900, 8500, 4042, 4043, 4044] by decide)
                    refine lv_iinc (v := jI (k + 1)) (lv' := [(7, .int (jI (k + 1))), (11, .long (jL (X 75 0 ((5 * ((30 * sv) + r)) + k)))), (10, .int (jI (X 46 0 ((5 * (X 55 0 (bs + r))) + z7)))), (9, .int (jI z7)), (8, .int (jI ((5 * ((30 * sv) + r)) + k))), (0, .ref (ad 40 0)), (1, .int (jI sv)), (2, .int (jI r)), (3, .int (jI rule)), (4, .int (jI bs)), (5, .int (jI (bs + r))), (6, .int (jI (X 55 0 (bs + r))))]) hx hb dX9_fieldsBack_250 hl (k := 11) rfl (jI_add _ _) (by decide) rfl (fun ls hl => ?_)
                    refine lv_goto (tgt := 18) hx hb dX9_fieldsBack_253 (by decide) ?_
                    have q40 : Frm [5600, 6000, 5700, 5800, 5900, 8500] X Xa := Frm.tr Frm.rf (Frm.mono hGXa (by decide))
                    have q41 : Frm [5600, 6000, 5700, 5800, 5900, 8500] X X37 := Frm.tr q40 (Frm.mono hG38 (by decide))
                    have q42 : Frm [5600, 6000, 5700, 5800, 5900, 8500] X X39 := by rw [hX39]; exact Frm.set q41 (show 5600 ∈ [5600, 6000, 5700, 5800, 5900, 8500] by decide)
                    have e43 : X37 40 0 13 = X 40 0 13 := by rw [hG38 40 0 13 (show 4014 ∉ [6000, 5700, 5800, 5900, 8500] by decide), hGXa 40 0 13 (show 4014 ∉ [5600, 6000, 5700, 5800, 5900, 8500] by decide)]
                    have e44 : ∀ j : Int, X37 44 0 j = X 44 0 j := fun j => by rw [hG38 44 0 j (show 4400 ∉ [6000, 5700, 5800, 5900, 8500] by decide), hGXa 44 0 j (show 4400 ∉ [5600, 6000, 5700, 5800, 5900, 8500] by decide)]
                    have e45 : ∀ j : Int, X37 55 0 j = X 55 0 j := fun j => by rw [hG38 55 0 j (show 5500 ∉ [6000, 5700, 5800, 5900, 8500] by decide), hGXa 55 0 j (show 5500 ∉ [5600, 6000, 5700, 5800, 5900, 8500] by decide)]
                    have e46 : ∀ j : Int, X37 46 0 j = X 46 0 j := fun j => by rw [hG38 46 0 j (show 4600 ∉ [6000, 5700, 5800, 5900, 8500] by decide), hGXa 46 0 j (show 4600 ∉ [5600, 6000, 5700, 5800, 5900, 8500] by decide)]
                    exact ih18 (k + 1) X39 _ _ _ (by omega) hRX39 q42 (by omega) (by rw [hX39]; exact minv_xval hMIX37 hRX37 (by omega) (by simp only [e43, e44, e45, e46]; omega) (by omega) (by simp only [e43, e44, e45, e46]; omega) (by unfold tyv; simp only [e43, e44, e45, e46]; exact ⟨fun _ => by omega, fun _ => by omega, fun _ => by omega⟩)) (fun j hj => (by rw [hX39, u3_j _ _ _ _ (by omega), hG38 56 0 j (show 5600 ∉ [6000, 5700, 5800, 5900, 8500] by decide)]; exact hlo j hj)) hw hS (lv_sub hl [5, 6, 7, 8, 9, 10, 11, 0] rfl)
                  · refine lv_iload hx hb dX9_fieldsBack_229 (lv_at hl 8 rfl) ?_
                    refine x_i2l hx hb (by omega) dX9_fieldsBack_231 ?_
                    refine lv_lload hx hb dX9_fieldsBack_232 (lv_at hl 0 rfl) ?_
                    refine x_ladd hx hb dX9_fieldsBack_234 ?_
                    refine lv_goto (tgt := 249) hx hb dX9_fieldsBack_235 (by decide) ?_
                    refine x_last hx hb hK.1 hw hS (by omega) (by omega) ar_56 (len_E ar_56 (by decide)) (by omega) (by omega) (by omega) dX9_fieldsBack_249 (fun H locs hw hS => ?_)
                    obtain ⟨X47, hX47⟩ : ∃ Xq, Xq = u3 Xa 56 0 ((5 * (bs + r)) + z7) (bs + (X 75 0 ((5 * ((30 * sv) + r)) + k))) := ⟨_, rfl⟩
                    rw [← hX47] at hw
                    have hRX47 : Rng X47 := by rw [hX47]; exact rng_set hRXa (show (-9223372036854775808) ≤ (bs + (X 75 0 ((5 * ((30 * sv) + r)) + k))) ∧ (bs + (X 75 0 ((5 * ((30 * sv) + r)) + k))) ≤ 9223372036854775807 by omega)
                    have hVX47 : X47 56 0 ((5 * (bs + r)) + z7) = (bs + (X 75 0 ((5 * ((30 * sv) + r)) + k))) := by rw [hX47]; exact u3_s _ _ _ _ _
                    have hFX47 : Frm [5600, 6000, 5700, 5800, 5900, 8500, 4042, 4043, 4044] X X47 := by rw [hX47]; exact Frm.set hFXa (show 5600 ∈ [5600, 6000, 5700, 5800, 5900, 8500, 4042, 4043, 4044] by decide)
                    refine lv_iinc (v := jI (k + 1)) (lv' := [(7, .int (jI (k + 1))), (11, .long (jL (X 75 0 ((5 * ((30 * sv) + r)) + k)))), (10, .int (jI (X 46 0 ((5 * (X 55 0 (bs + r))) + z7)))), (9, .int (jI z7)), (8, .int (jI ((5 * ((30 * sv) + r)) + k))), (0, .ref (ad 40 0)), (1, .int (jI sv)), (2, .int (jI r)), (3, .int (jI rule)), (4, .int (jI bs)), (5, .int (jI (bs + r))), (6, .int (jI (X 55 0 (bs + r))))]) hx hb dX9_fieldsBack_250 hl (k := 11) rfl (jI_add _ _) (by decide) rfl (fun ls hl => ?_)
                    refine lv_goto (tgt := 18) hx hb dX9_fieldsBack_253 (by decide) ?_
                    have q48 : Frm [5600, 6000, 5700, 5800, 5900, 8500] X Xa := Frm.tr Frm.rf (Frm.mono hGXa (by decide))
                    have q49 : Frm [5600, 6000, 5700, 5800, 5900, 8500] X X47 := by rw [hX47]; exact Frm.set q48 (show 5600 ∈ [5600, 6000, 5700, 5800, 5900, 8500] by decide)
                    have e50 : Xa 40 0 13 = X 40 0 13 := by rw [hGXa 40 0 13 (show 4014 ∉ [5600, 6000, 5700, 5800, 5900, 8500] by decide)]
                    have e51 : ∀ j : Int, Xa 44 0 j = X 44 0 j := fun j => by rw [hGXa 44 0 j (show 4400 ∉ [5600, 6000, 5700, 5800, 5900, 8500] by decide)]
                    have e52 : ∀ j : Int, Xa 55 0 j = X 55 0 j := fun j => by rw [hGXa 55 0 j (show 5500 ∉ [5600, 6000, 5700, 5800, 5900, 8500] by decide)]
                    have e53 : ∀ j : Int, Xa 46 0 j = X 46 0 j := fun j => by rw [hGXa 46 0 j (show 4600 ∉ [5600, 6000, 5700, 5800, 5900, 8500] by decide)]
                    exact ih18 (k + 1) X47 _ _ _ (by omega) hRX47 q49 (by omega) (by rw [hX47]; exact minv_xval hMIXa hRXa (by omega) (by simp only [e50, e51, e52, e53]; omega) (by omega) (by simp only [e50, e51, e52, e53]; omega) (by unfold tyv; simp only [e50, e51, e52, e53]; exact ⟨fun _ => by omega, fun _ => by omega, fun _ => by omega⟩)) (fun j hj => (by rw [hX47, u3_j _ _ _ _ (by omega)]; exact hlo j hj)) hw hS (lv_sub hl [5, 6, 7, 8, 9, 10, 11, 0] rfl)
                · refine lv_lload hx hb dX9_fieldsBack_218 (lv_at hl 0 rfl) ?_
                  refine lv_goto (tgt := 249) hx hb dX9_fieldsBack_220 (by decide) ?_
                  refine x_last hx hb hK.1 hw hS (by omega) (by omega) ar_56 (len_E ar_56 (by decide)) (by omega) (by omega) (by omega) dX9_fieldsBack_249 (fun H locs hw hS => ?_)
                  obtain ⟨X54, hX54⟩ : ∃ Xq, Xq = u3 Xa 56 0 ((5 * (bs + r)) + z7) (X 75 0 ((5 * ((30 * sv) + r)) + k)) := ⟨_, rfl⟩
                  rw [← hX54] at hw
                  have hRX54 : Rng X54 := by rw [hX54]; exact rng_set hRXa (show (-9223372036854775808) ≤ (X 75 0 ((5 * ((30 * sv) + r)) + k)) ∧ (X 75 0 ((5 * ((30 * sv) + r)) + k)) ≤ 9223372036854775807 by omega)
                  have hVX54 : X54 56 0 ((5 * (bs + r)) + z7) = (X 75 0 ((5 * ((30 * sv) + r)) + k)) := by rw [hX54]; exact u3_s _ _ _ _ _
                  have hFX54 : Frm [5600, 6000, 5700, 5800, 5900, 8500, 4042, 4043, 4044] X X54 := by rw [hX54]; exact Frm.set hFXa (show 5600 ∈ [5600, 6000, 5700, 5800, 5900, 8500, 4042, 4043, 4044] by decide)
                  refine lv_iinc (v := jI (k + 1)) (lv' := [(7, .int (jI (k + 1))), (11, .long (jL (X 75 0 ((5 * ((30 * sv) + r)) + k)))), (10, .int (jI (X 46 0 ((5 * (X 55 0 (bs + r))) + z7)))), (9, .int (jI z7)), (8, .int (jI ((5 * ((30 * sv) + r)) + k))), (0, .ref (ad 40 0)), (1, .int (jI sv)), (2, .int (jI r)), (3, .int (jI rule)), (4, .int (jI bs)), (5, .int (jI (bs + r))), (6, .int (jI (X 55 0 (bs + r))))]) hx hb dX9_fieldsBack_250 hl (k := 11) rfl (jI_add _ _) (by decide) rfl (fun ls hl => ?_)
                  refine lv_goto (tgt := 18) hx hb dX9_fieldsBack_253 (by decide) ?_
                  have q55 : Frm [5600, 6000, 5700, 5800, 5900, 8500] X Xa := Frm.tr Frm.rf (Frm.mono hGXa (by decide))
                  have q56 : Frm [5600, 6000, 5700, 5800, 5900, 8500] X X54 := by rw [hX54]; exact Frm.set q55 (show 5600 ∈ [5600, 6000, 5700, 5800, 5900, 8500] by decide)
                  have e57 : Xa 40 0 13 = X 40 0 13 := by rw [hGXa 40 0 13 (show 4014 ∉ [5600, 6000, 5700, 5800, 5900, 8500] by decide)]
                  have e58 : ∀ j : Int, Xa 44 0 j = X 44 0 j := fun j => by rw [hGXa 44 0 j (show 4400 ∉ [5600, 6000, 5700, 5800, 5900, 8500] by decide)]
                  have e59 : ∀ j : Int, Xa 55 0 j = X 55 0 j := fun j => by rw [hGXa 55 0 j (show 5500 ∉ [5600, 6000, 5700, 5800, 5900, 8500] by decide)]
                  have e60 : ∀ j : Int, Xa 46 0 j = X 46 0 j := fun j => by rw [hGXa 46 0 j (show 4600 ∉ [5600, 6000, 5700, 5800, 5900, 8500] by decide)]
                  exact ih18 (k + 1) X54 _ _ _ (by omega) hRX54 q56 (by omega) (by rw [hX54]; exact minv_xval hMIXa hRXa (by omega) (by simp only [e57, e58, e59, e60]; omega) (by omega) (by simp only [e57, e58, e59, e60]; omega) (by unfold tyv; simp only [e57, e58, e59, e60]; exact ⟨fun _ => by omega, fun _ => by omega, fun _ => by omega⟩)) (fun j hj => (by rw [hX54, u3_j _ _ _ _ (by omega)]; exact hlo j hj)) hw hS (lv_sub hl [5, 6, 7, 8, 9, 10, 11, 0] rfl)
            · refine lv_lload hx hb dX9_fieldsBack_149 (lv_at hl 0 rfl) ?_
              refine lv_lconst (v := jL 0) hx hb dX9_fieldsBack_151 (by decide) ?_
              refine x_lcmp hx hb (by omega) (by omega) dX9_fieldsBack_152 ?_
              obtain ⟨z61, ez61⟩ : ∃ y : Int, y = cmpZ (X 75 0 ((5 * ((30 * sv) + r)) + k)) 0 := ⟨_, rfl⟩
              rw [← ez61]
              have gz61 : (z61 < 0 ↔ ((X 75 0 ((5 * ((30 * sv) + r)) + k)) : Int) < 0) ∧ (z61 = 0 ↔ ((X 75 0 ((5 * ((30 * sv) + r)) + k)) : Int) = 0) ∧ -1 ≤ z61 ∧ z61 ≤ 1 := by rw [ez61]; exact ⟨cmpZ_lt, cmpZ_eq, (cmpZ_r _ _).1, (cmpZ_r _ _).2⟩
              clear ez61
              refine x_if_lt (tgt := 194) hx hb (by omega) dX9_fieldsBack_153 (by decide) (fun c62 => ?_) (fun c62 => ?_)
              · refine lv_aload_n hx hb dX9_fieldsBack_194 rfl (lv_at hl 4 rfl) ?_
                refine x_geto hx hb hf9 hw (by omega) (by omega) sl_40_15 lk48 dX9_fieldsBack_195 ?_
                refine lv_iconst (v := jI 5) hx hb dX9_fieldsBack_198 rfl ?_
                refine lv_iload hx hb dX9_fieldsBack_199 (lv_at hl 9 rfl) ?_
                refine x_imul hx hb dX9_fieldsBack_201 ?_
                refine lv_iload hx hb dX9_fieldsBack_202 (lv_at hl 2 rfl) ?_
                refine x_iadd hx hb dX9_fieldsBack_204 ?_
                refine lv_iload hx hb dX9_fieldsBack_205 (lv_at hl 1 rfl) ?_
                refine lv_iconst (v := jI 2) hx hb dX9_fieldsBack_207 rfl ?_
                refine x_icmp_lt (tgt := 218) hx hb (by omega) (by omega) dX9_fieldsBack_208 (by decide) (fun c63 => ?_) (fun c63 => ?_)
                · refine lv_lload hx hb dX9_fieldsBack_218 (lv_at hl 0 rfl) ?_
                  refine lv_goto (tgt := 249) hx hb dX9_fieldsBack_220 (by decide) ?_
                  refine x_last hx hb hK.1 hw hS (by omega) (by omega) ar_56 (len_E ar_56 (by decide)) (by omega) (by omega) (by omega) dX9_fieldsBack_249 (fun H locs hw hS => ?_)
                  obtain ⟨X64, hX64⟩ : ∃ Xq, Xq = u3 Xa 56 0 ((5 * (bs + r)) + z7) (X 75 0 ((5 * ((30 * sv) + r)) + k)) := ⟨_, rfl⟩
                  rw [← hX64] at hw
                  have hRX64 : Rng X64 := by rw [hX64]; exact rng_set hRXa (show (-9223372036854775808) ≤ (X 75 0 ((5 * ((30 * sv) + r)) + k)) ∧ (X 75 0 ((5 * ((30 * sv) + r)) + k)) ≤ 9223372036854775807 by omega)
                  have hVX64 : X64 56 0 ((5 * (bs + r)) + z7) = (X 75 0 ((5 * ((30 * sv) + r)) + k)) := by rw [hX64]; exact u3_s _ _ _ _ _
                  have hFX64 : Frm [5600, 6000, 5700, 5800, 5900, 8500, 4042, 4043, 4044] X X64 := by rw [hX64]; exact Frm.set hFXa (show 5600 ∈ [5600, 6000, 5700, 5800, 5900, 8500, 4042, 4043, 4044] by decide)
                  refine lv_iinc (v := jI (k + 1)) (lv' := [(7, .int (jI (k + 1))), (11, .long (jL (X 75 0 ((5 * ((30 * sv) + r)) + k)))), (10, .int (jI (X 46 0 ((5 * (X 55 0 (bs + r))) + z7)))), (9, .int (jI z7)), (8, .int (jI ((5 * ((30 * sv) + r)) + k))), (0, .ref (ad 40 0)), (1, .int (jI sv)), (2, .int (jI r)), (3, .int (jI rule)), (4, .int (jI bs)), (5, .int (jI (bs + r))), (6, .int (jI (X 55 0 (bs + r))))]) hx hb dX9_fieldsBack_250 hl (k := 11) rfl (jI_add _ _) (by decide) rfl (fun ls hl => ?_)
                  refine lv_goto (tgt := 18) hx hb dX9_fieldsBack_253 (by decide) ?_
                  have q65 : Frm [5600, 6000, 5700, 5800, 5900, 8500] X Xa := Frm.tr Frm.rf (Frm.mono hGXa (by decide))
                  have q66 : Frm [5600, 6000, 5700, 5800, 5900, 8500] X X64 := by rw [hX64]; exact Frm.set q65 (show 5600 ∈ [5600, 6000, 5700, 5800, 5900, 8500] by decide)
                  have e67 : Xa 40 0 13 = X 40 0 13 := by rw [hGXa 40 0 13 (show 4014 ∉ [5600, 6000, 5700, 5800, 5900, 8500] by decide)]
                  have e68 : ∀ j : Int, Xa 44 0 j = X 44 0 j := fun j => by rw [hGXa 44 0 j (show 4400 ∉ [5600, 6000, 5700, 5800, 5900, 8500] by decide)]
                  have e69 : ∀ j : Int, Xa 55 0 j = X 55 0 j := fun j => by rw [hGXa 55 0 j (show 5500 ∉ [5600, 6000, 5700, 5800, 5900, 8500] by decide)]
                  have e70 : ∀ j : Int, Xa 46 0 j = X 46 0 j := fun j => by rw [hGXa 46 0 j (show 4600 ∉ [5600, 6000, 5700, 5800, 5900, 8500] by decide)]
                  exact ih18 (k + 1) X64 _ _ _ (by omega) hRX64 q66 (by omega) (by rw [hX64]; exact minv_xval hMIXa hRXa (by omega) (by simp only [e67, e68, e69, e70]; omega) (by omega) (by simp only [e67, e68, e69, e70]; omega) (by unfold tyv; simp only [e67, e68, e69, e70]; exact ⟨fun _ => by omega, fun _ => by omega, fun _ => by omega⟩)) (fun j hj => (by rw [hX64, u3_j _ _ _ _ (by omega)]; exact hlo j hj)) hw hS (lv_sub hl [5, 6, 7, 8, 9, 10, 11, 0] rfl)
                · refine lv_lload hx hb dX9_fieldsBack_211 (lv_at hl 0 rfl) ?_
                  refine lv_lconst (v := jL 0) hx hb dX9_fieldsBack_213 (by decide) ?_
                  refine x_lcmp hx hb (by omega) (by omega) dX9_fieldsBack_214 ?_
                  obtain ⟨z71, ez71⟩ : ∃ y : Int, y = cmpZ (X 75 0 ((5 * ((30 * sv) + r)) + k)) 0 := ⟨_, rfl⟩
                  rw [← ez71]
                  have gz71 : (z71 < 0 ↔ ((X 75 0 ((5 * ((30 * sv) + r)) + k)) : Int) < 0) ∧ (z71 = 0 ↔ ((X 75 0 ((5 * ((30 * sv) + r)) + k)) : Int) = 0) ∧ -1 ≤ z71 ∧ z71 ≤ 1 := by rw [ez71]; exact ⟨cmpZ_lt, cmpZ_eq, (cmpZ_r _ _).1, (cmpZ_r _ _).2⟩
                  clear ez71
                  refine x_if_ge (tgt := 223) hx hb (by omega) dX9_fieldsBack_215 (by decide) (fun c72 => ?_) (fun c72 => ?_)
                  · refine lv_iload hx hb dX9_fieldsBack_223 (lv_at hl 1 rfl) ?_
                    refine lv_iconst (v := jI 2) hx hb dX9_fieldsBack_225 rfl ?_
                    refine x_icmp_ne (tgt := 238) hx hb (by omega) (by omega) dX9_fieldsBack_226 (by decide) (fun c73 => ?_) (fun c73 => ?_)
                    · refine lv_aload_n hx hb dX9_fieldsBack_238 rfl (lv_at hl 4 rfl) ?_
                      refine lv_iload_n hx hb dX9_fieldsBack_239 rfl (lv_at hl 5 rfl) ?_
                      refine lv_lload hx hb dX9_fieldsBack_240 (lv_at hl 0 rfl) ?_
                      refine x_l2i hx hb dX9_fieldsBack_242 ?_
                      refine lv_iload hx hb dX9_fieldsBack_243 (lv_at hl 1 rfl) ?_
                      refine gos_i (run_V (As := [.int (jI sv), .int (jI (X 75 0 ((5 * ((30 * sv) + r)) + k))), .int (jI (X 46 0 ((5 * (X 55 0 (bs + r))) + z7)))]) (rest := [.int (jI ((5 * (bs + r)) + z7)), .ref (ad 56 0)]) hx hb hml hown hts (c_X9_rowBack l D tc base ad cnt Xa Y ln hRXa hFx hMIXa sv (X 75 0 ((5 * ((30 * sv) + r)) + k)) (X 46 0 ((5 * (X 55 0 (bs + r))) + z7)) (by omega) (by omega) (by omega)) (cwV 3 hts gX9_fieldsBack_X9_rowBack rfl rfl rfl (by decide +kernel) ⟨Nat.le_of_ble_eq_true rfl, Nat.le_of_ble_eq_true rfl⟩) hK hw (by omega) (by omega) sl_40_0 rfl rfl hl.1 rfl (Nat.le_of_ble_eq_true rfl) dX9_fieldsBack_245 ⟨Nat.le_of_ble_eq_true rfl, Nat.le_of_ble_eq_true rfl⟩) hS (fun z74 u75 H locs p76 hw hS => ?_)
                      obtain ⟨X77, eu75, hRX77, hG78, hMIX77, p76⟩ := p76
                      subst eu75
                      have hFX77 : Frm [5600, 6000, 5700, 5800, 5900, 8500, 4042, 4043, 4044] X X77 := Frm.tr hFXa (Frm.mono hG78 (by decide))
                      refine x_i2l hx hb (by omega) dX9_fieldsBack_248 ?_
                      refine x_last hx hb hK.1 hw hS (by omega) (by omega) ar_56 (len_E ar_56 (by decide)) (by omega) (by omega) (by omega) dX9_fieldsBack_249 (fun H locs hw hS => ?_)
                      obtain ⟨X79, hX79⟩ : ∃ Xq, Xq = u3 X77 56 0 ((5 * (bs + r)) + z7) z74 := ⟨_, rfl⟩
                      rw [← hX79] at hw
                      have hRX79 : Rng X79 := by rw [hX79]; exact rng_set hRX77 (show (-9223372036854775808) ≤ z74 ∧ z74 ≤ 9223372036854775807 by omega)
                      have hVX79 : X79 56 0 ((5 * (bs + r)) + z7) = z74 := by rw [hX79]; exact u3_s _ _ _ _ _
                      have hFX79 : Frm [5600, 6000, 5700, 5800, 5900, 8500, 4042, 4043, 4044] X X79 := by rw [hX79]; exact Frm.set hFX77 (show 5600 ∈ [5600, 6000, 5700, 5800, 5900, 8500, 4042, 4043, 4044] by decide)
                      refine lv_iinc (v := jI (k + 1)) (lv' := [(7, .int (jI (k + 1))), (11, .long (jL (X 75 0 ((5 * ((30 * sv) + r)) + k)))), (10, .int (jI (X 46 0 ((5 * (X 55 0 (bs + r))) + z7)))), (9, .int (jI z7)), (8, .int (jI ((5 * ((30 * sv) + r)) + k))), (0, .ref (ad 40 0)), (1, .int (jI sv)), (2, .int (jI r)), (3, .int (jI rule)), (4, .int (jI bs)), (5, .int (jI (bs + r))), (6, .int (jI (X 55 0 (bs + r))))]) hx hb dX9_fieldsBack_250 hl (k := 11) rfl (jI_add _ _) (by decide) rfl (fun ls hl => ?_)
                      refine lv_goto (tgt := 18) hx hb dX9_fieldsBack_253 (by decide) ?_
                      have q80 : Frm [5600, 6000, 5700, 5800, 5900, 8500] X Xa := Frm.tr Frm.rf (Frm.mono hGXa (by decide))
                      have q81 : Frm [5600, 6000, 5700, 5800, 5900, 8500] X X77 := Frm.tr q80 (Frm.mono hG78 (by decide))
                      have q82 : Frm [5600, 6000, 5700, 5800, 5900, 8500] X X79 := by rw [hX79]; exact Frm.set q81 (show 5600 ∈ [5600, 6000, 5700, 5800, 5900, 8500] by decide)
                      have e83 : X77 40 0 13 = X 40 0 13 := by rw [hG78 40 0 13 (show 4014 ∉ [6000, 5700, 5800, 5900, 8500] by decide), hGXa 40 0 13 (show 4014 ∉ [5600, 6000, 5700, 5800, 5900, 8500] by decide)]
                      have e84 : ∀ j : Int, X77 44 0 j = X 44 0 j := fun j => by rw [hG78 44 0 j (show 4400 ∉ [6000, 5700, 5800, 5900, 8500] by decide), hGXa 44 0 j (show 4400 ∉ [5600, 6000, 5700, 5800, 5900, 8500] by decide)]
                      have e85 : ∀ j : Int, X77 55 0 j = X 55 0 j := fun j => by rw [hG78 55 0 j (show 5500 ∉ [6000, 5700, 5800, 5900, 8500] by decide), hGXa 55 0 j (show 5500 ∉ [5600, 6000, 5700, 5800, 5900, 8500] by decide)]
                      have e86 : ∀ j : Int, X77 46 0 j = X 46 0 j := fun j => by rw [hG78 46 0 j (show 4600 ∉ [6000, 5700, 5800, 5900, 8500] by decide), hGXa 46 0 j (show 4600 ∉ [5600, 6000, 5700, 5800, 5900, 8500] by decide)]
                      exact ih18 (k + 1) X79 _ _ _ (by omega) hRX79 q82 (by omega) (by rw [hX79]; exact minv_xval hMIX77 hRX77 (by omega) (by simp only [e83, e84, e85, e86]; omega) (by omega) (by simp only [e83, e84, e85, e86]; omega) (by unfold tyv; simp only [e83, e84, e85, e86]; exact ⟨fun _ => by omega, fun _ => by omega, fun _ => by omega⟩)) (fun j hj => (by rw [hX79, u3_j _ _ _ _ (by omega), hG78 56 0 j (show 5600 ∉ [6000, 5700, 5800, 5900, 8500] by decide)]; exact hlo j hj)) hw hS (lv_sub hl [5, 6, 7, 8, 9, 10, 11, 0] rfl)
                    · refine lv_iload hx hb dX9_fieldsBack_229 (lv_at hl 8 rfl) ?_
                      refine x_i2l hx hb (by omega) dX9_fieldsBack_231 ?_
                      refine lv_lload hx hb dX9_fieldsBack_232 (lv_at hl 0 rfl) ?_
                      refine x_ladd hx hb dX9_fieldsBack_234 ?_
                      refine lv_goto (tgt := 249) hx hb dX9_fieldsBack_235 (by decide) ?_
                      refine x_last hx hb hK.1 hw hS (by omega) (by omega) ar_56 (len_E ar_56 (by decide)) (by omega) (by omega) (by omega) dX9_fieldsBack_249 (fun H locs hw hS => ?_)
                      obtain ⟨X87, hX87⟩ : ∃ Xq, Xq = u3 Xa 56 0 ((5 * (bs + r)) + z7) (bs + (X 75 0 ((5 * ((30 * sv) + r)) + k))) := ⟨_, rfl⟩
                      rw [← hX87] at hw
                      have hRX87 : Rng X87 := by rw [hX87]; exact rng_set hRXa (show (-9223372036854775808) ≤ (bs + (X 75 0 ((5 * ((30 * sv) + r)) + k))) ∧ (bs + (X 75 0 ((5 * ((30 * sv) + r)) + k))) ≤ 9223372036854775807 by omega)
                      have hVX87 : X87 56 0 ((5 * (bs + r)) + z7) = (bs + (X 75 0 ((5 * ((30 * sv) + r)) + k))) := by rw [hX87]; exact u3_s _ _ _ _ _
                      have hFX87 : Frm [5600, 6000, 5700, 5800, 5900, 8500, 4042, 4043, 4044] X X87 := by rw [hX87]; exact Frm.set hFXa (show 5600 ∈ [5600, 6000, 5700, 5800, 5900, 8500, 4042, 4043, 4044] by decide)
                      refine lv_iinc (v := jI (k + 1)) (lv' := [(7, .int (jI (k + 1))), (11, .long (jL (X 75 0 ((5 * ((30 * sv) + r)) + k)))), (10, .int (jI (X 46 0 ((5 * (X 55 0 (bs + r))) + z7)))), (9, .int (jI z7)), (8, .int (jI ((5 * ((30 * sv) + r)) + k))), (0, .ref (ad 40 0)), (1, .int (jI sv)), (2, .int (jI r)), (3, .int (jI rule)), (4, .int (jI bs)), (5, .int (jI (bs + r))), (6, .int (jI (X 55 0 (bs + r))))]) hx hb dX9_fieldsBack_250 hl (k := 11) rfl (jI_add _ _) (by decide) rfl (fun ls hl => ?_)
                      refine lv_goto (tgt := 18) hx hb dX9_fieldsBack_253 (by decide) ?_
                      have q88 : Frm [5600, 6000, 5700, 5800, 5900, 8500] X Xa := Frm.tr Frm.rf (Frm.mono hGXa (by decide))
                      have q89 : Frm [5600, 6000, 5700, 5800, 5900, 8500] X X87 := by rw [hX87]; exact Frm.set q88 (show 5600 ∈ [5600, 6000, 5700, 5800, 5900, 8500] by decide)
                      have e90 : Xa 40 0 13 = X 40 0 13 := by rw [hGXa 40 0 13 (show 4014 ∉ [5600, 6000, 5700, 5800, 5900, 8500] by decide)]
                      have e91 : ∀ j : Int, Xa 44 0 j = X 44 0 j := fun j => by rw [hGXa 44 0 j (show 4400 ∉ [5600, 6000, 5700, 5800, 5900, 8500] by decide)]
                      have e92 : ∀ j : Int, Xa 55 0 j = X 55 0 j := fun j => by rw [hGXa 55 0 j (show 5500 ∉ [5600, 6000, 5700, 5800, 5900, 8500] by decide)]
                      have e93 : ∀ j : Int, Xa 46 0 j = X 46 0 j := fun j => by rw [hGXa 46 0 j (show 4600 ∉ [5600, 6000, 5700, 5800, 5900, 8500] by decide)]
                      exact ih18 (k + 1) X87 _ _ _ (by omega) hRX87 q89 (by omega) (by rw [hX87]; exact minv_xval hMIXa hRXa (by omega) (by simp only [e90, e91, e92, e93]; omega) (by omega) (by simp only [e90, e91, e92, e93]; omega) (by unfold tyv; simp only [e90, e91, e92, e93]; exact ⟨fun _ => by omega, fun _ => by omega, fun _ => by omega⟩)) (fun j hj => (by rw [hX87, u3_j _ _ _ _ (by omega)]; exact hlo j hj)) hw hS (lv_sub hl [5, 6, 7, 8, 9, 10, 11, 0] rfl)
                  · refine lv_lload hx hb dX9_fieldsBack_218 (lv_at hl 0 rfl) ?_
                    refine lv_goto (tgt := 249) hx hb dX9_fieldsBack_220 (by decide) ?_
                    refine x_last hx hb hK.1 hw hS (by omega) (by omega) ar_56 (len_E ar_56 (by decide)) (by omega) (by omega) (by omega) dX9_fieldsBack_249 (fun H locs hw hS => ?_)
                    obtain ⟨X94, hX94⟩ : ∃ Xq, Xq = u3 Xa 56 0 ((5 * (bs + r)) + z7) (X 75 0 ((5 * ((30 * sv) + r)) + k)) := ⟨_, rfl⟩
                    rw [← hX94] at hw
                    have hRX94 : Rng X94 := by rw [hX94]; exact rng_set hRXa (show (-9223372036854775808) ≤ (X 75 0 ((5 * ((30 * sv) + r)) + k)) ∧ (X 75 0 ((5 * ((30 * sv) + r)) + k)) ≤ 9223372036854775807 by omega)
                    have hVX94 : X94 56 0 ((5 * (bs + r)) + z7) = (X 75 0 ((5 * ((30 * sv) + r)) + k)) := by rw [hX94]; exact u3_s _ _ _ _ _
                    have hFX94 : Frm [5600, 6000, 5700, 5800, 5900, 8500, 4042, 4043, 4044] X X94 := by rw [hX94]; exact Frm.set hFXa (show 5600 ∈ [5600, 6000, 5700, 5800, 5900, 8500, 4042, 4043, 4044] by decide)
                    refine lv_iinc (v := jI (k + 1)) (lv' := [(7, .int (jI (k + 1))), (11, .long (jL (X 75 0 ((5 * ((30 * sv) + r)) + k)))), (10, .int (jI (X 46 0 ((5 * (X 55 0 (bs + r))) + z7)))), (9, .int (jI z7)), (8, .int (jI ((5 * ((30 * sv) + r)) + k))), (0, .ref (ad 40 0)), (1, .int (jI sv)), (2, .int (jI r)), (3, .int (jI rule)), (4, .int (jI bs)), (5, .int (jI (bs + r))), (6, .int (jI (X 55 0 (bs + r))))]) hx hb dX9_fieldsBack_250 hl (k := 11) rfl (jI_add _ _) (by decide) rfl (fun ls hl => ?_)
                    refine lv_goto (tgt := 18) hx hb dX9_fieldsBack_253 (by decide) ?_
                    have q95 : Frm [5600, 6000, 5700, 5800, 5900, 8500] X Xa := Frm.tr Frm.rf (Frm.mono hGXa (by decide))
                    have q96 : Frm [5600, 6000, 5700, 5800, 5900, 8500] X X94 := by rw [hX94]; exact Frm.set q95 (show 5600 ∈ [5600, 6000, 5700, 5800, 5900, 8500] by decide)
                    have e97 : Xa 40 0 13 = X 40 0 13 := by rw [hGXa 40 0 13 (show 4014 ∉ [5600, 6000, 5700, 5800, 5900, 8500] by decide)]
                    have e98 : ∀ j : Int, Xa 44 0 j = X 44 0 j := fun j => by rw [hGXa 44 0 j (show 4400 ∉ [5600, 6000, 5700, 5800, 5900, 8500] by decide)]
                    have e99 : ∀ j : Int, Xa 55 0 j = X 55 0 j := fun j => by rw [hGXa 55 0 j (show 5500 ∉ [5600, 6000, 5700, 5800, 5900, 8500] by decide)]
                    have e100 : ∀ j : Int, Xa 46 0 j = X 46 0 j := fun j => by rw [hGXa 46 0 j (show 4600 ∉ [5600, 6000, 5700, 5800, 5900, 8500] by decide)]
                    exact ih18 (k + 1) X94 _ _ _ (by omega) hRX94 q96 (by omega) (by rw [hX94]; exact minv_xval hMIXa hRXa (by omega) (by simp only [e97, e98, e99, e100]; omega) (by omega) (by simp only [e97, e98, e99, e100]; omega) (by unfold tyv; simp only [e97, e98, e99, e100]; exact ⟨fun _ => by omega, fun _ => by omega, fun _ => by omega⟩)) (fun j hj => (by rw [hX94, u3_j _ _ _ _ (by omega)]; exact hlo j hj)) hw hS (lv_sub hl [5, 6, 7, 8, 9, 10, 11, 0] rfl)
              · refine lv_aload_n hx hb dX9_fieldsBack_156 rfl (lv_at hl 4 rfl) ?_
                refine x_geto hx hb hf9 hw (by omega) (by omega) sl_40_1 lk7 dX9_fieldsBack_157 ?_
                refine lv_lload hx hb dX9_fieldsBack_160 (lv_at hl 0 rfl) ?_
                refine x_l2i hx hb dX9_fieldsBack_162 ?_
                refine x_zald hx hb hK.1 hw (by omega) (by omega) ar_42 (len_E ar_42 (by decide)) (by omega) (by omega) (by omega) dX9_fieldsBack_163 ?_
                have e101 : ∀ p9 q9 : Int, Xa 42 p9 q9 = X 42 p9 q9 := fun p9 q9 => by rw [hGXa 42 p9 q9 (show 4200 ∉ [5600, 6000, 5700, 5800, 5900, 8500] by decide)]
                rw [e101 0 (X 75 0 ((5 * ((30 * sv) + r)) + k))]
                have f102 : 0 ≤ X 42 0 (X 75 0 ((5 * ((30 * sv) + r)) + k)) ∧ X 42 0 (X 75 0 ((5 * ((30 * sv) + r)) + k)) ≤ 1 := hR 42 0 (X 75 0 ((5 * ((30 * sv) + r)) + k))
                refine x_if_eq (tgt := 194) hx hb (by omega) dX9_fieldsBack_164 (by decide) (fun c103 => ?_) (fun c103 => ?_)
                · refine lv_aload_n hx hb dX9_fieldsBack_194 rfl (lv_at hl 4 rfl) ?_
                  refine x_geto hx hb hf9 hw (by omega) (by omega) sl_40_15 lk48 dX9_fieldsBack_195 ?_
                  refine lv_iconst (v := jI 5) hx hb dX9_fieldsBack_198 rfl ?_
                  refine lv_iload hx hb dX9_fieldsBack_199 (lv_at hl 9 rfl) ?_
                  refine x_imul hx hb dX9_fieldsBack_201 ?_
                  refine lv_iload hx hb dX9_fieldsBack_202 (lv_at hl 2 rfl) ?_
                  refine x_iadd hx hb dX9_fieldsBack_204 ?_
                  refine lv_iload hx hb dX9_fieldsBack_205 (lv_at hl 1 rfl) ?_
                  refine lv_iconst (v := jI 2) hx hb dX9_fieldsBack_207 rfl ?_
                  refine x_icmp_lt (tgt := 218) hx hb (by omega) (by omega) dX9_fieldsBack_208 (by decide) (fun c104 => ?_) (fun c104 => ?_)
                  · refine lv_lload hx hb dX9_fieldsBack_218 (lv_at hl 0 rfl) ?_
                    refine lv_goto (tgt := 249) hx hb dX9_fieldsBack_220 (by decide) ?_
                    refine x_last hx hb hK.1 hw hS (by omega) (by omega) ar_56 (len_E ar_56 (by decide)) (by omega) (by omega) (by omega) dX9_fieldsBack_249 (fun H locs hw hS => ?_)
                    obtain ⟨X105, hX105⟩ : ∃ Xq, Xq = u3 Xa 56 0 ((5 * (bs + r)) + z7) (X 75 0 ((5 * ((30 * sv) + r)) + k)) := ⟨_, rfl⟩
                    rw [← hX105] at hw
                    have hRX105 : Rng X105 := by rw [hX105]; exact rng_set hRXa (show (-9223372036854775808) ≤ (X 75 0 ((5 * ((30 * sv) + r)) + k)) ∧ (X 75 0 ((5 * ((30 * sv) + r)) + k)) ≤ 9223372036854775807 by omega)
                    have hVX105 : X105 56 0 ((5 * (bs + r)) + z7) = (X 75 0 ((5 * ((30 * sv) + r)) + k)) := by rw [hX105]; exact u3_s _ _ _ _ _
                    have hFX105 : Frm [5600, 6000, 5700, 5800, 5900, 8500, 4042, 4043, 4044] X X105 := by rw [hX105]; exact Frm.set hFXa (show 5600 ∈ [5600, 6000, 5700, 5800, 5900, 8500, 4042, 4043, 4044] by decide)
                    refine lv_iinc (v := jI (k + 1)) (lv' := [(7, .int (jI (k + 1))), (11, .long (jL (X 75 0 ((5 * ((30 * sv) + r)) + k)))), (10, .int (jI (X 46 0 ((5 * (X 55 0 (bs + r))) + z7)))), (9, .int (jI z7)), (8, .int (jI ((5 * ((30 * sv) + r)) + k))), (0, .ref (ad 40 0)), (1, .int (jI sv)), (2, .int (jI r)), (3, .int (jI rule)), (4, .int (jI bs)), (5, .int (jI (bs + r))), (6, .int (jI (X 55 0 (bs + r))))]) hx hb dX9_fieldsBack_250 hl (k := 11) rfl (jI_add _ _) (by decide) rfl (fun ls hl => ?_)
                    refine lv_goto (tgt := 18) hx hb dX9_fieldsBack_253 (by decide) ?_
                    have q106 : Frm [5600, 6000, 5700, 5800, 5900, 8500] X Xa := Frm.tr Frm.rf (Frm.mono hGXa (by decide))
                    have q107 : Frm [5600, 6000, 5700, 5800, 5900, 8500] X X105 := by rw [hX105]; exact Frm.set q106 (show 5600 ∈ [5600, 6000, 5700, 5800, 5900, 8500] by decide)
                    have e108 : Xa 40 0 13 = X 40 0 13 := by rw [hGXa 40 0 13 (show 4014 ∉ [5600, 6000, 5700, 5800, 5900, 8500] by decide)]
                    have e109 : ∀ j : Int, Xa 44 0 j = X 44 0 j := fun j => by rw [hGXa 44 0 j (show 4400 ∉ [5600, 6000, 5700, 5800, 5900, 8500] by decide)]
                    have e110 : ∀ j : Int, Xa 55 0 j = X 55 0 j := fun j => by rw [hGXa 55 0 j (show 5500 ∉ [5600, 6000, 5700, 5800, 5900, 8500] by decide)]
                    have e111 : ∀ j : Int, Xa 46 0 j = X 46 0 j := fun j => by rw [hGXa 46 0 j (show 4600 ∉ [5600, 6000, 5700, 5800, 5900, 8500] by decide)]
                    exact ih18 (k + 1) X105 _ _ _ (by omega) hRX105 q107 (by omega) (by rw [hX105]; exact minv_xval hMIXa hRXa (by omega) (by simp only [e108, e109, e110, e111]; omega) (by omega) (by simp only [e108, e109, e110, e111]; omega) (by unfold tyv; simp only [e108, e109, e110, e111]; exact ⟨fun _ => by omega, fun _ => by omega, fun _ => by omega⟩)) (fun j hj => (by rw [hX105, u3_j _ _ _ _ (by omega)]; exact hlo j hj)) hw hS (lv_sub hl [5, 6, 7, 8, 9, 10, 11, 0] rfl)
                  · refine lv_lload hx hb dX9_fieldsBack_211 (lv_at hl 0 rfl) ?_
                    refine lv_lconst (v := jL 0) hx hb dX9_fieldsBack_213 (by decide) ?_
                    refine x_lcmp hx hb (by omega) (by omega) dX9_fieldsBack_214 ?_
                    obtain ⟨z112, ez112⟩ : ∃ y : Int, y = cmpZ (X 75 0 ((5 * ((30 * sv) + r)) + k)) 0 := ⟨_, rfl⟩
                    rw [← ez112]
                    have gz112 : (z112 < 0 ↔ ((X 75 0 ((5 * ((30 * sv) + r)) + k)) : Int) < 0) ∧ (z112 = 0 ↔ ((X 75 0 ((5 * ((30 * sv) + r)) + k)) : Int) = 0) ∧ -1 ≤ z112 ∧ z112 ≤ 1 := by rw [ez112]; exact ⟨cmpZ_lt, cmpZ_eq, (cmpZ_r _ _).1, (cmpZ_r _ _).2⟩
                    clear ez112
                    refine x_if_ge (tgt := 223) hx hb (by omega) dX9_fieldsBack_215 (by decide) (fun c113 => ?_) (fun c113 => ?_)
                    · refine lv_iload hx hb dX9_fieldsBack_223 (lv_at hl 1 rfl) ?_
                      refine lv_iconst (v := jI 2) hx hb dX9_fieldsBack_225 rfl ?_
                      refine x_icmp_ne (tgt := 238) hx hb (by omega) (by omega) dX9_fieldsBack_226 (by decide) (fun c114 => ?_) (fun c114 => ?_)
                      · refine lv_aload_n hx hb dX9_fieldsBack_238 rfl (lv_at hl 4 rfl) ?_
                        refine lv_iload_n hx hb dX9_fieldsBack_239 rfl (lv_at hl 5 rfl) ?_
                        refine lv_lload hx hb dX9_fieldsBack_240 (lv_at hl 0 rfl) ?_
                        refine x_l2i hx hb dX9_fieldsBack_242 ?_
                        refine lv_iload hx hb dX9_fieldsBack_243 (lv_at hl 1 rfl) ?_
                        refine gos_i (run_V (As := [.int (jI sv), .int (jI (X 75 0 ((5 * ((30 * sv) + r)) + k))), .int (jI (X 46 0 ((5 * (X 55 0 (bs + r))) + z7)))]) (rest := [.int (jI ((5 * (bs + r)) + z7)), .ref (ad 56 0)]) hx hb hml hown hts (c_X9_rowBack l D tc base ad cnt Xa Y ln hRXa hFx hMIXa sv (X 75 0 ((5 * ((30 * sv) + r)) + k)) (X 46 0 ((5 * (X 55 0 (bs + r))) + z7)) (by omega) (by omega) (by omega)) (cwV 3 hts gX9_fieldsBack_X9_rowBack rfl rfl rfl (by decide +kernel) ⟨Nat.le_of_ble_eq_true rfl, Nat.le_of_ble_eq_true rfl⟩) hK hw (by omega) (by omega) sl_40_0 rfl rfl hl.1 rfl (Nat.le_of_ble_eq_true rfl) dX9_fieldsBack_245 ⟨Nat.le_of_ble_eq_true rfl, Nat.le_of_ble_eq_true rfl⟩) hS (fun z115 u116 H locs p117 hw hS => ?_)
                        obtain ⟨X118, eu116, hRX118, hG119, hMIX118, p117⟩ := p117
                        subst eu116
                        have hFX118 : Frm [5600, 6000, 5700, 5800, 5900, 8500, 4042, 4043, 4044] X X118 := Frm.tr hFXa (Frm.mono hG119 (by decide))
                        refine x_i2l hx hb (by omega) dX9_fieldsBack_248 ?_
                        refine x_last hx hb hK.1 hw hS (by omega) (by omega) ar_56 (len_E ar_56 (by decide)) (by omega) (by omega) (by omega) dX9_fieldsBack_249 (fun H locs hw hS => ?_)
                        obtain ⟨X120, hX120⟩ : ∃ Xq, Xq = u3 X118 56 0 ((5 * (bs + r)) + z7) z115 := ⟨_, rfl⟩
                        rw [← hX120] at hw
                        have hRX120 : Rng X120 := by rw [hX120]; exact rng_set hRX118 (show (-9223372036854775808) ≤ z115 ∧ z115 ≤ 9223372036854775807 by omega)
                        have hVX120 : X120 56 0 ((5 * (bs + r)) + z7) = z115 := by rw [hX120]; exact u3_s _ _ _ _ _
                        have hFX120 : Frm [5600, 6000, 5700, 5800, 5900, 8500, 4042, 4043, 4044] X X120 := by rw [hX120]; exact Frm.set hFX118 (show 5600 ∈ [5600, 6000, 5700, 5800, 5900, 8500, 4042, 4043, 4044] by decide)
                        refine lv_iinc (v := jI (k + 1)) (lv' := [(7, .int (jI (k + 1))), (11, .long (jL (X 75 0 ((5 * ((30 * sv) + r)) + k)))), (10, .int (jI (X 46 0 ((5 * (X 55 0 (bs + r))) + z7)))), (9, .int (jI z7)), (8, .int (jI ((5 * ((30 * sv) + r)) + k))), (0, .ref (ad 40 0)), (1, .int (jI sv)), (2, .int (jI r)), (3, .int (jI rule)), (4, .int (jI bs)), (5, .int (jI (bs + r))), (6, .int (jI (X 55 0 (bs + r))))]) hx hb dX9_fieldsBack_250 hl (k := 11) rfl (jI_add _ _) (by decide) rfl (fun ls hl => ?_)
                        refine lv_goto (tgt := 18) hx hb dX9_fieldsBack_253 (by decide) ?_
                        have q121 : Frm [5600, 6000, 5700, 5800, 5900, 8500] X Xa := Frm.tr Frm.rf (Frm.mono hGXa (by decide))
                        have q122 : Frm [5600, 6000, 5700, 5800, 5900, 8500] X X118 := Frm.tr q121 (Frm.mono hG119 (by decide))
                        have q123 : Frm [5600, 6000, 5700, 5800, 5900, 8500] X X120 := by rw [hX120]; exact Frm.set q122 (show 5600 ∈ [5600, 6000, 5700, 5800, 5900, 8500] by decide)
                        have e124 : X118 40 0 13 = X 40 0 13 := by rw [hG119 40 0 13 (show 4014 ∉ [6000, 5700, 5800, 5900, 8500] by decide), hGXa 40 0 13 (show 4014 ∉ [5600, 6000, 5700, 5800, 5900, 8500] by decide)]
                        have e125 : ∀ j : Int, X118 44 0 j = X 44 0 j := fun j => by rw [hG119 44 0 j (show 4400 ∉ [6000, 5700, 5800, 5900, 8500] by decide), hGXa 44 0 j (show 4400 ∉ [5600, 6000, 5700, 5800, 5900, 8500] by decide)]
                        have e126 : ∀ j : Int, X118 55 0 j = X 55 0 j := fun j => by rw [hG119 55 0 j (show 5500 ∉ [6000, 5700, 5800, 5900, 8500] by decide), hGXa 55 0 j (show 5500 ∉ [5600, 6000, 5700, 5800, 5900, 8500] by decide)]
                        have e127 : ∀ j : Int, X118 46 0 j = X 46 0 j := fun j => by rw [hG119 46 0 j (show 4600 ∉ [6000, 5700, 5800, 5900, 8500] by decide), hGXa 46 0 j (show 4600 ∉ [5600, 6000, 5700, 5800, 5900, 8500] by decide)]
                        exact ih18 (k + 1) X120 _ _ _ (by omega) hRX120 q123 (by omega) (by rw [hX120]; exact minv_xval hMIX118 hRX118 (by omega) (by simp only [e124, e125, e126, e127]; omega) (by omega) (by simp only [e124, e125, e126, e127]; omega) (by unfold tyv; simp only [e124, e125, e126, e127]; exact ⟨fun _ => by omega, fun _ => by omega, fun _ => by omega⟩)) (fun j hj => (by rw [hX120, u3_j _ _ _ _ (by omega), hG119 56 0 j (show 5600 ∉ [6000, 5700, 5800, 5900, 8500] by decide)]; exact hlo j hj)) hw hS (lv_sub hl [5, 6, 7, 8, 9, 10, 11, 0] rfl)
                      · refine lv_iload hx hb dX9_fieldsBack_229 (lv_at hl 8 rfl) ?_
                        refine x_i2l hx hb (by omega) dX9_fieldsBack_231 ?_
                        refine lv_lload hx hb dX9_fieldsBack_232 (lv_at hl 0 rfl) ?_
                        refine x_ladd hx hb dX9_fieldsBack_234 ?_
                        refine lv_goto (tgt := 249) hx hb dX9_fieldsBack_235 (by decide) ?_
                        refine x_last hx hb hK.1 hw hS (by omega) (by omega) ar_56 (len_E ar_56 (by decide)) (by omega) (by omega) (by omega) dX9_fieldsBack_249 (fun H locs hw hS => ?_)
                        obtain ⟨X128, hX128⟩ : ∃ Xq, Xq = u3 Xa 56 0 ((5 * (bs + r)) + z7) (bs + (X 75 0 ((5 * ((30 * sv) + r)) + k))) := ⟨_, rfl⟩
                        rw [← hX128] at hw
                        have hRX128 : Rng X128 := by rw [hX128]; exact rng_set hRXa (show (-9223372036854775808) ≤ (bs + (X 75 0 ((5 * ((30 * sv) + r)) + k))) ∧ (bs + (X 75 0 ((5 * ((30 * sv) + r)) + k))) ≤ 9223372036854775807 by omega)
                        have hVX128 : X128 56 0 ((5 * (bs + r)) + z7) = (bs + (X 75 0 ((5 * ((30 * sv) + r)) + k))) := by rw [hX128]; exact u3_s _ _ _ _ _
                        have hFX128 : Frm [5600, 6000, 5700, 5800, 5900, 8500, 4042, 4043, 4044] X X128 := by rw [hX128]; exact Frm.set hFXa (show 5600 ∈ [5600, 6000, 5700, 5800, 5900, 8500, 4042, 4043, 4044] by decide)
                        refine lv_iinc (v := jI (k + 1)) (lv' := [(7, .int (jI (k + 1))), (11, .long (jL (X 75 0 ((5 * ((30 * sv) + r)) + k)))), (10, .int (jI (X 46 0 ((5 * (X 55 0 (bs + r))) + z7)))), (9, .int (jI z7)), (8, .int (jI ((5 * ((30 * sv) + r)) + k))), (0, .ref (ad 40 0)), (1, .int (jI sv)), (2, .int (jI r)), (3, .int (jI rule)), (4, .int (jI bs)), (5, .int (jI (bs + r))), (6, .int (jI (X 55 0 (bs + r))))]) hx hb dX9_fieldsBack_250 hl (k := 11) rfl (jI_add _ _) (by decide) rfl (fun ls hl => ?_)
                        refine lv_goto (tgt := 18) hx hb dX9_fieldsBack_253 (by decide) ?_
                        have q129 : Frm [5600, 6000, 5700, 5800, 5900, 8500] X Xa := Frm.tr Frm.rf (Frm.mono hGXa (by decide))
                        have q130 : Frm [5600, 6000, 5700, 5800, 5900, 8500] X X128 := by rw [hX128]; exact Frm.set q129 (show 5600 ∈ [5600, 6000, 5700, 5800, 5900, 8500] by decide)
                        have e131 : Xa 40 0 13 = X 40 0 13 := by rw [hGXa 40 0 13 (show 4014 ∉ [5600, 6000, 5700, 5800, 5900, 8500] by decide)]
                        have e132 : ∀ j : Int, Xa 44 0 j = X 44 0 j := fun j => by rw [hGXa 44 0 j (show 4400 ∉ [5600, 6000, 5700, 5800, 5900, 8500] by decide)]
                        have e133 : ∀ j : Int, Xa 55 0 j = X 55 0 j := fun j => by rw [hGXa 55 0 j (show 5500 ∉ [5600, 6000, 5700, 5800, 5900, 8500] by decide)]
                        have e134 : ∀ j : Int, Xa 46 0 j = X 46 0 j := fun j => by rw [hGXa 46 0 j (show 4600 ∉ [5600, 6000, 5700, 5800, 5900, 8500] by decide)]
                        exact ih18 (k + 1) X128 _ _ _ (by omega) hRX128 q130 (by omega) (by rw [hX128]; exact minv_xval hMIXa hRXa (by omega) (by simp only [e131, e132, e133, e134]; omega) (by omega) (by simp only [e131, e132, e133, e134]; omega) (by unfold tyv; simp only [e131, e132, e133, e134]; exact ⟨fun _ => by omega, fun _ => by omega, fun _ => by omega⟩)) (fun j hj => (by rw [hX128, u3_j _ _ _ _ (by omega)]; exact hlo j hj)) hw hS (lv_sub hl [5, 6, 7, 8, 9, 10, 11, 0] rfl)
                    · refine lv_lload hx hb dX9_fieldsBack_218 (lv_at hl 0 rfl) ?_
                      refine lv_goto (tgt := 249) hx hb dX9_fieldsBack_220 (by decide) ?_
                      refine x_last hx hb hK.1 hw hS (by omega) (by omega) ar_56 (len_E ar_56 (by decide)) (by omega) (by omega) (by omega) dX9_fieldsBack_249 (fun H locs hw hS => ?_)
                      obtain ⟨X135, hX135⟩ : ∃ Xq, Xq = u3 Xa 56 0 ((5 * (bs + r)) + z7) (X 75 0 ((5 * ((30 * sv) + r)) + k)) := ⟨_, rfl⟩
                      rw [← hX135] at hw
                      have hRX135 : Rng X135 := by rw [hX135]; exact rng_set hRXa (show (-9223372036854775808) ≤ (X 75 0 ((5 * ((30 * sv) + r)) + k)) ∧ (X 75 0 ((5 * ((30 * sv) + r)) + k)) ≤ 9223372036854775807 by omega)
                      have hVX135 : X135 56 0 ((5 * (bs + r)) + z7) = (X 75 0 ((5 * ((30 * sv) + r)) + k)) := by rw [hX135]; exact u3_s _ _ _ _ _
                      have hFX135 : Frm [5600, 6000, 5700, 5800, 5900, 8500, 4042, 4043, 4044] X X135 := by rw [hX135]; exact Frm.set hFXa (show 5600 ∈ [5600, 6000, 5700, 5800, 5900, 8500, 4042, 4043, 4044] by decide)
                      refine lv_iinc (v := jI (k + 1)) (lv' := [(7, .int (jI (k + 1))), (11, .long (jL (X 75 0 ((5 * ((30 * sv) + r)) + k)))), (10, .int (jI (X 46 0 ((5 * (X 55 0 (bs + r))) + z7)))), (9, .int (jI z7)), (8, .int (jI ((5 * ((30 * sv) + r)) + k))), (0, .ref (ad 40 0)), (1, .int (jI sv)), (2, .int (jI r)), (3, .int (jI rule)), (4, .int (jI bs)), (5, .int (jI (bs + r))), (6, .int (jI (X 55 0 (bs + r))))]) hx hb dX9_fieldsBack_250 hl (k := 11) rfl (jI_add _ _) (by decide) rfl (fun ls hl => ?_)
                      refine lv_goto (tgt := 18) hx hb dX9_fieldsBack_253 (by decide) ?_
                      have q136 : Frm [5600, 6000, 5700, 5800, 5900, 8500] X Xa := Frm.tr Frm.rf (Frm.mono hGXa (by decide))
                      have q137 : Frm [5600, 6000, 5700, 5800, 5900, 8500] X X135 := by rw [hX135]; exact Frm.set q136 (show 5600 ∈ [5600, 6000, 5700, 5800, 5900, 8500] by decide)
                      have e138 : Xa 40 0 13 = X 40 0 13 := by rw [hGXa 40 0 13 (show 4014 ∉ [5600, 6000, 5700, 5800, 5900, 8500] by decide)]
                      have e139 : ∀ j : Int, Xa 44 0 j = X 44 0 j := fun j => by rw [hGXa 44 0 j (show 4400 ∉ [5600, 6000, 5700, 5800, 5900, 8500] by decide)]
                      have e140 : ∀ j : Int, Xa 55 0 j = X 55 0 j := fun j => by rw [hGXa 55 0 j (show 5500 ∉ [5600, 6000, 5700, 5800, 5900, 8500] by decide)]
                      have e141 : ∀ j : Int, Xa 46 0 j = X 46 0 j := fun j => by rw [hGXa 46 0 j (show 4600 ∉ [5600, 6000, 5700, 5800, 5900, 8500] by decide)]
                      exact ih18 (k + 1) X135 _ _ _ (by omega) hRX135 q137 (by omega) (by rw [hX135]; exact minv_xval hMIXa hRXa (by omega) (by simp only [e138, e139, e140, e141]; omega) (by omega) (by simp only [e138, e139, e140, e141]; omega) (by unfold tyv; simp only [e138, e139, e140, e141]; exact ⟨fun _ => by omega, fun _ => by omega, fun _ => by omega⟩)) (fun j hj => (by rw [hX135, u3_j _ _ _ _ (by omega)]; exact hlo j hj)) hw hS (lv_sub hl [5, 6, 7, 8, 9, 10, 11, 0] rfl)
                · refine lv_iload_n hx hb dX9_fieldsBack_167 rfl (lv_at hl 7 rfl) ?_
                  refine lv_iconst (v := jI 2) hx hb dX9_fieldsBack_168 rfl ?_
                  refine lv_iand hx hb dX9_fieldsBack_169 ?_
                  refine x_anyi (fun z142 hz142 => ?_)
                  refine x_if_ne (tgt := 189) hx hb (by omega) dX9_fieldsBack_170 (by decide) (fun c143 => ?_) (fun c143 => ?_)
                  · refine lv_ldc2 (v := jL (-1)) hx hb hown (hts (.constantLong RX9 168 (-1)) (by decide +kernel)) dX9_fieldsBack_189 ?_
                    refine lv_lstore (lv' := [(11, .long (jL (-1))), (10, .int (jI (X 46 0 ((5 * (X 55 0 (bs + r))) + z7)))), (9, .int (jI z7)), (8, .int (jI ((5 * ((30 * sv) + r)) + k))), (0, .ref (ad 40 0)), (1, .int (jI sv)), (2, .int (jI r)), (3, .int (jI rule)), (4, .int (jI bs)), (5, .int (jI (bs + r))), (6, .int (jI (X 55 0 (bs + r)))), (7, .int (jI k))]) hx hb dX9_fieldsBack_192 hl (by decide) rfl (fun ls hl => ?_)
                    refine lv_aload_n hx hb dX9_fieldsBack_194 rfl (lv_at hl 4 rfl) ?_
                    refine x_geto hx hb hf9 hw (by omega) (by omega) sl_40_15 lk48 dX9_fieldsBack_195 ?_
                    refine lv_iconst (v := jI 5) hx hb dX9_fieldsBack_198 rfl ?_
                    refine lv_iload hx hb dX9_fieldsBack_199 (lv_at hl 9 rfl) ?_
                    refine x_imul hx hb dX9_fieldsBack_201 ?_
                    refine lv_iload hx hb dX9_fieldsBack_202 (lv_at hl 2 rfl) ?_
                    refine x_iadd hx hb dX9_fieldsBack_204 ?_
                    refine lv_iload hx hb dX9_fieldsBack_205 (lv_at hl 1 rfl) ?_
                    refine lv_iconst (v := jI 2) hx hb dX9_fieldsBack_207 rfl ?_
                    refine x_icmp_lt (tgt := 218) hx hb (by omega) (by omega) dX9_fieldsBack_208 (by decide) (fun c144 => ?_) (fun c144 => ?_)
                    · refine lv_lload hx hb dX9_fieldsBack_218 (lv_at hl 0 rfl) ?_
                      refine lv_goto (tgt := 249) hx hb dX9_fieldsBack_220 (by decide) ?_
                      refine x_last hx hb hK.1 hw hS (by omega) (by omega) ar_56 (len_E ar_56 (by decide)) (by omega) (by omega) (by omega) dX9_fieldsBack_249 (fun H locs hw hS => ?_)
                      obtain ⟨X145, hX145⟩ : ∃ Xq, Xq = u3 Xa 56 0 ((5 * (bs + r)) + z7) (-1) := ⟨_, rfl⟩
                      rw [← hX145] at hw
                      have hRX145 : Rng X145 := by rw [hX145]; exact rng_set hRXa (show (-9223372036854775808) ≤ (-1) ∧ (-1) ≤ 9223372036854775807 by omega)
                      have hVX145 : X145 56 0 ((5 * (bs + r)) + z7) = (-1) := by rw [hX145]; exact u3_s _ _ _ _ _
                      have hFX145 : Frm [5600, 6000, 5700, 5800, 5900, 8500, 4042, 4043, 4044] X X145 := by rw [hX145]; exact Frm.set hFXa (show 5600 ∈ [5600, 6000, 5700, 5800, 5900, 8500, 4042, 4043, 4044] by decide)
                      refine lv_iinc (v := jI (k + 1)) (lv' := [(7, .int (jI (k + 1))), (11, .long (jL (-1))), (10, .int (jI (X 46 0 ((5 * (X 55 0 (bs + r))) + z7)))), (9, .int (jI z7)), (8, .int (jI ((5 * ((30 * sv) + r)) + k))), (0, .ref (ad 40 0)), (1, .int (jI sv)), (2, .int (jI r)), (3, .int (jI rule)), (4, .int (jI bs)), (5, .int (jI (bs + r))), (6, .int (jI (X 55 0 (bs + r))))]) hx hb dX9_fieldsBack_250 hl (k := 11) rfl (jI_add _ _) (by decide) rfl (fun ls hl => ?_)
                      refine lv_goto (tgt := 18) hx hb dX9_fieldsBack_253 (by decide) ?_
                      have q146 : Frm [5600, 6000, 5700, 5800, 5900, 8500] X Xa := Frm.tr Frm.rf (Frm.mono hGXa (by decide))
                      have q147 : Frm [5600, 6000, 5700, 5800, 5900, 8500] X X145 := by rw [hX145]; exact Frm.set q146 (show 5600 ∈ [5600, 6000, 5700, 5800, 5900, 8500] by decide)
                      have e148 : Xa 40 0 13 = X 40 0 13 := by rw [hGXa 40 0 13 (show 4014 ∉ [5600, 6000, 5700, 5800, 5900, 8500] by decide)]
                      have e149 : ∀ j : Int, Xa 44 0 j = X 44 0 j := fun j => by rw [hGXa 44 0 j (show 4400 ∉ [5600, 6000, 5700, 5800, 5900, 8500] by decide)]
                      have e150 : ∀ j : Int, Xa 55 0 j = X 55 0 j := fun j => by rw [hGXa 55 0 j (show 5500 ∉ [5600, 6000, 5700, 5800, 5900, 8500] by decide)]
                      have e151 : ∀ j : Int, Xa 46 0 j = X 46 0 j := fun j => by rw [hGXa 46 0 j (show 4600 ∉ [5600, 6000, 5700, 5800, 5900, 8500] by decide)]
                      exact ih18 (k + 1) X145 _ _ _ (by omega) hRX145 q147 (by omega) (by rw [hX145]; exact minv_xval hMIXa hRXa (by omega) (by simp only [e148, e149, e150, e151]; omega) (by omega) (by simp only [e148, e149, e150, e151]; omega) (by unfold tyv; simp only [e148, e149, e150, e151]; exact ⟨fun _ => by omega, fun _ => by omega, fun _ => by omega⟩)) (fun j hj => (by rw [hX145, u3_j _ _ _ _ (by omega)]; exact hlo j hj)) hw hS (lv_sub hl [5, 6, 7, 8, 9, 10, 11, 0] rfl)
                    · refine lv_lload hx hb dX9_fieldsBack_211 (lv_at hl 0 rfl) ?_
                      refine lv_lconst (v := jL 0) hx hb dX9_fieldsBack_213 (by decide) ?_
                      refine x_lcmp hx hb (by omega) (by omega) dX9_fieldsBack_214 ?_
                      obtain ⟨z152, ez152⟩ : ∃ y : Int, y = cmpZ (-1) 0 := ⟨_, rfl⟩
                      rw [← ez152]
                      have gz152 : (z152 < 0 ↔ ((-1) : Int) < 0) ∧ (z152 = 0 ↔ ((-1) : Int) = 0) ∧ -1 ≤ z152 ∧ z152 ≤ 1 := by rw [ez152]; exact ⟨cmpZ_lt, cmpZ_eq, (cmpZ_r _ _).1, (cmpZ_r _ _).2⟩
                      clear ez152
                      refine x_if_ge (tgt := 223) hx hb (by omega) dX9_fieldsBack_215 (by decide) (fun c153 => ?_) (fun c153 => ?_)
                      · refine lv_iload hx hb dX9_fieldsBack_223 (lv_at hl 1 rfl) ?_
                        refine lv_iconst (v := jI 2) hx hb dX9_fieldsBack_225 rfl ?_
                        refine x_icmp_ne (tgt := 238) hx hb (by omega) (by omega) dX9_fieldsBack_226 (by decide) (fun c154 => ?_) (fun c154 => ?_)
                        · refine lv_aload_n hx hb dX9_fieldsBack_238 rfl (lv_at hl 4 rfl) ?_
                          refine lv_iload_n hx hb dX9_fieldsBack_239 rfl (lv_at hl 5 rfl) ?_
                          refine lv_lload hx hb dX9_fieldsBack_240 (lv_at hl 0 rfl) ?_
                          refine x_l2i hx hb dX9_fieldsBack_242 ?_
                          refine lv_iload hx hb dX9_fieldsBack_243 (lv_at hl 1 rfl) ?_
                          refine gos_i (run_V (As := [.int (jI sv), .int (jI (-1)), .int (jI (X 46 0 ((5 * (X 55 0 (bs + r))) + z7)))]) (rest := [.int (jI ((5 * (bs + r)) + z7)), .ref (ad 56 0)]) hx hb hml hown hts (c_X9_rowBack l D tc base ad cnt Xa Y ln hRXa hFx hMIXa sv (-1) (X 46 0 ((5 * (X 55 0 (bs + r))) + z7)) (by omega) (by omega) (by omega)) (cwV 3 hts gX9_fieldsBack_X9_rowBack rfl rfl rfl (by decide +kernel) ⟨Nat.le_of_ble_eq_true rfl, Nat.le_of_ble_eq_true rfl⟩) hK hw (by omega) (by omega) sl_40_0 rfl rfl hl.1 rfl (Nat.le_of_ble_eq_true rfl) dX9_fieldsBack_245 ⟨Nat.le_of_ble_eq_true rfl, Nat.le_of_ble_eq_true rfl⟩) hS (fun z155 u156 H locs p157 hw hS => ?_)
                          obtain ⟨X158, eu156, hRX158, hG159, hMIX158, p157⟩ := p157
                          subst eu156
                          have hFX158 : Frm [5600, 6000, 5700, 5800, 5900, 8500, 4042, 4043, 4044] X X158 := Frm.tr hFXa (Frm.mono hG159 (by decide))
                          refine x_i2l hx hb (by omega) dX9_fieldsBack_248 ?_
                          refine x_last hx hb hK.1 hw hS (by omega) (by omega) ar_56 (len_E ar_56 (by decide)) (by omega) (by omega) (by omega) dX9_fieldsBack_249 (fun H locs hw hS => ?_)
                          obtain ⟨X160, hX160⟩ : ∃ Xq, Xq = u3 X158 56 0 ((5 * (bs + r)) + z7) z155 := ⟨_, rfl⟩
                          rw [← hX160] at hw
                          have hRX160 : Rng X160 := by rw [hX160]; exact rng_set hRX158 (show (-9223372036854775808) ≤ z155 ∧ z155 ≤ 9223372036854775807 by omega)
                          have hVX160 : X160 56 0 ((5 * (bs + r)) + z7) = z155 := by rw [hX160]; exact u3_s _ _ _ _ _
                          have hFX160 : Frm [5600, 6000, 5700, 5800, 5900, 8500, 4042, 4043, 4044] X X160 := by rw [hX160]; exact Frm.set hFX158 (show 5600 ∈ [5600, 6000, 5700, 5800, 5900, 8500, 4042, 4043, 4044] by decide)
                          refine lv_iinc (v := jI (k + 1)) (lv' := [(7, .int (jI (k + 1))), (11, .long (jL (-1))), (10, .int (jI (X 46 0 ((5 * (X 55 0 (bs + r))) + z7)))), (9, .int (jI z7)), (8, .int (jI ((5 * ((30 * sv) + r)) + k))), (0, .ref (ad 40 0)), (1, .int (jI sv)), (2, .int (jI r)), (3, .int (jI rule)), (4, .int (jI bs)), (5, .int (jI (bs + r))), (6, .int (jI (X 55 0 (bs + r))))]) hx hb dX9_fieldsBack_250 hl (k := 11) rfl (jI_add _ _) (by decide) rfl (fun ls hl => ?_)
                          refine lv_goto (tgt := 18) hx hb dX9_fieldsBack_253 (by decide) ?_
                          have q161 : Frm [5600, 6000, 5700, 5800, 5900, 8500] X Xa := Frm.tr Frm.rf (Frm.mono hGXa (by decide))
                          have q162 : Frm [5600, 6000, 5700, 5800, 5900, 8500] X X158 := Frm.tr q161 (Frm.mono hG159 (by decide))
                          have q163 : Frm [5600, 6000, 5700, 5800, 5900, 8500] X X160 := by rw [hX160]; exact Frm.set q162 (show 5600 ∈ [5600, 6000, 5700, 5800, 5900, 8500] by decide)
                          have e164 : X158 40 0 13 = X 40 0 13 := by rw [hG159 40 0 13 (show 4014 ∉ [6000, 5700, 5800, 5900, 8500] by decide), hGXa 40 0 13 (show 4014 ∉ [5600, 6000, 5700, 5800, 5900, 8500] by decide)]
                          have e165 : ∀ j : Int, X158 44 0 j = X 44 0 j := fun j => by rw [hG159 44 0 j (show 4400 ∉ [6000, 5700, 5800, 5900, 8500] by decide), hGXa 44 0 j (show 4400 ∉ [5600, 6000, 5700, 5800, 5900, 8500] by decide)]
                          have e166 : ∀ j : Int, X158 55 0 j = X 55 0 j := fun j => by rw [hG159 55 0 j (show 5500 ∉ [6000, 5700, 5800, 5900, 8500] by decide), hGXa 55 0 j (show 5500 ∉ [5600, 6000, 5700, 5800, 5900, 8500] by decide)]
                          have e167 : ∀ j : Int, X158 46 0 j = X 46 0 j := fun j => by rw [hG159 46 0 j (show 4600 ∉ [6000, 5700, 5800, 5900, 8500] by decide), hGXa 46 0 j (show 4600 ∉ [5600, 6000, 5700, 5800, 5900, 8500] by decide)]
                          exact ih18 (k + 1) X160 _ _ _ (by omega) hRX160 q163 (by omega) (by rw [hX160]; exact minv_xval hMIX158 hRX158 (by omega) (by simp only [e164, e165, e166, e167]; omega) (by omega) (by simp only [e164, e165, e166, e167]; omega) (by unfold tyv; simp only [e164, e165, e166, e167]; exact ⟨fun _ => by omega, fun _ => by omega, fun _ => by omega⟩)) (fun j hj => (by rw [hX160, u3_j _ _ _ _ (by omega), hG159 56 0 j (show 5600 ∉ [6000, 5700, 5800, 5900, 8500] by decide)]; exact hlo j hj)) hw hS (lv_sub hl [5, 6, 7, 8, 9, 10, 11, 0] rfl)
                        · refine lv_iload hx hb dX9_fieldsBack_229 (lv_at hl 8 rfl) ?_
                          refine x_i2l hx hb (by omega) dX9_fieldsBack_231 ?_
                          refine lv_lload hx hb dX9_fieldsBack_232 (lv_at hl 0 rfl) ?_
                          refine x_ladd hx hb dX9_fieldsBack_234 ?_
                          refine lv_goto (tgt := 249) hx hb dX9_fieldsBack_235 (by decide) ?_
                          refine x_last hx hb hK.1 hw hS (by omega) (by omega) ar_56 (len_E ar_56 (by decide)) (by omega) (by omega) (by omega) dX9_fieldsBack_249 (fun H locs hw hS => ?_)
                          obtain ⟨X168, hX168⟩ : ∃ Xq, Xq = u3 Xa 56 0 ((5 * (bs + r)) + z7) (bs + (-1)) := ⟨_, rfl⟩
                          rw [← hX168] at hw
                          have hRX168 : Rng X168 := by rw [hX168]; exact rng_set hRXa (show (-9223372036854775808) ≤ (bs + (-1)) ∧ (bs + (-1)) ≤ 9223372036854775807 by omega)
                          have hVX168 : X168 56 0 ((5 * (bs + r)) + z7) = (bs + (-1)) := by rw [hX168]; exact u3_s _ _ _ _ _
                          have hFX168 : Frm [5600, 6000, 5700, 5800, 5900, 8500, 4042, 4043, 4044] X X168 := by rw [hX168]; exact Frm.set hFXa (show 5600 ∈ [5600, 6000, 5700, 5800, 5900, 8500, 4042, 4043, 4044] by decide)
                          refine lv_iinc (v := jI (k + 1)) (lv' := [(7, .int (jI (k + 1))), (11, .long (jL (-1))), (10, .int (jI (X 46 0 ((5 * (X 55 0 (bs + r))) + z7)))), (9, .int (jI z7)), (8, .int (jI ((5 * ((30 * sv) + r)) + k))), (0, .ref (ad 40 0)), (1, .int (jI sv)), (2, .int (jI r)), (3, .int (jI rule)), (4, .int (jI bs)), (5, .int (jI (bs + r))), (6, .int (jI (X 55 0 (bs + r))))]) hx hb dX9_fieldsBack_250 hl (k := 11) rfl (jI_add _ _) (by decide) rfl (fun ls hl => ?_)
                          refine lv_goto (tgt := 18) hx hb dX9_fieldsBack_253 (by decide) ?_
                          have q169 : Frm [5600, 6000, 5700, 5800, 5900, 8500] X Xa := Frm.tr Frm.rf (Frm.mono hGXa (by decide))
                          have q170 : Frm [5600, 6000, 5700, 5800, 5900, 8500] X X168 := by rw [hX168]; exact Frm.set q169 (show 5600 ∈ [5600, 6000, 5700, 5800, 5900, 8500] by decide)
                          have e171 : Xa 40 0 13 = X 40 0 13 := by rw [hGXa 40 0 13 (show 4014 ∉ [5600, 6000, 5700, 5800, 5900, 8500] by decide)]
                          have e172 : ∀ j : Int, Xa 44 0 j = X 44 0 j := fun j => by rw [hGXa 44 0 j (show 4400 ∉ [5600, 6000, 5700, 5800, 5900, 8500] by decide)]
                          have e173 : ∀ j : Int, Xa 55 0 j = X 55 0 j := fun j => by rw [hGXa 55 0 j (show 5500 ∉ [5600, 6000, 5700, 5800, 5900, 8500] by decide)]
                          have e174 : ∀ j : Int, Xa 46 0 j = X 46 0 j := fun j => by rw [hGXa 46 0 j (show 4600 ∉ [5600, 6000, 5700, 5800, 5900, 8500] by decide)]
                          exact ih18 (k + 1) X168 _ _ _ (by omega) hRX168 q170 (by omega) (by rw [hX168]; exact minv_xval hMIXa hRXa (by omega) (by simp only [e171, e172, e173, e174]; omega) (by omega) (by simp only [e171, e172, e173, e174]; omega) (by unfold tyv; simp only [e171, e172, e173, e174]; exact ⟨fun _ => by omega, fun _ => by omega, fun _ => by omega⟩)) (fun j hj => (by rw [hX168, u3_j _ _ _ _ (by omega)]; exact hlo j hj)) hw hS (lv_sub hl [5, 6, 7, 8, 9, 10, 11, 0] rfl)
                      · refine lv_lload hx hb dX9_fieldsBack_218 (lv_at hl 0 rfl) ?_
                        refine lv_goto (tgt := 249) hx hb dX9_fieldsBack_220 (by decide) ?_
                        refine x_last hx hb hK.1 hw hS (by omega) (by omega) ar_56 (len_E ar_56 (by decide)) (by omega) (by omega) (by omega) dX9_fieldsBack_249 (fun H locs hw hS => ?_)
                        obtain ⟨X175, hX175⟩ : ∃ Xq, Xq = u3 Xa 56 0 ((5 * (bs + r)) + z7) (-1) := ⟨_, rfl⟩
                        rw [← hX175] at hw
                        have hRX175 : Rng X175 := by rw [hX175]; exact rng_set hRXa (show (-9223372036854775808) ≤ (-1) ∧ (-1) ≤ 9223372036854775807 by omega)
                        have hVX175 : X175 56 0 ((5 * (bs + r)) + z7) = (-1) := by rw [hX175]; exact u3_s _ _ _ _ _
                        have hFX175 : Frm [5600, 6000, 5700, 5800, 5900, 8500, 4042, 4043, 4044] X X175 := by rw [hX175]; exact Frm.set hFXa (show 5600 ∈ [5600, 6000, 5700, 5800, 5900, 8500, 4042, 4043, 4044] by decide)
                        refine lv_iinc (v := jI (k + 1)) (lv' := [(7, .int (jI (k + 1))), (11, .long (jL (-1))), (10, .int (jI (X 46 0 ((5 * (X 55 0 (bs + r))) + z7)))), (9, .int (jI z7)), (8, .int (jI ((5 * ((30 * sv) + r)) + k))), (0, .ref (ad 40 0)), (1, .int (jI sv)), (2, .int (jI r)), (3, .int (jI rule)), (4, .int (jI bs)), (5, .int (jI (bs + r))), (6, .int (jI (X 55 0 (bs + r))))]) hx hb dX9_fieldsBack_250 hl (k := 11) rfl (jI_add _ _) (by decide) rfl (fun ls hl => ?_)
                        refine lv_goto (tgt := 18) hx hb dX9_fieldsBack_253 (by decide) ?_
                        have q176 : Frm [5600, 6000, 5700, 5800, 5900, 8500] X Xa := Frm.tr Frm.rf (Frm.mono hGXa (by decide))
                        have q177 : Frm [5600, 6000, 5700, 5800, 5900, 8500] X X175 := by rw [hX175]; exact Frm.set q176 (show 5600 ∈ [5600, 6000, 5700, 5800, 5900, 8500] by decide)
                        have e178 : Xa 40 0 13 = X 40 0 13 := by rw [hGXa 40 0 13 (show 4014 ∉ [5600, 6000, 5700, 5800, 5900, 8500] by decide)]
                        have e179 : ∀ j : Int, Xa 44 0 j = X 44 0 j := fun j => by rw [hGXa 44 0 j (show 4400 ∉ [5600, 6000, 5700, 5800, 5900, 8500] by decide)]
                        have e180 : ∀ j : Int, Xa 55 0 j = X 55 0 j := fun j => by rw [hGXa 55 0 j (show 5500 ∉ [5600, 6000, 5700, 5800, 5900, 8500] by decide)]
                        have e181 : ∀ j : Int, Xa 46 0 j = X 46 0 j := fun j => by rw [hGXa 46 0 j (show 4600 ∉ [5600, 6000, 5700, 5800, 5900, 8500] by decide)]
                        exact ih18 (k + 1) X175 _ _ _ (by omega) hRX175 q177 (by omega) (by rw [hX175]; exact minv_xval hMIXa hRXa (by omega) (by simp only [e178, e179, e180, e181]; omega) (by omega) (by simp only [e178, e179, e180, e181]; omega) (by unfold tyv; simp only [e178, e179, e180, e181]; exact ⟨fun _ => by omega, fun _ => by omega, fun _ => by omega⟩)) (fun j hj => (by rw [hX175, u3_j _ _ _ _ (by omega)]; exact hlo j hj)) hw hS (lv_sub hl [5, 6, 7, 8, 9, 10, 11, 0] rfl)
                  · refine lv_aload_n hx hb dX9_fieldsBack_173 rfl (lv_at hl 4 rfl) ?_
                    refine lv_bipush (v := jI 7) hx hb dX9_fieldsBack_174 (by decide) ?_
                    refine lv_iload_n hx hb dX9_fieldsBack_176 rfl (lv_at hl 6 rfl) ?_
                    refine lv_aload_n hx hb dX9_fieldsBack_177 rfl (lv_at hl 4 rfl) ?_
                    refine x_geto hx hb hf9 hw (by omega) (by omega) sl_40_32 lk90 dX9_fieldsBack_178 ?_
                    refine lv_iload hx hb dX9_fieldsBack_181 (lv_at hl 3 rfl) ?_
                    refine x_iald hx hb hK.1 hw (by omega) (by omega) ar_73 (len_E ar_73 (by decide)) (by omega) (by omega) (by omega) dX9_fieldsBack_183 ?_
                    have e182 : ∀ p9 q9 : Int, Xa 73 p9 q9 = X 73 p9 q9 := fun p9 q9 => by rw [hGXa 73 p9 q9 (show 7300 ∉ [5600, 6000, 5700, 5800, 5900, 8500] by decide)]
                    rw [e182 0 ((5 * ((30 * sv) + r)) + k)]
                    have f183 : 0 ≤ X 73 0 ((5 * ((30 * sv) + r)) + k) ∧ X 73 0 ((5 * ((30 * sv) + r)) + k) ≤ 19 := hR 73 0 ((5 * ((30 * sv) + r)) + k)
                    refine lv_iconst (v := jI (-1)) hx hb dX9_fieldsBack_184 rfl ?_
                    refine gos_i (run_V (As := [.int (jI 7), .int (jI r), .int (jI (X 73 0 ((5 * ((30 * sv) + r)) + k))), .int (jI (-1))]) (rest := []) hx hb hml hown hts (c_X9_faulty l D tc base ad cnt Xa Y ln hRXa hFx hMIXa 7 r (X 73 0 ((5 * ((30 * sv) + r)) + k)) (-1) (by omega) (by omega) (by omega) (by omega)) (cwV 4 hts gX9_fieldsBack_X9_faulty rfl rfl rfl (by decide +kernel) ⟨Nat.le_of_ble_eq_true rfl, Nat.le_of_ble_eq_true rfl⟩) hK hw (by omega) (by omega) sl_40_0 rfl rfl hl.1 rfl (Nat.le_of_ble_eq_true rfl) dX9_fieldsBack_185 ⟨Nat.le_of_ble_eq_true rfl, Nat.le_of_ble_eq_true rfl⟩) hS (fun z184 u185 H locs p186 hw hS => ?_)
                    obtain ⟨X187, eu185, hRX187, hG188, hMIX187, p186⟩ := p186
                    subst eu185
                    have hFX187 : Frm [5600, 6000, 5700, 5800, 5900, 8500, 4042, 4043, 4044] X X187 := Frm.tr hFXa (Frm.mono hG188 (by decide))
                    refine ret_i (mc := 0) (ms := 0) hx hb hr hlocks hw hS (by omega) (by omega) dX9_fieldsBack_188 ?_
                    exact ⟨X187, rfl, hRX187, hFX187, hMIX187, by omega, fun j hj => (by rw [hG188 56 0 j (show 5600 ∉ [4042, 4043, 4044] by decide)]; exact hlo j hj)⟩
          · subst ez17
            refine x_if_neF (tgt := 134) hx hb (by omega) (by decide) dX9_fieldsBack_115 (by decide) ?_
            refine lv_aload_n hx hb dX9_fieldsBack_118 rfl (lv_at hl 3 rfl) ?_
            refine lv_bipush (v := jI 9) hx hb dX9_fieldsBack_119 (by decide) ?_
            refine lv_iload_n hx hb dX9_fieldsBack_121 rfl (lv_at hl 5 rfl) ?_
            refine lv_aload_n hx hb dX9_fieldsBack_122 rfl (lv_at hl 3 rfl) ?_
            refine x_geto hx hb hf9 hw (by omega) (by omega) sl_40_32 lk90 dX9_fieldsBack_123 ?_
            refine lv_iload hx hb dX9_fieldsBack_126 (lv_at hl 2 rfl) ?_
            refine x_iald hx hb hK.1 hw (by omega) (by omega) ar_73 (len_E ar_73 (by decide)) (by omega) (by omega) (by omega) dX9_fieldsBack_128 ?_
            have e189 : ∀ p9 q9 : Int, Xa 73 p9 q9 = X 73 p9 q9 := fun p9 q9 => by rw [hGXa 73 p9 q9 (show 7300 ∉ [5600, 6000, 5700, 5800, 5900, 8500] by decide)]
            rw [e189 0 ((5 * ((30 * sv) + r)) + k)]
            have f190 : 0 ≤ X 73 0 ((5 * ((30 * sv) + r)) + k) ∧ X 73 0 ((5 * ((30 * sv) + r)) + k) ≤ 19 := hR 73 0 ((5 * ((30 * sv) + r)) + k)
            refine lv_iconst (v := jI (-1)) hx hb dX9_fieldsBack_129 rfl ?_
            refine gos_i (run_V (As := [.int (jI 9), .int (jI r), .int (jI (X 73 0 ((5 * ((30 * sv) + r)) + k))), .int (jI (-1))]) (rest := []) hx hb hml hown hts (c_X9_faulty l D tc base ad cnt Xa Y ln hRXa hFx hMIXa 9 r (X 73 0 ((5 * ((30 * sv) + r)) + k)) (-1) (by omega) (by omega) (by omega) (by omega)) (cwV 4 hts gX9_fieldsBack_X9_faulty rfl rfl rfl (by decide +kernel) ⟨Nat.le_of_ble_eq_true rfl, Nat.le_of_ble_eq_true rfl⟩) hK hw (by omega) (by omega) sl_40_0 rfl rfl hl.1 rfl (Nat.le_of_ble_eq_true rfl) dX9_fieldsBack_130 ⟨Nat.le_of_ble_eq_true rfl, Nat.le_of_ble_eq_true rfl⟩) hS (fun z191 u192 H locs p193 hw hS => ?_)
            obtain ⟨X194, eu192, hRX194, hG195, hMIX194, p193⟩ := p193
            subst eu192
            have hFX194 : Frm [5600, 6000, 5700, 5800, 5900, 8500, 4042, 4043, 4044] X X194 := Frm.tr hFXa (Frm.mono hG195 (by decide))
            refine ret_i (mc := 0) (ms := 0) hx hb hr hlocks hw hS (by omega) (by omega) dX9_fieldsBack_133 ?_
            exact ⟨X194, rfl, hRX194, hFX194, hMIX194, by omega, fun j hj => (by rw [hG195 56 0 j (show 5600 ∉ [4042, 4043, 4044] by decide)]; exact hlo j hj)⟩
        · refine lv_iload_n hx hb dX9_fieldsBack_67 rfl (lv_at hl 5 rfl) ?_
          refine lv_iconst (v := jI 1) hx hb dX9_fieldsBack_68 rfl ?_
          refine lv_iand hx hb dX9_fieldsBack_69 ?_
          refine x_anyi (fun z196 hz196 => ?_)
          refine x_if_ne (tgt := 250) hx hb (by omega) dX9_fieldsBack_70 (by decide) (fun c197 => ?_) (fun c197 => ?_)
          · refine lv_iinc (v := jI (k + 1)) (lv' := [(7, .int (jI (k + 1))), (9, .int (jI z7)), (8, .int (jI ((5 * ((30 * sv) + r)) + k))), (0, .ref (ad 40 0)), (1, .int (jI sv)), (2, .int (jI r)), (3, .int (jI rule)), (4, .int (jI bs)), (5, .int (jI (bs + r))), (6, .int (jI (X 55 0 (bs + r))))]) hx hb dX9_fieldsBack_250 hl (k := 9) rfl (jI_add _ _) (by decide) rfl (fun ls hl => ?_)
            refine lv_goto (tgt := 18) hx hb dX9_fieldsBack_253 (by decide) ?_
            have q198 : Frm [5600, 6000, 5700, 5800, 5900, 8500] X Xa := Frm.tr Frm.rf (Frm.mono hGXa (by decide))
            exact ih18 (k + 1) Xa _ _ _ (by omega) hRXa q198 (by omega) (hMIXa) (fun j hj => (by exact hlo j hj)) hw hS (lv_sub hl [3, 4, 5, 6, 7, 8, 9, 0] rfl)
          · refine lv_aload_n hx hb dX9_fieldsBack_73 rfl (lv_at hl 2 rfl) ?_
            refine lv_bipush (v := jI 8) hx hb dX9_fieldsBack_74 (by decide) ?_
            refine lv_iload_n hx hb dX9_fieldsBack_76 rfl (lv_at hl 4 rfl) ?_
            refine lv_aload_n hx hb dX9_fieldsBack_77 rfl (lv_at hl 2 rfl) ?_
            refine x_geto hx hb hf9 hw (by omega) (by omega) sl_40_32 lk90 dX9_fieldsBack_78 ?_
            refine lv_iload hx hb dX9_fieldsBack_81 (lv_at hl 1 rfl) ?_
            refine x_iald hx hb hK.1 hw (by omega) (by omega) ar_73 (len_E ar_73 (by decide)) (by omega) (by omega) (by omega) dX9_fieldsBack_83 ?_
            have e199 : ∀ p9 q9 : Int, Xa 73 p9 q9 = X 73 p9 q9 := fun p9 q9 => by rw [hGXa 73 p9 q9 (show 7300 ∉ [5600, 6000, 5700, 5800, 5900, 8500] by decide)]
            rw [e199 0 ((5 * ((30 * sv) + r)) + k)]
            have f200 : 0 ≤ X 73 0 ((5 * ((30 * sv) + r)) + k) ∧ X 73 0 ((5 * ((30 * sv) + r)) + k) ≤ 19 := hR 73 0 ((5 * ((30 * sv) + r)) + k)
            refine lv_iconst (v := jI (-1)) hx hb dX9_fieldsBack_84 rfl ?_
            refine gos_i (run_V (As := [.int (jI 8), .int (jI r), .int (jI (X 73 0 ((5 * ((30 * sv) + r)) + k))), .int (jI (-1))]) (rest := []) hx hb hml hown hts (c_X9_faulty l D tc base ad cnt Xa Y ln hRXa hFx hMIXa 8 r (X 73 0 ((5 * ((30 * sv) + r)) + k)) (-1) (by omega) (by omega) (by omega) (by omega)) (cwV 4 hts gX9_fieldsBack_X9_faulty rfl rfl rfl (by decide +kernel) ⟨Nat.le_of_ble_eq_true rfl, Nat.le_of_ble_eq_true rfl⟩) hK hw (by omega) (by omega) sl_40_0 rfl rfl hl.1 rfl (Nat.le_of_ble_eq_true rfl) dX9_fieldsBack_85 ⟨Nat.le_of_ble_eq_true rfl, Nat.le_of_ble_eq_true rfl⟩) hS (fun z201 u202 H locs p203 hw hS => ?_)
            obtain ⟨X204, eu202, hRX204, hG205, hMIX204, p203⟩ := p203
            subst eu202
            have hFX204 : Frm [5600, 6000, 5700, 5800, 5900, 8500, 4042, 4043, 4044] X X204 := Frm.tr hFXa (Frm.mono hG205 (by decide))
            refine ret_i (mc := 0) (ms := 0) hx hb hr hlocks hw hS (by omega) (by omega) dX9_fieldsBack_88 ?_
            exact ⟨X204, rfl, hRX204, hFX204, hMIX204, by omega, fun j hj => (by rw [hG205 56 0 j (show 5600 ∉ [4042, 4043, 4044] by decide)]; exact hlo j hj)⟩
  exact lp18 (5 - 0 : Int).toNat.succ 0 X _ _ _ (by omega) hR Frm.rf (by omega) (hMI) (fun j hj => rfl) hw hS (lv_sub hl [3, 4, 5, 6, 7, 2, 1, 0] rfl)

set_option maxHeartbeats 4000000 in
set_option maxRecDepth 100000 in
theorem c_X9_restore (l : Launch) (D : va_G) (tc : Nat → ClassId) (base : Nat) (ad : Nat → Int → Nat) (cnt : Nat → Int) (X : Nat → Int → Int → Int) (Y : Nat → Int → Int → Option Int) (ln : Int → Int) (hR : Rng X) (hFx : Fx cnt) (hMI : MInv X) (sv rule : Int) (hsv : -2147483648 ≤ sv ∧ sv ≤ 2147483647) (hrule : -2147483648 ≤ rule ∧ rule ≤ 2147483647) : KI l D tc base yX9_restore wsX9_restore ({ frames := 4, cells := 0, slots := 0, locals := 105 } : Room) [.ref (ad 40 0), .int (jI sv), .int (jI rule)] (ad, cnt, X, Y, ln) 0 0 (fun z u => ∃ X1 : Nat → Int → Int → Int, u = (ad, cnt, X1, Y, ln) ∧ Rng X1 ∧ Frm [4001, 4014, 5500, 5600, 4029, 6000, 5700, 5800, 5900, 8500, 4042, 4043, 4044] X X1 ∧ MInv X1 ∧ (-2147483648 ≤ z ∧ z ≤ 2147483647)) := by
  refine K_of (cc := cX9_restore) (maxL := 8) (ret := (some .int)) (by decide) rfl (Nat.le_of_ble_eq_true rfl) ?_
  intro p e s m below meth c ls hx hb hr hml hown hts hlocks hl hK hw hS
  have hown : s.vm.findClass RX9 = some m.cls := hown
  have hi9 : ∀ w ∈ wsX90, w ∈ wsX9_restore := fun w h => List.mem_cons_of_mem _ (List.mem_append_right _ h)
  have hf9 : fctx s m _ RX9 wsX9_restore D tc RX9 TX9 51 9 := ⟨hts, hi9, hown, hK.1, rfl⟩
  have lk13 := hts (.fieldLink RX9 13 "StateRecordsModel" "fMany" "[I") (by decide +kernel)
  have lk23 := hts (.fieldLink RX9 23 "StateRecordsModel" "fFirst" "[J") (by decide +kernel)
  have lk45 := hts (.fieldLink RX9 45 "StateRecordsModel" "xType" "[I") (by decide +kernel)
  have lk48 := hts (.fieldLink RX9 48 "StateRecordsModel" "xVal" "[J") (by decide +kernel)
  have lk81 := hts (.fieldLink RX9 81 "StateRecordsModel" "sMany" "[I") (by decide +kernel)
  have lk84 := hts (.fieldLink RX9 84 "StateRecordsModel" "sType" "[I") (by decide +kernel)
  have lk127 := hts (.fieldLink RX9 127 "StateRecordsModel" "back" "[I") (by decide +kernel)
  have lk145 := hts (.fieldLink RX9 145 "StateRecordsModel" "code" "I") (by decide +kernel)
  have lk151 := hts (.fieldLink RX9 151 "StateRecordsModel" "things" "I") (by decide +kernel)
  have lk206 := hts (.fieldLink RX9 206 "StateRecordsModel" "checkAt" "I") (by decide +kernel)
  have hc40 : cnt 40 = 1 := hFx.at 40 1 (by decide)
  have hc44 : cnt 44 = 1 := hFx.at 44 1 (by decide)
  have hc47 : cnt 47 = 1 := hFx.at 47 1 (by decide)
  have hc55 : cnt 55 = 1 := hFx.at 55 1 (by decide)
  have hc56 : cnt 56 = 1 := hFx.at 56 1 (by decide)
  have hc70 : cnt 70 = 1 := hFx.at 70 1 (by decide)
  have hc71 : cnt 71 = 1 := hFx.at 71 1 (by decide)
  have hc85 : cnt 85 = 1 := hFx.at 85 1 (by decide)
  have hl : lv_has ls 8 [(0, .ref (ad 40 0)), (1, .int (jI sv)), (2, .int (jI rule))] := hl
  have fstypes : 0 ≤ X 40 0 2 ∧ X 40 0 2 ≤ 8 := hR 40 0 2
  have fsthings : 0 ≤ X 40 0 13 ∧ X 40 0 13 ≤ 30 := hR 40 0 13
  have fsmarks : 0 ≤ X 40 0 20 ∧ X 40 0 20 ≤ 4 := hR 40 0 20
  have fsnotes : 0 ≤ X 40 0 22 ∧ X 40 0 22 ≤ 80 := hR 40 0 22
  refine lv_aload_n hx hb dX9_restore_0 rfl (lv_at hl 0 rfl) ?_
  refine lv_iconst (v := jI 0) hx hb dX9_restore_1 rfl ?_
  refine x_puti (jz := 0) hx hb hf9 ⟨tyX9_ok, nmX9⟩ hw hS (by omega) (by omega) sl_40_0 rfl lk145 rfl (tyX9_ok 0 (by decide)) rfl rfl dX9_restore_2 (fun H locs hw hS => ?_)
  obtain ⟨X1, hX1⟩ : ∃ Xq, Xq = u3 X 40 0 0 0 := ⟨_, rfl⟩
  rw [← hX1] at hw
  have hRX1 : Rng X1 := by rw [hX1]; exact rng_set hR (show (-2147483648) ≤ 0 ∧ 0 ≤ 2147483647 by omega)
  have hVX1 : X1 40 0 0 = 0 := by rw [hX1]; exact u3_s _ _ _ _ _
  have hFX1 : Frm [4001, 4014, 5500, 5600, 4029, 6000, 5700, 5800, 5900, 8500, 4042, 4043, 4044] X X1 := by rw [hX1]; exact Frm.set Frm.rf (show 4001 ∈ [4001, 4014, 5500, 5600, 4029, 6000, 5700, 5800, 5900, 8500, 4042, 4043, 4044] by decide)
  refine lv_aload_n hx hb dX9_restore_5 rfl (lv_at hl 0 rfl) ?_
  refine lv_iload_n hx hb dX9_restore_6 rfl (lv_at hl 1 rfl) ?_
  refine gos_i (run_V (As := [.int (jI sv)]) (rest := []) hx hb hml hown hts (c_X9_isSave l D tc base ad cnt X1 Y ln hRX1 hFx sv (by omega)) (cwV 1 hts gX9_restore_X9_isSave rfl rfl rfl (by decide +kernel) ⟨Nat.le_of_ble_eq_true rfl, Nat.le_of_ble_eq_true rfl⟩) hK hw (by omega) (by omega) sl_40_0 rfl rfl hl.1 rfl (Nat.le_of_ble_eq_true rfl) dX9_restore_7 ⟨Nat.le_of_ble_eq_true rfl, Nat.le_of_ble_eq_true rfl⟩) hS (fun z2 u3 H locs p4 hw hS => ?_)
  obtain ⟨eu3, p4⟩ := p4
  subst eu3
  rcases p4 with ⟨ez2, p4⟩ | ⟨ez2, p4⟩
  · subst ez2
    refine x_if_eqF (tgt := 22) hx hb (by omega) (by decide) dX9_restore_10 (by decide) ?_
    refine lv_aload_n hx hb dX9_restore_13 rfl (lv_at hl 0 rfl) ?_
    refine x_geto hx hb hf9 hw (by omega) (by omega) sl_40_29 lk81 dX9_restore_14 ?_
    refine lv_iload_n hx hb dX9_restore_17 rfl (lv_at hl 1 rfl) ?_
    refine x_iald hx hb hK.1 hw (by omega) (by omega) ar_70 (len_E ar_70 (by decide)) (by omega) (by omega) (by omega) dX9_restore_18 ?_
    have e5 : ∀ p9 q9 : Int, X1 70 p9 q9 = X 70 p9 q9 := fun p9 q9 => by rw [hX1, u3_k _ _ _ _ (by decide)]
    rw [e5 0 sv]
    have f6 : 0 ≤ X 70 0 sv ∧ X 70 0 sv ≤ 30 := hR 70 0 sv
    refine x_if_ne (tgt := 24) hx hb (by omega) dX9_restore_19 (by decide) (fun c7 => ?_) (fun c7 => ?_)
    · refine lv_iload_n hx hb dX9_restore_24 rfl (lv_at hl 2 rfl) ?_
      refine x_if_lt (tgt := 33) hx hb (by omega) dX9_restore_25 (by decide) (fun c8 => ?_) (fun c8 => ?_)
      · refine lv_bipush (v := jI (-2)) hx hb dX9_restore_33 (by decide) ?_
        refine ret_i (mc := 0) (ms := 0) hx hb hr hlocks hw hS (by omega) (by omega) dX9_restore_35 ?_
        have q10 : Frm [4001] X X1 := by rw [hX1]; exact Frm.set Frm.rf (show 4001 ∈ [4001] by decide)
        have hMq9 : MInv X1 := minv_frm hMI q10 (by decide)
        exact ⟨X1, rfl, hRX1, hFX1, hMq9, by omega⟩
      · refine lv_iload_n hx hb dX9_restore_28 rfl (lv_at hl 2 rfl) ?_
        refine lv_iconst (v := jI 3) hx hb dX9_restore_29 rfl ?_
        refine x_icmp_le (tgt := 36) hx hb (by omega) (by omega) dX9_restore_30 (by decide) (fun c11 => ?_) (fun c11 => ?_)
        · refine lv_aload_n hx hb dX9_restore_36 rfl (lv_at hl 0 rfl) ?_
          refine x_geti (jz := 13) hx hb hf9 hw (by omega) (by omega) sl_40_13 rfl lk151 dX9_restore_37 ?_
          have e12 : X1 40 0 13 = X 40 0 13 := by rw [hX1, u3_j _ _ _ _ (by decide)]
          rw [e12]
          have f13 : 0 ≤ X 40 0 13 ∧ X 40 0 13 ≤ 30 := hR 40 0 13
          refine lv_istore_n (lv' := [(3, .int (jI (X 40 0 13))), (0, .ref (ad 40 0)), (1, .int (jI sv)), (2, .int (jI rule))]) hx hb dX9_restore_40 rfl hl (by decide) rfl (fun ls hl => ?_)
          refine lv_aload_n hx hb dX9_restore_41 rfl (lv_at hl 1 rfl) ?_
          refine x_geto hx hb hf9 hw (by omega) (by omega) sl_40_29 lk81 dX9_restore_42 ?_
          refine lv_iload_n hx hb dX9_restore_45 rfl (lv_at hl 2 rfl) ?_
          refine x_iald hx hb hK.1 hw (by omega) (by omega) ar_70 (len_E ar_70 (by decide)) (by omega) (by omega) (by omega) dX9_restore_46 ?_
          have e14 : ∀ p9 q9 : Int, X1 70 p9 q9 = X 70 p9 q9 := fun p9 q9 => by rw [hX1, u3_k _ _ _ _ (by decide)]
          rw [e14 0 sv]
          have f15 : 0 ≤ X 70 0 sv ∧ X 70 0 sv ≤ 30 := hR 70 0 sv
          refine lv_istore (lv' := [(4, .int (jI (X 70 0 sv))), (3, .int (jI (X 40 0 13))), (0, .ref (ad 40 0)), (1, .int (jI sv)), (2, .int (jI rule))]) hx hb dX9_restore_47 hl (by decide) rfl (fun ls hl => ?_)
          refine lv_iload_n hx hb dX9_restore_49 rfl (lv_at hl 1 rfl) ?_
          refine lv_iload hx hb dX9_restore_50 (lv_at hl 0 rfl) ?_
          refine x_iadd hx hb dX9_restore_52 ?_
          refine lv_bipush (v := jI 30) hx hb dX9_restore_53 (by decide) ?_
          refine x_icmp_le (tgt := 61) hx hb (by omega) (by omega) dX9_restore_55 (by decide) (fun c16 => ?_) (fun c16 => ?_)
          · refine lv_iconst (v := jI 0) hx hb dX9_restore_61 rfl ?_
            refine lv_istore (lv' := [(5, .int (jI 0)), (4, .int (jI (X 70 0 sv))), (3, .int (jI (X 40 0 13))), (0, .ref (ad 40 0)), (1, .int (jI sv)), (2, .int (jI rule))]) hx hb dX9_restore_62 hl (by decide) rfl (fun ls hl => ?_)
            have lp64 : ∀ (nn : Nat) (k : Int) (Xa : Nat → Int → Int → Int) (H : Heap) (locs : List Loc) (ls : Array Slot), (450 - k) < (nn : Int) → (Rng Xa) → (Frm [8500] X1 Xa) → (0 ≤ k ∧ k ≤ 450) → wd D tc base (ad, cnt, Xa, Y, ln) H → va_S (frA base) s.heap H locs → lv_has ls 8 [(0, .ref (ad 40 0)), (1, .int (jI sv)), (2, .int (jI rule)), (3, .int (jI (X 40 0 13))), (4, .int (jI (X 70 0 sv))), (5, .int (jI k))] → W p l e ({ frames := 4, cells := 0, slots := 0, locals := 105 } : Room) s m ([.ref (ad 40 0), .int (jI sv), .int (jI rule)] : List Value).toArray below meth c H locs 0 0 (MQ below (QI D tc base (fun z u => ∃ X1 : Nat → Int → Int → Int, u = (ad, cnt, X1, Y, ln) ∧ Rng X1 ∧ Frm [4001, 4014, 5500, 5600, 4029, 6000, 5700, 5800, 5900, 8500, 4042, 4043, 4044] X X1 ∧ MInv X1 ∧ (-2147483648 ≤ z ∧ z ≤ 2147483647))) ([.ref (ad 40 0), .int (jI sv), .int (jI rule)] : List Value).toArray s 0 0 (frA base)) (F0 m 64 ls []) := by
              intro nn
              induction nn with
              | zero => intro k Xa H locs ls hm hRXa hGXa hk hw hS hl; exfalso; omega
              | succ nn ih64 =>
                intro k Xa H locs ls hm hRXa hGXa hk hw hS hl
                have hFXa : Frm [4001, 4014, 5500, 5600, 4029, 6000, 5700, 5800, 5900, 8500, 4042, 4043, 4044] X Xa := Frm.tr hFX1 (Frm.mono hGXa (by decide))
                refine lv_iload hx hb dX9_restore_64 (lv_at hl 5 rfl) ?_
                refine lv_sipush (v := jI 450) hx hb dX9_restore_66 (by decide) ?_
                refine x_icmp_ge (tgt := 86) hx hb (by omega) (by omega) dX9_restore_69 (by decide) (fun c17 => ?_) (fun c17 => ?_)
                · refine lv_iconst (v := jI 0) hx hb dX9_restore_86 rfl ?_
                  refine lv_istore (lv' := [(5, .int (jI 0)), (0, .ref (ad 40 0)), (1, .int (jI sv)), (2, .int (jI rule)), (3, .int (jI (X 40 0 13))), (4, .int (jI (X 70 0 sv)))]) hx hb dX9_restore_87 hl (by decide) rfl (fun ls hl => ?_)
                  have lp89 : ∀ (nn : Nat) (r : Int) (Xb : Nat → Int → Int → Int) (H : Heap) (locs : List Loc) (ls : Array Slot), (30 - r) < (nn : Int) → (Rng Xb) → (Frm [5500, 5600] Xa Xb) → (0 ≤ r ∧ r ≤ 30) → (Old X Xb) → (New X Xb sv r) → wd D tc base (ad, cnt, Xb, Y, ln) H → va_S (frA base) s.heap H locs → lv_has ls 8 [(0, .ref (ad 40 0)), (1, .int (jI sv)), (2, .int (jI rule)), (3, .int (jI (X 40 0 13))), (4, .int (jI (X 70 0 sv))), (5, .int (jI r))] → W p l e ({ frames := 4, cells := 0, slots := 0, locals := 105 } : Room) s m ([.ref (ad 40 0), .int (jI sv), .int (jI rule)] : List Value).toArray below meth c H locs 0 0 (MQ below (QI D tc base (fun z u => ∃ X1 : Nat → Int → Int → Int, u = (ad, cnt, X1, Y, ln) ∧ Rng X1 ∧ Frm [4001, 4014, 5500, 5600, 4029, 6000, 5700, 5800, 5900, 8500, 4042, 4043, 4044] X X1 ∧ MInv X1 ∧ (-2147483648 ≤ z ∧ z ≤ 2147483647))) ([.ref (ad 40 0), .int (jI sv), .int (jI rule)] : List Value).toArray s 0 0 (frA base)) (F0 m 89 ls []) := by
                    intro nn
                    induction nn with
                    | zero => intro r Xb H locs ls hm hRXb hGXb hr0 hOl hNw hw hS hl; exfalso; omega
                    | succ nn ih89 =>
                      intro r Xb H locs ls hm hRXb hGXb hr0 hOl hNw hw hS hl
                      have hFXb : Frm [4001, 4014, 5500, 5600, 4029, 6000, 5700, 5800, 5900, 8500, 4042, 4043, 4044] X Xb := Frm.tr hFXa (Frm.mono hGXb (by decide))
                      refine lv_iload hx hb dX9_restore_89 (lv_at hl 5 rfl) ?_
                      refine lv_iload hx hb dX9_restore_91 (lv_at hl 4 rfl) ?_
                      refine x_icmp_ge (tgt := 174) hx hb (by omega) (by omega) dX9_restore_93 (by decide) (fun c18 => ?_) (fun c18 => ?_)
                      · refine lv_aload_n hx hb dX9_restore_174 rfl (lv_at hl 0 rfl) ?_
                        refine lv_dup hx hb dX9_restore_175 rfl ?_
                        refine x_geti (jz := 13) hx hb hf9 hw (by omega) (by omega) sl_40_13 rfl lk151 dX9_restore_176 ?_
                        have e19 : Xb 40 0 13 = X 40 0 13 := by rw [hGXb 40 0 13 (show 4014 ∉ [5500, 5600] by decide), hGXa 40 0 13 (show 4014 ∉ [8500] by decide), hX1, u3_j _ _ _ _ (by decide)]
                        rw [e19]
                        have f20 : 0 ≤ X 40 0 13 ∧ X 40 0 13 ≤ 30 := hR 40 0 13
                        refine lv_iload hx hb dX9_restore_179 (lv_at hl 4 rfl) ?_
                        refine x_iadd hx hb dX9_restore_181 ?_
                        refine x_puti (jz := 13) hx hb hf9 ⟨tyX9_ok, nmX9⟩ hw hS (by omega) (by omega) sl_40_13 rfl lk151 rfl (tyX9_ok 13 (by decide)) rfl rfl dX9_restore_182 (fun H locs hw hS => ?_)
                        obtain ⟨X21, hX21⟩ : ∃ Xq, Xq = u3 Xb 40 0 13 ((X 40 0 13) + (X 70 0 sv)) := ⟨_, rfl⟩
                        rw [← hX21] at hw
                        have hRX21 : Rng X21 := by rw [hX21]; exact rng_set hRXb (show 0 ≤ ((X 40 0 13) + (X 70 0 sv)) ∧ ((X 40 0 13) + (X 70 0 sv)) ≤ 30 by omega)
                        have hVX21 : X21 40 0 13 = ((X 40 0 13) + (X 70 0 sv)) := by rw [hX21]; exact u3_s _ _ _ _ _
                        have hFX21 : Frm [4001, 4014, 5500, 5600, 4029, 6000, 5700, 5800, 5900, 8500, 4042, 4043, 4044] X X21 := by rw [hX21]; exact Frm.set hFXb (show 4014 ∈ [4001, 4014, 5500, 5600, 4029, 6000, 5700, 5800, 5900, 8500, 4042, 4043, 4044] by decide)
                        refine lv_iconst (v := jI 0) hx hb dX9_restore_185 rfl ?_
                        refine lv_istore (lv' := [(5, .int (jI 0)), (0, .ref (ad 40 0)), (1, .int (jI sv)), (2, .int (jI rule)), (3, .int (jI (X 40 0 13))), (4, .int (jI (X 70 0 sv)))]) hx hb dX9_restore_186 hl (by decide) rfl (fun ls hl => ?_)
                        have lp188 : ∀ (nn : Nat) (r : Int) (Xd : Nat → Int → Int → Int) (H : Heap) (locs : List Loc) (ls : Array Slot), (30 - r) < (nn : Int) → (Rng Xd) → (Frm [5600, 6000, 5700, 5800, 5900, 8500, 4042, 4043, 4044] X21 Xd) → (0 ≤ r ∧ r ≤ 30) → (MInv Xd) → (Old X Xd) → wd D tc base (ad, cnt, Xd, Y, ln) H → va_S (frA base) s.heap H locs → lv_has ls 8 [(0, .ref (ad 40 0)), (1, .int (jI sv)), (2, .int (jI rule)), (3, .int (jI (X 40 0 13))), (4, .int (jI (X 70 0 sv))), (5, .int (jI r))] → W p l e ({ frames := 4, cells := 0, slots := 0, locals := 105 } : Room) s m ([.ref (ad 40 0), .int (jI sv), .int (jI rule)] : List Value).toArray below meth c H locs 0 0 (MQ below (QI D tc base (fun z u => ∃ X1 : Nat → Int → Int → Int, u = (ad, cnt, X1, Y, ln) ∧ Rng X1 ∧ Frm [4001, 4014, 5500, 5600, 4029, 6000, 5700, 5800, 5900, 8500, 4042, 4043, 4044] X X1 ∧ MInv X1 ∧ (-2147483648 ≤ z ∧ z ≤ 2147483647))) ([.ref (ad 40 0), .int (jI sv), .int (jI rule)] : List Value).toArray s 0 0 (frA base)) (F0 m 188 ls []) := by
                          intro nn
                          induction nn with
                          | zero => intro r Xd H locs ls hm hRXd hGXd hr0 hMIXd hOd hw hS hl; exfalso; omega
                          | succ nn ih188 =>
                            intro r Xd H locs ls hm hRXd hGXd hr0 hMIXd hOd hw hS hl
                            have hFXd : Frm [4001, 4014, 5500, 5600, 4029, 6000, 5700, 5800, 5900, 8500, 4042, 4043, 4044] X Xd := Frm.tr hFX21 (Frm.mono hGXd (by decide))
                            refine lv_iload hx hb dX9_restore_188 (lv_at hl 5 rfl) ?_
                            refine lv_iload hx hb dX9_restore_190 (lv_at hl 4 rfl) ?_
                            refine x_icmp_ge (tgt := 225) hx hb (by omega) (by omega) dX9_restore_192 (by decide) (fun c22 => ?_) (fun c22 => ?_)
                            · refine lv_iconst (v := jI 0) hx hb dX9_restore_225 rfl ?_
                              refine lv_istore (lv' := [(5, .int (jI 0)), (0, .ref (ad 40 0)), (1, .int (jI sv)), (2, .int (jI rule)), (3, .int (jI (X 40 0 13))), (4, .int (jI (X 70 0 sv)))]) hx hb dX9_restore_226 hl (by decide) rfl (fun ls hl => ?_)
                              have lp228 : ∀ (nn : Nat) (r : Int) (Xe : Nat → Int → Int → Int) (H : Heap) (locs : List Loc) (ls : Array Slot), (30 - r) < (nn : Int) → (Rng Xe) → (Frm [4029] Xd Xe) → (0 ≤ r ∧ r ≤ 30) → (MInv Xe) → wd D tc base (ad, cnt, Xe, Y, ln) H → va_S (frA base) s.heap H locs → lv_has ls 8 [(0, .ref (ad 40 0)), (1, .int (jI sv)), (2, .int (jI rule)), (3, .int (jI (X 40 0 13))), (4, .int (jI (X 70 0 sv))), (5, .int (jI r))] → W p l e ({ frames := 4, cells := 0, slots := 0, locals := 105 } : Room) s m ([.ref (ad 40 0), .int (jI sv), .int (jI rule)] : List Value).toArray below meth c H locs 0 0 (MQ below (QI D tc base (fun z u => ∃ X1 : Nat → Int → Int → Int, u = (ad, cnt, X1, Y, ln) ∧ Rng X1 ∧ Frm [4001, 4014, 5500, 5600, 4029, 6000, 5700, 5800, 5900, 8500, 4042, 4043, 4044] X X1 ∧ MInv X1 ∧ (-2147483648 ≤ z ∧ z ≤ 2147483647))) ([.ref (ad 40 0), .int (jI sv), .int (jI rule)] : List Value).toArray s 0 0 (frA base)) (F0 m 228 ls []) := by
                                intro nn
                                induction nn with
                                | zero => intro r Xe H locs ls hm hRXe hGXe hr0 hMIXe hw hS hl; exfalso; omega
                                | succ nn ih228 =>
                                  intro r Xe H locs ls hm hRXe hGXe hr0 hMIXe hw hS hl
                                  have hFXe : Frm [4001, 4014, 5500, 5600, 4029, 6000, 5700, 5800, 5900, 8500, 4042, 4043, 4044] X Xe := Frm.tr hFXd (Frm.mono hGXe (by decide))
                                  refine lv_iload hx hb dX9_restore_228 (lv_at hl 5 rfl) ?_
                                  refine lv_iload hx hb dX9_restore_230 (lv_at hl 4 rfl) ?_
                                  refine x_icmp_ge (tgt := 275) hx hb (by omega) (by omega) dX9_restore_232 (by decide) (fun c23 => ?_) (fun c23 => ?_)
                                  · refine lv_iload_n hx hb dX9_restore_275 rfl (lv_at hl 3 rfl) ?_
                                    refine ret_i (mc := 0) (ms := 0) hx hb hr hlocks hw hS (by omega) (by omega) dX9_restore_276 ?_
                                    exact ⟨Xe, rfl, hRXe, hFXe, hMIXe, by omega⟩
                                  · refine lv_aload_n hx hb dX9_restore_235 rfl (lv_at hl 0 rfl) ?_
                                    refine lv_iload_n hx hb dX9_restore_236 rfl (lv_at hl 3 rfl) ?_
                                    refine lv_iload hx hb dX9_restore_237 (lv_at hl 5 rfl) ?_
                                    refine x_iadd hx hb dX9_restore_239 ?_
                                    have e24 : Xe 40 0 13 = X21 40 0 13 := by rw [hGXe 40 0 13 (show 4014 ∉ [4029] by decide), hGXd 40 0 13 (show 4014 ∉ [5600, 6000, 5700, 5800, 5900, 8500, 4042, 4043, 4044] by decide)]
                                    refine gos_i (run_V (As := [.int (jI ((X 40 0 13) + r))]) (rest := []) hx hb hml hown hts (c_X9_judged l D tc base ad cnt Xe Y ln hRXe hFx hMIXe ((X 40 0 13) + r) (by omega) (by simp only [e24]; omega)) (cwV 1 hts gX9_restore_X9_judged rfl rfl rfl (by decide +kernel) ⟨Nat.le_of_ble_eq_true rfl, Nat.le_of_ble_eq_true rfl⟩) hK hw (by omega) (by omega) sl_40_0 rfl rfl hl.1 rfl (Nat.le_of_ble_eq_true rfl) dX9_restore_240 ⟨Nat.le_of_ble_eq_true rfl, Nat.le_of_ble_eq_true rfl⟩) hS (fun z25 u26 H locs p27 hw hS => ?_)
                                    obtain ⟨X28, eu26, hRX28, hG29, hMIX28, p27⟩ := p27
                                    subst eu26
                                    have hFX28 : Frm [4001, 4014, 5500, 5600, 4029, 6000, 5700, 5800, 5900, 8500, 4042, 4043, 4044] X X28 := Frm.tr hFXe (Frm.mono hG29 (by decide))
                                    refine lv_istore (lv' := [(6, .int (jI z25)), (0, .ref (ad 40 0)), (1, .int (jI sv)), (2, .int (jI rule)), (3, .int (jI (X 40 0 13))), (4, .int (jI (X 70 0 sv))), (5, .int (jI r))]) hx hb dX9_restore_243 hl (by decide) rfl (fun ls hl => ?_)
                                    refine lv_iload hx hb dX9_restore_245 (lv_at hl 0 rfl) ?_
                                    refine x_if_eq (tgt := 269) hx hb (by omega) dX9_restore_247 (by decide) (fun c30 => ?_) (fun c30 => ?_)
                                    · refine lv_iinc (v := jI (r + 1)) (lv' := [(5, .int (jI (r + 1))), (6, .int (jI z25)), (0, .ref (ad 40 0)), (1, .int (jI sv)), (2, .int (jI rule)), (3, .int (jI (X 40 0 13))), (4, .int (jI (X 70 0 sv)))]) hx hb dX9_restore_269 hl (k := 6) rfl (jI_add _ _) (by decide) rfl (fun ls hl => ?_)
                                      refine lv_goto (tgt := 228) hx hb dX9_restore_272 (by decide) ?_
                                      have q31 : Frm [4029] Xd Xe := Frm.tr Frm.rf (Frm.mono hGXe (by decide))
                                      have q32 : Frm [4029] Xd X28 := Frm.tr q31 (Frm.mono hG29 (by decide))
                                      exact ih228 (r + 1) X28 _ _ _ (by omega) hRX28 q32 (by omega) (hMIX28) hw hS (lv_sub hl [2, 3, 4, 5, 6, 0] rfl)
                                    · refine lv_aload_n hx hb dX9_restore_250 rfl (lv_at hl 1 rfl) ?_
                                      refine lv_iload_n hx hb dX9_restore_251 rfl (lv_at hl 4 rfl) ?_
                                      refine x_puti (jz := 13) hx hb hf9 ⟨tyX9_ok, nmX9⟩ hw hS (by omega) (by omega) sl_40_13 rfl lk151 rfl (tyX9_ok 13 (by decide)) rfl rfl dX9_restore_252 (fun H locs hw hS => ?_)
                                      obtain ⟨X33, hX33⟩ : ∃ Xq, Xq = u3 X28 40 0 13 (X 40 0 13) := ⟨_, rfl⟩
                                      rw [← hX33] at hw
                                      have hRX33 : Rng X33 := by rw [hX33]; exact rng_set hRX28 (show 0 ≤ (X 40 0 13) ∧ (X 40 0 13) ≤ 30 by omega)
                                      have hVX33 : X33 40 0 13 = (X 40 0 13) := by rw [hX33]; exact u3_s _ _ _ _ _
                                      have hFX33 : Frm [4001, 4014, 5500, 5600, 4029, 6000, 5700, 5800, 5900, 8500, 4042, 4043, 4044] X X33 := by rw [hX33]; exact Frm.set hFX28 (show 4014 ∈ [4001, 4014, 5500, 5600, 4029, 6000, 5700, 5800, 5900, 8500, 4042, 4043, 4044] by decide)
                                      refine lv_aload_n hx hb dX9_restore_255 rfl (lv_at hl 1 rfl) ?_
                                      refine lv_iload hx hb dX9_restore_256 (lv_at hl 0 rfl) ?_
                                      refine lv_iload hx hb dX9_restore_258 (lv_at hl 6 rfl) ?_
                                      refine lv_iconst (v := jI (-1)) hx hb dX9_restore_260 rfl ?_
                                      refine lv_aload_n hx hb dX9_restore_261 rfl (lv_at hl 1 rfl) ?_
                                      refine x_geti (jz := 28) hx hb hf9 hw (by omega) (by omega) sl_40_28 rfl lk206 dX9_restore_262 ?_
                                      have e34 : X33 40 0 28 = X28 40 0 28 := by rw [hX33, u3_j _ _ _ _ (by decide)]
                                      rw [e34]
                                      have f35 : 0 ≤ X28 40 0 28 ∧ X28 40 0 28 ≤ 3 := hRX28 40 0 28
                                      have q37 : Frm [4014, 4029] Xd Xe := Frm.tr Frm.rf (Frm.mono hGXe (by decide))
                                      have q38 : Frm [4014, 4029] Xd X28 := Frm.tr q37 (Frm.mono hG29 (by decide))
                                      have q39 : Frm [4014, 4029] Xd X33 := by rw [hX33]; exact Frm.set q38 (show 4014 ∈ [4014, 4029] by decide)
                                      have hMb36 : MInv X33 := minv_rst_back hMI hR hFX33 (hOd.frm q39 (by decide)) hVX33
                                      refine gos_i (run_V (As := [.int (jI z25), .int (jI r), .int (jI (-1)), .int (jI (X28 40 0 28))]) (rest := []) hx hb hml hown hts (c_X9_faulty l D tc base ad cnt X33 Y ln hRX33 hFx hMb36 z25 r (-1) (X28 40 0 28) (by omega) (by omega) (by omega) (by omega)) (cwV 4 hts gX9_restore_X9_faulty rfl rfl rfl (by decide +kernel) ⟨Nat.le_of_ble_eq_true rfl, Nat.le_of_ble_eq_true rfl⟩) hK hw (by omega) (by omega) sl_40_0 rfl rfl hl.1 rfl (Nat.le_of_ble_eq_true rfl) dX9_restore_265 ⟨Nat.le_of_ble_eq_true rfl, Nat.le_of_ble_eq_true rfl⟩) hS (fun z40 u41 H locs p42 hw hS => ?_)
                                      obtain ⟨X43, eu41, hRX43, hG44, hMIX43, p42⟩ := p42
                                      subst eu41
                                      have hFX43 : Frm [4001, 4014, 5500, 5600, 4029, 6000, 5700, 5800, 5900, 8500, 4042, 4043, 4044] X X43 := Frm.tr hFX33 (Frm.mono hG44 (by decide))
                                      refine ret_i (mc := 0) (ms := 0) hx hb hr hlocks hw hS (by omega) (by omega) dX9_restore_268 ?_
                                      exact ⟨X43, rfl, hRX43, hFX43, hMIX43, by omega⟩
                              exact lp228 (30 - 0 : Int).toNat.succ 0 Xd _ _ _ (by omega) hRXd Frm.rf (by omega) (hMIXd) hw hS (lv_sub hl [1, 2, 3, 4, 5, 0] rfl)
                            · refine lv_aload_n hx hb dX9_restore_195 rfl (lv_at hl 0 rfl) ?_
                              refine lv_iload_n hx hb dX9_restore_196 rfl (lv_at hl 1 rfl) ?_
                              refine lv_iload hx hb dX9_restore_197 (lv_at hl 5 rfl) ?_
                              refine lv_iload_n hx hb dX9_restore_199 rfl (lv_at hl 2 rfl) ?_
                              refine lv_iload_n hx hb dX9_restore_200 rfl (lv_at hl 3 rfl) ?_
                              have e45 : ∀ j : Int, Xd 70 0 j = X 70 0 j := fun j => by rw [hGXd 70 0 j (show 7000 ∉ [5600, 6000, 5700, 5800, 5900, 8500, 4042, 4043, 4044] by decide), hX21, u3_k _ _ _ _ (by decide), hGXb 70 0 j (show 7000 ∉ [5500, 5600] by decide), hGXa 70 0 j (show 7000 ∉ [8500] by decide), hX1, u3_k _ _ _ _ (by decide)]
                              have e46 : Xd 40 0 13 = X21 40 0 13 := by rw [hGXd 40 0 13 (show 4014 ∉ [5600, 6000, 5700, 5800, 5900, 8500, 4042, 4043, 4044] by decide)]
                              refine gos_i (run_V (As := [.int (jI sv), .int (jI r), .int (jI rule), .int (jI (X 40 0 13))]) (rest := []) hx hb hml hown hts (c_X9_fieldsBack l D tc base ad cnt Xd Y ln hRXd hFx hMIXd sv r rule (X 40 0 13) (by omega) (by simp only [e45, e46]; omega) (by omega) (by omega) (by simp only [e45, e46]; omega)) (cwV 4 hts gX9_restore_X9_fieldsBack rfl rfl rfl (by decide +kernel) ⟨Nat.le_of_ble_eq_true rfl, Nat.le_of_ble_eq_true rfl⟩) hK hw (by omega) (by omega) sl_40_0 rfl rfl hl.1 rfl (Nat.le_of_ble_eq_true rfl) dX9_restore_201 ⟨Nat.le_of_ble_eq_true rfl, Nat.le_of_ble_eq_true rfl⟩) hS (fun z47 u48 H locs p49 hw hS => ?_)
                              obtain ⟨X50, eu48, hRX50, hG51, hMIX50, p49, hloX50⟩ := p49
                              subst eu48
                              have hFX50 : Frm [4001, 4014, 5500, 5600, 4029, 6000, 5700, 5800, 5900, 8500, 4042, 4043, 4044] X X50 := Frm.tr hFXd (Frm.mono hG51 (by decide))
                              have hOlX50 : Old X X50 := hOd.lo hG51 (by decide) hloX50
                              refine lv_istore (lv' := [(6, .int (jI z47)), (0, .ref (ad 40 0)), (1, .int (jI sv)), (2, .int (jI rule)), (3, .int (jI (X 40 0 13))), (4, .int (jI (X 70 0 sv))), (5, .int (jI r))]) hx hb dX9_restore_204 hl (by decide) rfl (fun ls hl => ?_)
                              refine lv_iload hx hb dX9_restore_206 (lv_at hl 0 rfl) ?_
                              refine x_if_eq (tgt := 219) hx hb (by omega) dX9_restore_208 (by decide) (fun c52 => ?_) (fun c52 => ?_)
                              · refine lv_iinc (v := jI (r + 1)) (lv' := [(5, .int (jI (r + 1))), (6, .int (jI z47)), (0, .ref (ad 40 0)), (1, .int (jI sv)), (2, .int (jI rule)), (3, .int (jI (X 40 0 13))), (4, .int (jI (X 70 0 sv)))]) hx hb dX9_restore_219 hl (k := 6) rfl (jI_add _ _) (by decide) rfl (fun ls hl => ?_)
                                refine lv_goto (tgt := 188) hx hb dX9_restore_222 (by decide) ?_
                                have q53 : Frm [5600, 6000, 5700, 5800, 5900, 8500, 4042, 4043, 4044] X21 Xd := Frm.tr Frm.rf (Frm.mono hGXd (by decide))
                                have q54 : Frm [5600, 6000, 5700, 5800, 5900, 8500, 4042, 4043, 4044] X21 X50 := Frm.tr q53 (Frm.mono hG51 (by decide))
                                exact ih188 (r + 1) X50 _ _ _ (by omega) hRX50 q54 (by omega) (hMIX50) (hOlX50) hw hS (lv_sub hl [2, 3, 4, 5, 6, 0] rfl)
                              · refine lv_aload_n hx hb dX9_restore_211 rfl (lv_at hl 1 rfl) ?_
                                refine lv_iload_n hx hb dX9_restore_212 rfl (lv_at hl 4 rfl) ?_
                                refine x_puti (jz := 13) hx hb hf9 ⟨tyX9_ok, nmX9⟩ hw hS (by omega) (by omega) sl_40_13 rfl lk151 rfl (tyX9_ok 13 (by decide)) rfl rfl dX9_restore_213 (fun H locs hw hS => ?_)
                                obtain ⟨X55, hX55⟩ : ∃ Xq, Xq = u3 X50 40 0 13 (X 40 0 13) := ⟨_, rfl⟩
                                rw [← hX55] at hw
                                have hRX55 : Rng X55 := by rw [hX55]; exact rng_set hRX50 (show 0 ≤ (X 40 0 13) ∧ (X 40 0 13) ≤ 30 by omega)
                                have hVX55 : X55 40 0 13 = (X 40 0 13) := by rw [hX55]; exact u3_s _ _ _ _ _
                                have hFX55 : Frm [4001, 4014, 5500, 5600, 4029, 6000, 5700, 5800, 5900, 8500, 4042, 4043, 4044] X X55 := by rw [hX55]; exact Frm.set hFX50 (show 4014 ∈ [4001, 4014, 5500, 5600, 4029, 6000, 5700, 5800, 5900, 8500, 4042, 4043, 4044] by decide)
                                refine lv_iload hx hb dX9_restore_216 (lv_at hl 0 rfl) ?_
                                refine ret_i (mc := 0) (ms := 0) hx hb hr hlocks hw hS (by omega) (by omega) dX9_restore_218 ?_
                                have q56 : Frm [4014] X50 X55 := by rw [hX55]; exact Frm.set Frm.rf (show 4014 ∈ [4014] by decide)
                                exact ⟨X55, rfl, hRX55, hFX55, minv_rst_back hMI hR hFX55 (hOlX50.frm q56 (by decide)) hVX55, by omega⟩
                        have q57 : Frm [4001, 4014, 5500, 5600, 8500] X X1 := by rw [hX1]; exact Frm.set Frm.rf (show 4001 ∈ [4001, 4014, 5500, 5600, 8500] by decide)
                        have q58 : Frm [4001, 4014, 5500, 5600, 8500] X Xa := Frm.tr q57 (Frm.mono hGXa (by decide))
                        have q59 : Frm [4001, 4014, 5500, 5600, 8500] X Xb := Frm.tr q58 (Frm.mono hGXb (by decide))
                        have q60 : Frm [4001, 4014, 5500, 5600, 8500] X X21 := by rw [hX21]; exact Frm.set q59 (show 4014 ∈ [4001, 4014, 5500, 5600, 8500] by decide)
                        have q61 : Frm [4014] Xb X21 := by rw [hX21]; exact Frm.set Frm.rf (show 4014 ∈ [4014] by decide)
                        have q62 : Frm [4014] Xb X21 := by rw [hX21]; exact Frm.set Frm.rf (show 4014 ∈ [4014] by decide)
                        exact lp188 (30 - 0 : Int).toNat.succ 0 X21 _ _ _ (by omega) hRX21 Frm.rf (by omega) (minv_rst_in (n := X 70 0 sv) hMI hR (by omega) q60 (hOl.frm q61 (by decide)) (fun r1 a b => ⟨(by rw [hX21, u3_k _ _ _ _ (by decide)]; exact (hNw r1 a b).1), fun q q0 q1 => (by rw [hX21, u3_k _ _ _ _ (by decide)]; exact (hNw r1 a b).2 q q0 q1)⟩) (by omega) rfl hVX21) ((hOl.frm q62 (by decide))) hw hS (lv_sub hl [1, 2, 3, 4, 5, 0] rfl)
                      · refine lv_aload_n hx hb dX9_restore_96 rfl (lv_at hl 0 rfl) ?_
                        refine x_geto hx hb hf9 hw (by omega) (by omega) sl_40_30 lk84 dX9_restore_97 ?_
                        refine lv_bipush (v := jI 30) hx hb dX9_restore_100 (by decide) ?_
                        refine lv_iload_n hx hb dX9_restore_102 rfl (lv_at hl 1 rfl) ?_
                        refine x_imul hx hb dX9_restore_103 ?_
                        refine lv_iload hx hb dX9_restore_104 (lv_at hl 5 rfl) ?_
                        refine x_iadd hx hb dX9_restore_106 ?_
                        refine x_iald hx hb hK.1 hw (by omega) (by omega) ar_71 (len_E ar_71 (by decide)) (by omega) (by omega) (by omega) dX9_restore_107 ?_
                        have e63 : ∀ p9 q9 : Int, Xb 71 p9 q9 = X 71 p9 q9 := fun p9 q9 => by rw [hGXb 71 p9 q9 (show 7100 ∉ [5500, 5600] by decide), hGXa 71 p9 q9 (show 7100 ∉ [8500] by decide), hX1, u3_k _ _ _ _ (by decide)]
                        rw [e63 0 ((30 * sv) + r)]
                        have f64 : 0 ≤ X 71 0 ((30 * sv) + r) ∧ X 71 0 ((30 * sv) + r) ≤ 7 := hR 71 0 ((30 * sv) + r)
                        refine lv_istore (lv' := [(6, .int (jI (X 71 0 ((30 * sv) + r)))), (0, .ref (ad 40 0)), (1, .int (jI sv)), (2, .int (jI rule)), (3, .int (jI (X 40 0 13))), (4, .int (jI (X 70 0 sv))), (5, .int (jI r))]) hx hb dX9_restore_108 hl (by decide) rfl (fun ls hl => ?_)
                        refine lv_aload_n hx hb dX9_restore_110 rfl (lv_at hl 1 rfl) ?_
                        refine x_geto hx hb hf9 hw (by omega) (by omega) sl_40_14 lk45 dX9_restore_111 ?_
                        refine lv_iload_n hx hb dX9_restore_114 rfl (lv_at hl 4 rfl) ?_
                        refine lv_iload hx hb dX9_restore_115 (lv_at hl 6 rfl) ?_
                        refine x_iadd hx hb dX9_restore_117 ?_
                        refine lv_iload hx hb dX9_restore_118 (lv_at hl 0 rfl) ?_
                        refine x_iast hx hb hK.1 hw hS (by omega) (by omega) ar_55 (len_E ar_55 (by decide)) (by omega) (by omega) (by omega) dX9_restore_120 (fun H locs hw hS => ?_)
                        obtain ⟨X65, hX65⟩ : ∃ Xq, Xq = u3 Xb 55 0 ((X 40 0 13) + r) (X 71 0 ((30 * sv) + r)) := ⟨_, rfl⟩
                        rw [← hX65] at hw
                        have hRX65 : Rng X65 := by rw [hX65]; exact rng_set hRXb (show 0 ≤ (X 71 0 ((30 * sv) + r)) ∧ (X 71 0 ((30 * sv) + r)) ≤ 7 by omega)
                        have hVX65 : X65 55 0 ((X 40 0 13) + r) = (X 71 0 ((30 * sv) + r)) := by rw [hX65]; exact u3_s _ _ _ _ _
                        have hFX65 : Frm [4001, 4014, 5500, 5600, 4029, 6000, 5700, 5800, 5900, 8500, 4042, 4043, 4044] X X65 := by rw [hX65]; exact Frm.set hFXb (show 5500 ∈ [4001, 4014, 5500, 5600, 4029, 6000, 5700, 5800, 5900, 8500, 4042, 4043, 4044] by decide)
                        refine lv_iconst (v := jI 0) hx hb dX9_restore_121 rfl ?_
                        refine lv_istore (lv' := [(7, .int (jI 0)), (6, .int (jI (X 71 0 ((30 * sv) + r)))), (0, .ref (ad 40 0)), (1, .int (jI sv)), (2, .int (jI rule)), (3, .int (jI (X 40 0 13))), (4, .int (jI (X 70 0 sv))), (5, .int (jI r))]) hx hb dX9_restore_122 hl (by decide) rfl (fun ls hl => ?_)
                        have lp124 : ∀ (nn : Nat) (k : Int) (Xc : Nat → Int → Int → Int) (H : Heap) (locs : List Loc) (ls : Array Slot), (5 - k) < (nn : Int) → (Rng Xc) → (Frm [5600] X65 Xc) → (0 ≤ k ∧ k ≤ 5) → (Old X Xc) → (New X Xc sv r) → (Xc 55 0 (X 40 0 13 + r) = X 71 0 (30 * sv + r)) → (∀ q, 0 ≤ q → q < k → Xc 56 0 (5 * (X 40 0 13 + r) + q) = X 47 0 (5 * X 71 0 (30 * sv + r) + q)) → wd D tc base (ad, cnt, Xc, Y, ln) H → va_S (frA base) s.heap H locs → lv_has ls 8 [(0, .ref (ad 40 0)), (1, .int (jI sv)), (2, .int (jI rule)), (3, .int (jI (X 40 0 13))), (4, .int (jI (X 70 0 sv))), (5, .int (jI r)), (6, .int (jI (X 71 0 ((30 * sv) + r)))), (7, .int (jI k))] → W p l e ({ frames := 4, cells := 0, slots := 0, locals := 105 } : Room) s m ([.ref (ad 40 0), .int (jI sv), .int (jI rule)] : List Value).toArray below meth c H locs 0 0 (MQ below (QI D tc base (fun z u => ∃ X1 : Nat → Int → Int → Int, u = (ad, cnt, X1, Y, ln) ∧ Rng X1 ∧ Frm [4001, 4014, 5500, 5600, 4029, 6000, 5700, 5800, 5900, 8500, 4042, 4043, 4044] X X1 ∧ MInv X1 ∧ (-2147483648 ≤ z ∧ z ≤ 2147483647))) ([.ref (ad 40 0), .int (jI sv), .int (jI rule)] : List Value).toArray s 0 0 (frA base)) (F0 m 124 ls []) := by
                          intro nn
                          induction nn with
                          | zero => intro k Xc H locs ls hm hRXc hGXc hk hOl hNw hN5 hNv hw hS hl; exfalso; omega
                          | succ nn ih124 =>
                            intro k Xc H locs ls hm hRXc hGXc hk hOl hNw hN5 hNv hw hS hl
                            have hFXc : Frm [4001, 4014, 5500, 5600, 4029, 6000, 5700, 5800, 5900, 8500, 4042, 4043, 4044] X Xc := Frm.tr hFX65 (Frm.mono hGXc (by decide))
                            refine lv_iload hx hb dX9_restore_124 (lv_at hl 7 rfl) ?_
                            refine lv_aload_n hx hb dX9_restore_126 rfl (lv_at hl 0 rfl) ?_
                            refine x_geto hx hb hf9 hw (by omega) (by omega) sl_40_3 lk13 dX9_restore_127 ?_
                            refine lv_iload hx hb dX9_restore_130 (lv_at hl 6 rfl) ?_
                            refine x_iald hx hb hK.1 hw (by omega) (by omega) ar_44 (len_E ar_44 (by decide)) (by omega) (by omega) (by omega) dX9_restore_132 ?_
                            have e66 : ∀ p9 q9 : Int, Xc 44 p9 q9 = X 44 p9 q9 := fun p9 q9 => by rw [hGXc 44 p9 q9 (show 4400 ∉ [5600] by decide), hX65, u3_k _ _ _ _ (by decide), hGXb 44 p9 q9 (show 4400 ∉ [5500, 5600] by decide), hGXa 44 p9 q9 (show 4400 ∉ [8500] by decide), hX1, u3_k _ _ _ _ (by decide)]
                            rw [e66 0 (X 71 0 ((30 * sv) + r))]
                            have f67 : 0 ≤ X 44 0 (X 71 0 ((30 * sv) + r)) ∧ X 44 0 (X 71 0 ((30 * sv) + r)) ≤ 5 := hR 44 0 (X 71 0 ((30 * sv) + r))
                            refine x_icmp_ge (tgt := 168) hx hb (by omega) (by omega) dX9_restore_133 (by decide) (fun c68 => ?_) (fun c68 => ?_)
                            · refine lv_iinc (v := jI (r + 1)) (lv' := [(5, .int (jI (r + 1))), (0, .ref (ad 40 0)), (1, .int (jI sv)), (2, .int (jI rule)), (3, .int (jI (X 40 0 13))), (4, .int (jI (X 70 0 sv))), (6, .int (jI (X 71 0 ((30 * sv) + r)))), (7, .int (jI k))]) hx hb dX9_restore_168 hl (k := 5) rfl (jI_add _ _) (by decide) rfl (fun ls hl => ?_)
                              refine lv_goto (tgt := 89) hx hb dX9_restore_171 (by decide) ?_
                              have q69 : Frm [5500, 5600] Xa Xb := Frm.tr Frm.rf (Frm.mono hGXb (by decide))
                              have q70 : Frm [5500, 5600] Xa X65 := by rw [hX65]; exact Frm.set q69 (show 5500 ∈ [5500, 5600] by decide)
                              have q71 : Frm [5500, 5600] Xa Xc := Frm.tr q70 (Frm.mono hGXc (by decide))
                              exact ih89 (r + 1) Xc _ _ _ (by omega) hRXc q71 (by omega) (hOl) (hNw.next hN5 (fun q a b => hNv q a (by omega))) hw hS (lv_sub hl [1, 2, 3, 4, 5, 0] rfl)
                            · refine lv_aload_n hx hb dX9_restore_136 rfl (lv_at hl 0 rfl) ?_
                              refine x_geto hx hb hf9 hw (by omega) (by omega) sl_40_15 lk48 dX9_restore_137 ?_
                              refine lv_iconst (v := jI 5) hx hb dX9_restore_140 rfl ?_
                              refine lv_iload_n hx hb dX9_restore_141 rfl (lv_at hl 3 rfl) ?_
                              refine lv_iload hx hb dX9_restore_142 (lv_at hl 5 rfl) ?_
                              refine x_iadd hx hb dX9_restore_144 ?_
                              refine x_imul hx hb dX9_restore_145 ?_
                              refine lv_iload hx hb dX9_restore_146 (lv_at hl 7 rfl) ?_
                              refine x_iadd hx hb dX9_restore_148 ?_
                              refine lv_aload_n hx hb dX9_restore_149 rfl (lv_at hl 0 rfl) ?_
                              refine x_geto hx hb hf9 hw (by omega) (by omega) sl_40_6 lk23 dX9_restore_150 ?_
                              refine lv_iconst (v := jI 5) hx hb dX9_restore_153 rfl ?_
                              refine lv_iload hx hb dX9_restore_154 (lv_at hl 6 rfl) ?_
                              refine x_imul hx hb dX9_restore_156 ?_
                              refine lv_iload hx hb dX9_restore_157 (lv_at hl 7 rfl) ?_
                              refine x_iadd hx hb dX9_restore_159 ?_
                              refine x_lald hx hb hK.1 hw (by omega) (by omega) ar_47 (len_E ar_47 (by decide)) (by omega) (by omega) (by omega) dX9_restore_160 ?_
                              have e72 : ∀ p9 q9 : Int, Xc 47 p9 q9 = X 47 p9 q9 := fun p9 q9 => by rw [hGXc 47 p9 q9 (show 4700 ∉ [5600] by decide), hX65, u3_k _ _ _ _ (by decide), hGXb 47 p9 q9 (show 4700 ∉ [5500, 5600] by decide), hGXa 47 p9 q9 (show 4700 ∉ [8500] by decide), hX1, u3_k _ _ _ _ (by decide)]
                              rw [e72 0 ((5 * (X 71 0 ((30 * sv) + r))) + k)]
                              have f73 : (-9223372036854775808) ≤ X 47 0 ((5 * (X 71 0 ((30 * sv) + r))) + k) ∧ X 47 0 ((5 * (X 71 0 ((30 * sv) + r))) + k) ≤ 9223372036854775807 := hR 47 0 ((5 * (X 71 0 ((30 * sv) + r))) + k)
                              refine x_last hx hb hK.1 hw hS (by omega) (by omega) ar_56 (len_E ar_56 (by decide)) (by omega) (by omega) (by omega) dX9_restore_161 (fun H locs hw hS => ?_)
                              obtain ⟨X74, hX74⟩ : ∃ Xq, Xq = u3 Xc 56 0 ((5 * ((X 40 0 13) + r)) + k) (X 47 0 ((5 * (X 71 0 ((30 * sv) + r))) + k)) := ⟨_, rfl⟩
                              rw [← hX74] at hw
                              have hRX74 : Rng X74 := by rw [hX74]; exact rng_set hRXc (show (-9223372036854775808) ≤ (X 47 0 ((5 * (X 71 0 ((30 * sv) + r))) + k)) ∧ (X 47 0 ((5 * (X 71 0 ((30 * sv) + r))) + k)) ≤ 9223372036854775807 by omega)
                              have hVX74 : X74 56 0 ((5 * ((X 40 0 13) + r)) + k) = (X 47 0 ((5 * (X 71 0 ((30 * sv) + r))) + k)) := by rw [hX74]; exact u3_s _ _ _ _ _
                              have hFX74 : Frm [4001, 4014, 5500, 5600, 4029, 6000, 5700, 5800, 5900, 8500, 4042, 4043, 4044] X X74 := by rw [hX74]; exact Frm.set hFXc (show 5600 ∈ [4001, 4014, 5500, 5600, 4029, 6000, 5700, 5800, 5900, 8500, 4042, 4043, 4044] by decide)
                              refine lv_iinc (v := jI (k + 1)) (lv' := [(7, .int (jI (k + 1))), (0, .ref (ad 40 0)), (1, .int (jI sv)), (2, .int (jI rule)), (3, .int (jI (X 40 0 13))), (4, .int (jI (X 70 0 sv))), (5, .int (jI r)), (6, .int (jI (X 71 0 ((30 * sv) + r))))]) hx hb dX9_restore_162 hl (k := 7) rfl (jI_add _ _) (by decide) rfl (fun ls hl => ?_)
                              refine lv_goto (tgt := 124) hx hb dX9_restore_165 (by decide) ?_
                              have q75 : Frm [5600] X65 Xc := Frm.tr Frm.rf (Frm.mono hGXc (by decide))
                              have q76 : Frm [5600] X65 X74 := by rw [hX74]; exact Frm.set q75 (show 5600 ∈ [5600] by decide)
                              exact ih124 (k + 1) X74 _ _ _ (by omega) hRX74 q76 (by omega) ((by rw [hX74]; exact hOl.s56 (by omega))) ((by rw [hX74]; exact hNw.s56 hR (by omega))) ((by rw [hX74, u3_k _ _ _ _ (by decide)]; exact hN5)) (fun q a b => if hq : q = k then (by rw [hq]; exact hVX74) else (by rw [hX74, u3_j _ _ _ _ (by omega)]; exact hNv q a (by omega))) hw hS (lv_sub hl [1, 2, 3, 4, 5, 6, 7, 0] rfl)
                        exact lp124 (5 - 0 : Int).toNat.succ 0 X65 _ _ _ (by omega) hRX65 Frm.rf (by omega) ((by rw [hX65]; exact hOl.s55 (by omega))) ((by rw [hX65]; exact hNw.s55 (by omega))) (hVX65) (fun q a b => by omega) hw hS (lv_sub hl [2, 3, 4, 5, 6, 7, 1, 0] rfl)
                  have q77 : Frm [4001, 8500] X X1 := by rw [hX1]; exact Frm.set Frm.rf (show 4001 ∈ [4001, 8500] by decide)
                  have q78 : Frm [4001, 8500] X Xa := Frm.tr q77 (Frm.mono hGXa (by decide))
                  exact lp89 (30 - 0 : Int).toNat.succ 0 Xa _ _ _ (by omega) hRXa Frm.rf (by omega) (Old.rf q78 (by decide)) (New.nil) hw hS (lv_sub hl [1, 2, 3, 4, 5, 0] rfl)
                · refine lv_aload_n hx hb dX9_restore_72 rfl (lv_at hl 0 rfl) ?_
                  refine x_geto hx hb hf9 hw (by omega) (by omega) sl_40_44 lk127 dX9_restore_73 ?_
                  refine lv_iload hx hb dX9_restore_76 (lv_at hl 5 rfl) ?_
                  refine lv_iconst (v := jI (-1)) hx hb dX9_restore_78 rfl ?_
                  refine x_iast hx hb hK.1 hw hS (by omega) (by omega) ar_85 (len_E ar_85 (by decide)) (by omega) (by omega) (by omega) dX9_restore_79 (fun H locs hw hS => ?_)
                  obtain ⟨X79, hX79⟩ : ∃ Xq, Xq = u3 Xa 85 0 k (-1) := ⟨_, rfl⟩
                  rw [← hX79] at hw
                  have hRX79 : Rng X79 := by rw [hX79]; exact rng_set hRXa (show (-1) ≤ (-1) ∧ (-1) ≤ 399 by omega)
                  have hVX79 : X79 85 0 k = (-1) := by rw [hX79]; exact u3_s _ _ _ _ _
                  have hFX79 : Frm [4001, 4014, 5500, 5600, 4029, 6000, 5700, 5800, 5900, 8500, 4042, 4043, 4044] X X79 := by rw [hX79]; exact Frm.set hFXa (show 8500 ∈ [4001, 4014, 5500, 5600, 4029, 6000, 5700, 5800, 5900, 8500, 4042, 4043, 4044] by decide)
                  refine lv_iinc (v := jI (k + 1)) (lv' := [(5, .int (jI (k + 1))), (0, .ref (ad 40 0)), (1, .int (jI sv)), (2, .int (jI rule)), (3, .int (jI (X 40 0 13))), (4, .int (jI (X 70 0 sv)))]) hx hb dX9_restore_80 hl (k := 5) rfl (jI_add _ _) (by decide) rfl (fun ls hl => ?_)
                  refine lv_goto (tgt := 64) hx hb dX9_restore_83 (by decide) ?_
                  have q80 : Frm [8500] X1 Xa := Frm.tr Frm.rf (Frm.mono hGXa (by decide))
                  have q81 : Frm [8500] X1 X79 := by rw [hX79]; exact Frm.set q80 (show 8500 ∈ [8500] by decide)
                  exact ih64 (k + 1) X79 _ _ _ (by omega) hRX79 q81 (by omega) hw hS (lv_sub hl [1, 2, 3, 4, 5, 0] rfl)
            exact lp64 (450 - 0 : Int).toNat.succ 0 X1 _ _ _ (by omega) hRX1 Frm.rf (by omega) hw hS (lv_sub hl [3, 4, 5, 2, 1, 0] rfl)
          · refine lv_bipush (v := jI (-4)) hx hb dX9_restore_58 (by decide) ?_
            refine ret_i (mc := 0) (ms := 0) hx hb hr hlocks hw hS (by omega) (by omega) dX9_restore_60 ?_
            have q83 : Frm [4001] X X1 := by rw [hX1]; exact Frm.set Frm.rf (show 4001 ∈ [4001] by decide)
            have hMq82 : MInv X1 := minv_frm hMI q83 (by decide)
            exact ⟨X1, rfl, hRX1, hFX1, hMq82, by omega⟩
        · refine lv_bipush (v := jI (-2)) hx hb dX9_restore_33 (by decide) ?_
          refine ret_i (mc := 0) (ms := 0) hx hb hr hlocks hw hS (by omega) (by omega) dX9_restore_35 ?_
          have q85 : Frm [4001] X X1 := by rw [hX1]; exact Frm.set Frm.rf (show 4001 ∈ [4001] by decide)
          have hMq84 : MInv X1 := minv_frm hMI q85 (by decide)
          exact ⟨X1, rfl, hRX1, hFX1, hMq84, by omega⟩
    · refine lv_iconst (v := jI (-1)) hx hb dX9_restore_22 rfl ?_
      refine ret_i (mc := 0) (ms := 0) hx hb hr hlocks hw hS (by omega) (by omega) dX9_restore_23 ?_
      have q87 : Frm [4001] X X1 := by rw [hX1]; exact Frm.set Frm.rf (show 4001 ∈ [4001] by decide)
      have hMq86 : MInv X1 := minv_frm hMI q87 (by decide)
      exact ⟨X1, rfl, hRX1, hFX1, hMq86, by omega⟩
  · subst ez2
    refine x_if_eqT (tgt := 22) hx hb (by omega) (by decide) dX9_restore_10 (by decide) ?_
    refine lv_iconst (v := jI (-1)) hx hb dX9_restore_22 rfl ?_
    refine ret_i (mc := 0) (ms := 0) hx hb hr hlocks hw hS (by omega) (by omega) dX9_restore_23 ?_
    have q89 : Frm [4001] X X1 := by rw [hX1]; exact Frm.set Frm.rf (show 4001 ∈ [4001] by decide)
    have hMq88 : MInv X1 := minv_frm hMI q89 (by decide)
    exact ⟨X1, rfl, hRX1, hFX1, hMq88, by omega⟩

set_option maxHeartbeats 4000000 in
set_option maxRecDepth 100000 in
theorem c_X9_differs (l : Launch) (D : va_G) (tc : Nat → ClassId) (base : Nat) (ad : Nat → Int → Nat) (cnt : Nat → Int) (X : Nat → Int → Int → Int) (Y : Nat → Int → Int → Option Int) (ln : Int → Int) (hR : Rng X) (hFx : Fx cnt) (hMI : MInv X) (sv x : Int) (hsv : -2147483648 ≤ sv ∧ sv ≤ 2147483647) (hx : -2147483648 ≤ x ∧ x ≤ 2147483647) : KI l D tc base yX9_differs wsX9_differs ({ frames := 2, cells := 0, slots := 0, locals := 53 } : Room) [.ref (ad 40 0), .int (jI sv), .int (jI x)] (ad, cnt, X, Y, ln) 0 0 (fun z u => ∃ X1 : Nat → Int → Int → Int, u = (ad, cnt, X1, Y, ln) ∧ Rng X1 ∧ Frm [4001, 7100, 7200, 7300, 7400, 7500, 8000, 7000, 8100, 7700, 7800, 7900, 7600, 4042, 4043, 4044] X X1 ∧ MInv X1 ∧ (-2147483648 ≤ z ∧ z ≤ 2147483647)) := by
  refine K_of (cc := cX9_differs) (maxL := 12) (ret := (some .int)) (by decide) rfl (Nat.le_of_ble_eq_true rfl) ?_
  intro p e s m below meth c ls hx hb hr hml hown hts hlocks hl hK hw hS
  have hown : s.vm.findClass RX9 = some m.cls := hown
  have hi9 : ∀ w ∈ wsX90, w ∈ wsX9_differs := fun w h => List.mem_cons_of_mem _ (List.mem_append_right _ h)
  have hf9 : fctx s m _ RX9 wsX9_differs D tc RX9 TX9 51 9 := ⟨hts, hi9, hown, hK.1, rfl⟩
  have lk81 := hts (.fieldLink RX9 81 "StateRecordsModel" "sMany" "[I") (by decide +kernel)
  have lk84 := hts (.fieldLink RX9 84 "StateRecordsModel" "sType" "[I") (by decide +kernel)
  have lk87 := hts (.fieldLink RX9 87 "StateRecordsModel" "sFields" "[I") (by decide +kernel)
  have lk90 := hts (.fieldLink RX9 90 "StateRecordsModel" "sName" "[I") (by decide +kernel)
  have lk93 := hts (.fieldLink RX9 93 "StateRecordsModel" "sLane" "[I") (by decide +kernel)
  have lk96 := hts (.fieldLink RX9 96 "StateRecordsModel" "sVal" "[J") (by decide +kernel)
  have lk145 := hts (.fieldLink RX9 145 "StateRecordsModel" "code" "I") (by decide +kernel)
  have hc40 : cnt 40 = 1 := hFx.at 40 1 (by decide)
  have hc70 : cnt 70 = 1 := hFx.at 70 1 (by decide)
  have hc71 : cnt 71 = 1 := hFx.at 71 1 (by decide)
  have hc72 : cnt 72 = 1 := hFx.at 72 1 (by decide)
  have hc73 : cnt 73 = 1 := hFx.at 73 1 (by decide)
  have hc74 : cnt 74 = 1 := hFx.at 74 1 (by decide)
  have hc75 : cnt 75 = 1 := hFx.at 75 1 (by decide)
  have hl : lv_has ls 12 [(0, .ref (ad 40 0)), (1, .int (jI sv)), (2, .int (jI x))] := hl
  have fstypes : 0 ≤ X 40 0 2 ∧ X 40 0 2 ≤ 8 := hR 40 0 2
  have fsthings : 0 ≤ X 40 0 13 ∧ X 40 0 13 ≤ 30 := hR 40 0 13
  have fsmarks : 0 ≤ X 40 0 20 ∧ X 40 0 20 ≤ 4 := hR 40 0 20
  have fsnotes : 0 ≤ X 40 0 22 ∧ X 40 0 22 ≤ 80 := hR 40 0 22
  refine lv_aload_n hx hb dX9_differs_0 rfl (lv_at hl 0 rfl) ?_
  refine lv_iconst (v := jI 0) hx hb dX9_differs_1 rfl ?_
  refine x_puti (jz := 0) hx hb hf9 ⟨tyX9_ok, nmX9⟩ hw hS (by omega) (by omega) sl_40_0 rfl lk145 rfl (tyX9_ok 0 (by decide)) rfl rfl dX9_differs_2 (fun H locs hw hS => ?_)
  obtain ⟨X1, hX1⟩ : ∃ Xq, Xq = u3 X 40 0 0 0 := ⟨_, rfl⟩
  rw [← hX1] at hw
  have hRX1 : Rng X1 := by rw [hX1]; exact rng_set hR (show (-2147483648) ≤ 0 ∧ 0 ≤ 2147483647 by omega)
  have hVX1 : X1 40 0 0 = 0 := by rw [hX1]; exact u3_s _ _ _ _ _
  have hFX1 : Frm [4001, 7100, 7200, 7300, 7400, 7500, 8000, 7000, 8100, 7700, 7800, 7900, 7600, 4042, 4043, 4044] X X1 := by rw [hX1]; exact Frm.set Frm.rf (show 4001 ∈ [4001, 7100, 7200, 7300, 7400, 7500, 8000, 7000, 8100, 7700, 7800, 7900, 7600, 4042, 4043, 4044] by decide)
  refine lv_aload_n hx hb dX9_differs_5 rfl (lv_at hl 0 rfl) ?_
  refine lv_iload_n hx hb dX9_differs_6 rfl (lv_at hl 1 rfl) ?_
  refine gos_i (run_V (As := [.int (jI sv)]) (rest := []) hx hb hml hown hts (c_X9_isSave l D tc base ad cnt X1 Y ln hRX1 hFx sv (by omega)) (cwV 1 hts gX9_differs_X9_isSave rfl rfl rfl (by decide +kernel) ⟨Nat.le_of_ble_eq_true rfl, Nat.le_of_ble_eq_true rfl⟩) hK hw (by omega) (by omega) sl_40_0 rfl rfl hl.1 rfl (Nat.le_of_ble_eq_true rfl) dX9_differs_7 ⟨Nat.le_of_ble_eq_true rfl, Nat.le_of_ble_eq_true rfl⟩) hS (fun z2 u3 H locs p4 hw hS => ?_)
  obtain ⟨eu3, p4⟩ := p4
  subst eu3
  rcases p4 with ⟨ez2, p4⟩ | ⟨ez2, p4⟩
  · subst ez2
    refine x_if_eqF (tgt := 30) hx hb (by omega) (by decide) dX9_differs_10 (by decide) ?_
    refine lv_aload_n hx hb dX9_differs_13 rfl (lv_at hl 0 rfl) ?_
    refine x_geto hx hb hf9 hw (by omega) (by omega) sl_40_29 lk81 dX9_differs_14 ?_
    refine lv_iload_n hx hb dX9_differs_17 rfl (lv_at hl 1 rfl) ?_
    refine x_iald hx hb hK.1 hw (by omega) (by omega) ar_70 (len_E ar_70 (by decide)) (by omega) (by omega) (by omega) dX9_differs_18 ?_
    have e5 : ∀ p9 q9 : Int, X1 70 p9 q9 = X 70 p9 q9 := fun p9 q9 => by rw [hX1, u3_k _ _ _ _ (by decide)]
    rw [e5 0 sv]
    have f6 : 0 ≤ X 70 0 sv ∧ X 70 0 sv ≤ 30 := hR 70 0 sv
    refine x_if_eq (tgt := 30) hx hb (by omega) dX9_differs_19 (by decide) (fun c7 => ?_) (fun c7 => ?_)
    · refine lv_bipush (v := jI (-2)) hx hb dX9_differs_30 (by decide) ?_
      refine ret_i (mc := 0) (ms := 0) hx hb hr hlocks hw hS (by omega) (by omega) dX9_differs_32 ?_
      have q9 : Frm [4001] X X1 := by rw [hX1]; exact Frm.set Frm.rf (show 4001 ∈ [4001] by decide)
      have hMq8 : MInv X1 := minv_frm hMI q9 (by decide)
      exact ⟨X1, rfl, hRX1, hFX1, hMq8, by omega⟩
    · refine lv_aload_n hx hb dX9_differs_22 rfl (lv_at hl 0 rfl) ?_
      refine lv_iload_n hx hb dX9_differs_23 rfl (lv_at hl 2 rfl) ?_
      refine gos_i (run_V (As := [.int (jI x)]) (rest := []) hx hb hml hown hts (c_X9_isThing l D tc base ad cnt X1 Y ln hRX1 hFx x (by omega)) (cwV 1 hts gX9_differs_X9_isThing rfl rfl rfl (by decide +kernel) ⟨Nat.le_of_ble_eq_true rfl, Nat.le_of_ble_eq_true rfl⟩) hK hw (by omega) (by omega) sl_40_0 rfl rfl hl.1 rfl (Nat.le_of_ble_eq_true rfl) dX9_differs_24 ⟨Nat.le_of_ble_eq_true rfl, Nat.le_of_ble_eq_true rfl⟩) hS (fun z10 u11 H locs p12 hw hS => ?_)
      obtain ⟨eu11, p12⟩ := p12
      subst eu11
      have e13 : X1 40 0 13 = X 40 0 13 := by rw [hX1, u3_j _ _ _ _ (by decide)]
      simp only [e13] at p12
      rcases p12 with ⟨ez10, p12⟩ | ⟨ez10, p12⟩
      · subst ez10
        refine x_if_neT (tgt := 33) hx hb (by omega) (by decide) dX9_differs_27 (by decide) ?_
        refine lv_aload_n hx hb dX9_differs_33 rfl (lv_at hl 0 rfl) ?_
        refine lv_iload_n hx hb dX9_differs_34 rfl (lv_at hl 2 rfl) ?_
        refine lv_iconst (v := jI 0) hx hb dX9_differs_35 rfl ?_
        have q15 : Frm [4001] X X1 := by rw [hX1]; exact Frm.set Frm.rf (show 4001 ∈ [4001] by decide)
        have hMq14 : MInv X1 := minv_frm hMI q15 (by decide)
        have e16 : X1 40 0 13 = X 40 0 13 := by rw [hX1, u3_j _ _ _ _ (by decide)]
        refine gos_i (run_V (As := [.int (jI x), .int (jI 0)]) (rest := []) hx hb hml hown hts (c_X9_saves l D tc base ad cnt X1 Y ln hRX1 hFx hMq14 x 0 (by omega) (by simp only [e16]; omega) (by omega)) (cwV 2 hts gX9_differs_X9_saves rfl rfl rfl (by decide +kernel) ⟨Nat.le_of_ble_eq_true rfl, Nat.le_of_ble_eq_true rfl⟩) hK hw (by omega) (by omega) sl_40_0 rfl rfl hl.1 rfl (Nat.le_of_ble_eq_true rfl) dX9_differs_36 ⟨Nat.le_of_ble_eq_true rfl, Nat.le_of_ble_eq_true rfl⟩) hS (fun z17 u18 H locs p19 hw hS => ?_)
        obtain ⟨X20, eu18, hRX20, hG21, hMIX20, p19, h4X20, hcX20⟩ := p19
        subst eu18
        have hFX20 : Frm [4001, 7100, 7200, 7300, 7400, 7500, 8000, 7000, 8100, 7700, 7800, 7900, 7600, 4042, 4043, 4044] X X20 := Frm.tr hFX1 (Frm.mono hG21 (by decide))
        refine lv_pop hx hb dX9_differs_39 rfl ?_
        refine lv_aload_n hx hb dX9_differs_40 rfl (lv_at hl 0 rfl) ?_
        refine x_geto hx hb hf9 hw (by omega) (by omega) sl_40_29 lk81 dX9_differs_41 ?_
        refine lv_iload_n hx hb dX9_differs_44 rfl (lv_at hl 1 rfl) ?_
        refine x_iald hx hb hK.1 hw (by omega) (by omega) ar_70 (len_E ar_70 (by decide)) (by omega) (by omega) (by omega) dX9_differs_45 ?_
        have f22 : 0 ≤ X20 70 0 sv ∧ X20 70 0 sv ≤ 30 := hRX20 70 0 sv
        refine lv_aload_n hx hb dX9_differs_46 rfl (lv_at hl 0 rfl) ?_
        refine x_geto hx hb hf9 hw (by omega) (by omega) sl_40_29 lk81 dX9_differs_47 ?_
        refine lv_iconst (v := jI 4) hx hb dX9_differs_50 rfl ?_
        refine x_iald hx hb hK.1 hw (by omega) (by omega) ar_70 (len_E ar_70 (by decide)) (by omega) (by omega) (by omega) dX9_differs_51 ?_
        have f23 : 0 ≤ X20 70 0 4 ∧ X20 70 0 4 ≤ 30 := hRX20 70 0 4
        refine x_icmp_le (tgt := 64) hx hb (by omega) (by omega) dX9_differs_52 (by decide) (fun c24 => ?_) (fun c24 => ?_)
        · refine lv_aload_n hx hb dX9_differs_64 rfl (lv_at hl 0 rfl) ?_
          refine x_geto hx hb hf9 hw (by omega) (by omega) sl_40_29 lk81 dX9_differs_65 ?_
          refine lv_iconst (v := jI 4) hx hb dX9_differs_68 rfl ?_
          refine x_iald hx hb hK.1 hw (by omega) (by omega) ar_70 (len_E ar_70 (by decide)) (by omega) (by omega) (by omega) dX9_differs_69 ?_
          have f25 : 0 ≤ X20 70 0 4 ∧ X20 70 0 4 ≤ 30 := hRX20 70 0 4
          refine lv_istore_n (lv' := [(3, .int (jI (X20 70 0 4))), (0, .ref (ad 40 0)), (1, .int (jI sv)), (2, .int (jI x))]) hx hb dX9_differs_70 rfl hl (by decide) rfl (fun ls hl => ?_)
          refine lv_iconst (v := jI 0) hx hb dX9_differs_71 rfl ?_
          refine lv_istore (lv' := [(4, .int (jI 0)), (3, .int (jI (X20 70 0 4))), (0, .ref (ad 40 0)), (1, .int (jI sv)), (2, .int (jI x))]) hx hb dX9_differs_72 hl (by decide) rfl (fun ls hl => ?_)
          have lp74 : ∀ (nn : Nat) (nz : Int) (r : Int) (H : Heap) (locs : List Loc) (ls : Array Slot), (30 - r) < (nn : Int) → (0 ≤ nz ∧ nz ≤ 30) → (0 ≤ r ∧ r ≤ 30) → wd D tc base (ad, cnt, X20, Y, ln) H → va_S (frA base) s.heap H locs → lv_has ls 12 [(0, .ref (ad 40 0)), (1, .int (jI sv)), (2, .int (jI x)), (3, .int (jI nz)), (4, .int (jI r))] → W p l e ({ frames := 2, cells := 0, slots := 0, locals := 53 } : Room) s m ([.ref (ad 40 0), .int (jI sv), .int (jI x)] : List Value).toArray below meth c H locs 0 0 (MQ below (QI D tc base (fun z u => ∃ X1 : Nat → Int → Int → Int, u = (ad, cnt, X1, Y, ln) ∧ Rng X1 ∧ Frm [4001, 7100, 7200, 7300, 7400, 7500, 8000, 7000, 8100, 7700, 7800, 7900, 7600, 4042, 4043, 4044] X X1 ∧ MInv X1 ∧ (-2147483648 ≤ z ∧ z ≤ 2147483647))) ([.ref (ad 40 0), .int (jI sv), .int (jI x)] : List Value).toArray s 0 0 (frA base)) (F0 m 74 ls []) := by
            intro nn
            induction nn with
            | zero => intro nz r H locs ls hm hnz hr0 hw hS hl; exfalso; omega
            | succ nn ih74 =>
              intro nz r H locs ls hm hnz hr0 hw hS hl
              refine lv_iload hx hb dX9_differs_74 (lv_at hl 4 rfl) ?_
              refine lv_iload_n hx hb dX9_differs_76 rfl (lv_at hl 3 rfl) ?_
              refine x_icmp_ge (tgt := 417) hx hb (by omega) (by omega) dX9_differs_77 (by decide) (fun c26 => ?_) (fun c26 => ?_)
              · refine lv_iconst (v := jI (-1)) hx hb dX9_differs_417 rfl ?_
                refine ret_i (mc := 0) (ms := 0) hx hb hr hlocks hw hS (by omega) (by omega) dX9_differs_418 ?_
                exact ⟨X20, rfl, hRX20, hFX20, hMIX20, by omega⟩
              · refine lv_iload hx hb dX9_differs_80 (lv_at hl 4 rfl) ?_
                refine lv_aload_n hx hb dX9_differs_82 rfl (lv_at hl 0 rfl) ?_
                refine x_geto hx hb hf9 hw (by omega) (by omega) sl_40_29 lk81 dX9_differs_83 ?_
                refine lv_iload_n hx hb dX9_differs_86 rfl (lv_at hl 1 rfl) ?_
                refine x_iald hx hb hK.1 hw (by omega) (by omega) ar_70 (len_E ar_70 (by decide)) (by omega) (by omega) (by omega) dX9_differs_87 ?_
                have f27 : 0 ≤ X20 70 0 sv ∧ X20 70 0 sv ≤ 30 := hRX20 70 0 sv
                refine x_icmp_ge (tgt := 102) hx hb (by omega) (by omega) dX9_differs_88 (by decide) (fun c28 => ?_) (fun c28 => ?_)
                · refine lv_bipush (v := jI 100) hx hb dX9_differs_102 (by decide) ?_
                  refine lv_iload hx hb dX9_differs_104 (lv_at hl 4 rfl) ?_
                  refine x_imul hx hb dX9_differs_106 ?_
                  refine lv_bipush (v := jI 99) hx hb dX9_differs_107 (by decide) ?_
                  refine x_iadd hx hb dX9_differs_109 ?_
                  refine ret_i (mc := 0) (ms := 0) hx hb hr hlocks hw hS (by omega) (by omega) dX9_differs_110 ?_
                  exact ⟨X20, rfl, hRX20, hFX20, hMIX20, by omega⟩
                · refine lv_iload hx hb dX9_differs_91 (lv_at hl 4 rfl) ?_
                  refine lv_aload_n hx hb dX9_differs_93 rfl (lv_at hl 0 rfl) ?_
                  refine x_geto hx hb hf9 hw (by omega) (by omega) sl_40_29 lk81 dX9_differs_94 ?_
                  refine lv_iconst (v := jI 4) hx hb dX9_differs_97 rfl ?_
                  refine x_iald hx hb hK.1 hw (by omega) (by omega) ar_70 (len_E ar_70 (by decide)) (by omega) (by omega) (by omega) dX9_differs_98 ?_
                  have f29 : 0 ≤ X20 70 0 4 ∧ X20 70 0 4 ≤ 30 := hRX20 70 0 4
                  refine x_icmp_lt (tgt := 111) hx hb (by omega) (by omega) dX9_differs_99 (by decide) (fun c30 => ?_) (fun c30 => ?_)
                  · refine lv_bipush (v := jI 30) hx hb dX9_differs_111 (by decide) ?_
                    refine lv_iload_n hx hb dX9_differs_113 rfl (lv_at hl 1 rfl) ?_
                    refine x_imul hx hb dX9_differs_114 ?_
                    refine lv_iload hx hb dX9_differs_115 (lv_at hl 4 rfl) ?_
                    refine x_iadd hx hb dX9_differs_117 ?_
                    refine lv_istore (lv' := [(5, .int (jI ((30 * sv) + r))), (0, .ref (ad 40 0)), (1, .int (jI sv)), (2, .int (jI x)), (3, .int (jI nz)), (4, .int (jI r))]) hx hb dX9_differs_118 hl (by decide) rfl (fun ls hl => ?_)
                    refine lv_bipush (v := jI 120) hx hb dX9_differs_120 (by decide) ?_
                    refine lv_iload hx hb dX9_differs_122 (lv_at hl 5 rfl) ?_
                    refine x_iadd hx hb dX9_differs_124 ?_
                    refine lv_istore (lv' := [(6, .int (jI (120 + r))), (5, .int (jI ((30 * sv) + r))), (0, .ref (ad 40 0)), (1, .int (jI sv)), (2, .int (jI x)), (3, .int (jI nz)), (4, .int (jI r))]) hx hb dX9_differs_125 hl (by decide) rfl (fun ls hl => ?_)
                    refine lv_aload_n hx hb dX9_differs_127 rfl (lv_at hl 2 rfl) ?_
                    refine x_geto hx hb hf9 hw (by omega) (by omega) sl_40_30 lk84 dX9_differs_128 ?_
                    refine lv_iload hx hb dX9_differs_131 (lv_at hl 1 rfl) ?_
                    refine x_iald hx hb hK.1 hw (by omega) (by omega) ar_71 (len_E ar_71 (by decide)) (by omega) (by omega) (by omega) dX9_differs_133 ?_
                    have f31 : 0 ≤ X20 71 0 ((30 * sv) + r) ∧ X20 71 0 ((30 * sv) + r) ≤ 7 := hRX20 71 0 ((30 * sv) + r)
                    refine lv_aload_n hx hb dX9_differs_134 rfl (lv_at hl 2 rfl) ?_
                    refine x_geto hx hb hf9 hw (by omega) (by omega) sl_40_30 lk84 dX9_differs_135 ?_
                    refine lv_iload hx hb dX9_differs_138 (lv_at hl 0 rfl) ?_
                    refine x_iald hx hb hK.1 hw (by omega) (by omega) ar_71 (len_E ar_71 (by decide)) (by omega) (by omega) (by omega) dX9_differs_140 ?_
                    have f32 : 0 ≤ X20 71 0 (120 + r) ∧ X20 71 0 (120 + r) ≤ 7 := hRX20 71 0 (120 + r)
                    refine x_icmp_ne (tgt := 165) hx hb (by omega) (by omega) dX9_differs_141 (by decide) (fun c33 => ?_) (fun c33 => ?_)
                    · refine lv_iconst (v := jI 0) hx hb dX9_differs_165 rfl ?_
                      refine lv_istore (lv' := [(7, .int (jI 0)), (6, .int (jI (120 + r))), (5, .int (jI ((30 * sv) + r))), (0, .ref (ad 40 0)), (1, .int (jI sv)), (2, .int (jI x)), (3, .int (jI nz)), (4, .int (jI r))]) hx hb dX9_differs_166 hl (by decide) rfl (fun ls hl => ?_)
                      refine lv_iconst (v := jI 0) hx hb dX9_differs_168 rfl ?_
                      refine lv_istore (lv' := [(8, .int (jI 0)), (7, .int (jI 0)), (6, .int (jI (120 + r))), (5, .int (jI ((30 * sv) + r))), (0, .ref (ad 40 0)), (1, .int (jI sv)), (2, .int (jI x)), (3, .int (jI nz)), (4, .int (jI r))]) hx hb dX9_differs_169 hl (by decide) rfl (fun ls hl => ?_)
                      have lp171 : ∀ (nn : Nat) (sm : Int) (k : Int) (H : Heap) (locs : List Loc) (ls : Array Slot), (5 - k) < (nn : Int) → (0 ≤ sm ∧ sm ≤ 1) → (0 ≤ k ∧ k ≤ 5) → wd D tc base (ad, cnt, X20, Y, ln) H → va_S (frA base) s.heap H locs → lv_has ls 12 [(0, .ref (ad 40 0)), (1, .int (jI sv)), (2, .int (jI x)), (3, .int (jI nz)), (4, .int (jI r)), (5, .int (jI ((30 * sv) + r))), (6, .int (jI (120 + r))), (7, .int (jI sm)), (8, .int (jI k))] → W p l e ({ frames := 2, cells := 0, slots := 0, locals := 53 } : Room) s m ([.ref (ad 40 0), .int (jI sv), .int (jI x)] : List Value).toArray below meth c H locs 0 0 (MQ below (QI D tc base (fun z u => ∃ X1 : Nat → Int → Int → Int, u = (ad, cnt, X1, Y, ln) ∧ Rng X1 ∧ Frm [4001, 7100, 7200, 7300, 7400, 7500, 8000, 7000, 8100, 7700, 7800, 7900, 7600, 4042, 4043, 4044] X X1 ∧ MInv X1 ∧ (-2147483648 ≤ z ∧ z ≤ 2147483647))) ([.ref (ad 40 0), .int (jI sv), .int (jI x)] : List Value).toArray s 0 0 (frA base)) (F0 m 171 ls []) := by
                        intro nn
                        induction nn with
                        | zero => intro sm k H locs ls hm hsm hk hw hS hl; exfalso; omega
                        | succ nn ih171 =>
                          intro sm k H locs ls hm hsm hk hw hS hl
                          refine lv_iload hx hb dX9_differs_171 (lv_at hl 7 rfl) ?_
                          refine x_if_eq (tgt := 255) hx hb (by omega) dX9_differs_173 (by decide) (fun c34 => ?_) (fun c34 => ?_)
                          · refine lv_iload hx hb dX9_differs_255 (lv_at hl 7 rfl) ?_
                            refine x_if_ne (tgt := 269) hx hb (by omega) dX9_differs_257 (by decide) (fun c35 => ?_) (fun c35 => ?_)
                            · refine lv_iconst (v := jI 0) hx hb dX9_differs_269 rfl ?_
                              refine lv_istore (lv' := [(8, .int (jI 0)), (0, .ref (ad 40 0)), (1, .int (jI sv)), (2, .int (jI x)), (3, .int (jI nz)), (4, .int (jI r)), (5, .int (jI ((30 * sv) + r))), (6, .int (jI (120 + r))), (7, .int (jI sm))]) hx hb dX9_differs_270 hl (by decide) rfl (fun ls hl => ?_)
                              have lp272 : ∀ (nn : Nat) (k : Int) (H : Heap) (locs : List Loc) (ls : Array Slot), (5 - k) < (nn : Int) → (0 ≤ k ∧ k ≤ 5) → wd D tc base (ad, cnt, X20, Y, ln) H → va_S (frA base) s.heap H locs → lv_has ls 12 [(0, .ref (ad 40 0)), (1, .int (jI sv)), (2, .int (jI x)), (3, .int (jI nz)), (4, .int (jI r)), (5, .int (jI ((30 * sv) + r))), (6, .int (jI (120 + r))), (8, .int (jI k))] → W p l e ({ frames := 2, cells := 0, slots := 0, locals := 53 } : Room) s m ([.ref (ad 40 0), .int (jI sv), .int (jI x)] : List Value).toArray below meth c H locs 0 0 (MQ below (QI D tc base (fun z u => ∃ X1 : Nat → Int → Int → Int, u = (ad, cnt, X1, Y, ln) ∧ Rng X1 ∧ Frm [4001, 7100, 7200, 7300, 7400, 7500, 8000, 7000, 8100, 7700, 7800, 7900, 7600, 4042, 4043, 4044] X X1 ∧ MInv X1 ∧ (-2147483648 ≤ z ∧ z ≤ 2147483647))) ([.ref (ad 40 0), .int (jI sv), .int (jI x)] : List Value).toArray s 0 0 (frA base)) (F0 m 272 ls []) := by
                                intro nn
                                induction nn with
                                | zero => intro k H locs ls hm hk hw hS hl; exfalso; omega
                                | succ nn ih272 =>
                                  intro k H locs ls hm hk hw hS hl
                                  refine lv_iload hx hb dX9_differs_272 (lv_at hl 7 rfl) ?_
                                  refine lv_aload_n hx hb dX9_differs_274 rfl (lv_at hl 0 rfl) ?_
                                  refine x_geto hx hb hf9 hw (by omega) (by omega) sl_40_31 lk87 dX9_differs_275 ?_
                                  refine lv_iload hx hb dX9_differs_278 (lv_at hl 5 rfl) ?_
                                  refine x_iald hx hb hK.1 hw (by omega) (by omega) ar_72 (len_E ar_72 (by decide)) (by omega) (by omega) (by omega) dX9_differs_280 ?_
                                  have f36 : 0 ≤ X20 72 0 ((30 * sv) + r) ∧ X20 72 0 ((30 * sv) + r) ≤ 5 := hRX20 72 0 ((30 * sv) + r)
                                  refine x_icmp_ge (tgt := 411) hx hb (by omega) (by omega) dX9_differs_281 (by decide) (fun c37 => ?_) (fun c37 => ?_)
                                  · refine lv_iinc (v := jI (r + 1)) (lv' := [(4, .int (jI (r + 1))), (0, .ref (ad 40 0)), (1, .int (jI sv)), (2, .int (jI x)), (3, .int (jI nz)), (5, .int (jI ((30 * sv) + r))), (6, .int (jI (120 + r))), (8, .int (jI k))]) hx hb dX9_differs_411 hl (k := 4) rfl (jI_add _ _) (by decide) rfl (fun ls hl => ?_)
                                    refine lv_goto (tgt := 74) hx hb dX9_differs_414 (by decide) ?_
                                    exact ih74 nz (r + 1) _ _ _ (by omega) (by omega) (by omega) hw hS (lv_sub hl [1, 2, 3, 4, 0] rfl)
                                  · refine lv_aload_n hx hb dX9_differs_284 rfl (lv_at hl 0 rfl) ?_
                                    refine x_geto hx hb hf9 hw (by omega) (by omega) sl_40_34 lk96 dX9_differs_285 ?_
                                    refine lv_iconst (v := jI 5) hx hb dX9_differs_288 rfl ?_
                                    refine lv_iload hx hb dX9_differs_289 (lv_at hl 5 rfl) ?_
                                    refine x_imul hx hb dX9_differs_291 ?_
                                    refine lv_iload hx hb dX9_differs_292 (lv_at hl 7 rfl) ?_
                                    refine x_iadd hx hb dX9_differs_294 ?_
                                    obtain ⟨hv1, hv2, hv3⟩ := (hMIX20.2.2.1 sv r (by omega) (by omega) (by omega) (by omega)).2 k (by omega) (by omega)
                                    refine x_lald hx hb hK.1 hw (by omega) (by omega) ar_75 (len_E ar_75 (by decide)) (by omega) (by omega) (by omega) dX9_differs_295 ?_
                                    have f38 : (-9223372036854775808) ≤ X20 75 0 ((5 * ((30 * sv) + r)) + k) ∧ X20 75 0 ((5 * ((30 * sv) + r)) + k) ≤ 9223372036854775807 := hRX20 75 0 ((5 * ((30 * sv) + r)) + k)
                                    refine lv_lstore (lv' := [(9, .long (jL (X20 75 0 ((5 * ((30 * sv) + r)) + k)))), (0, .ref (ad 40 0)), (1, .int (jI sv)), (2, .int (jI x)), (3, .int (jI nz)), (4, .int (jI r)), (5, .int (jI ((30 * sv) + r))), (6, .int (jI (120 + r))), (8, .int (jI k))]) hx hb dX9_differs_296 hl (by decide) rfl (fun ls hl => ?_)
                                    refine lv_lload hx hb dX9_differs_298 (lv_at hl 0 rfl) ?_
                                    refine lv_aload_n hx hb dX9_differs_300 rfl (lv_at hl 1 rfl) ?_
                                    refine x_geto hx hb hf9 hw (by omega) (by omega) sl_40_34 lk96 dX9_differs_301 ?_
                                    refine lv_iconst (v := jI 5) hx hb dX9_differs_304 rfl ?_
                                    refine lv_iload hx hb dX9_differs_305 (lv_at hl 7 rfl) ?_
                                    refine x_imul hx hb dX9_differs_307 ?_
                                    refine lv_iload hx hb dX9_differs_308 (lv_at hl 8 rfl) ?_
                                    refine x_iadd hx hb dX9_differs_310 ?_
                                    refine x_lald hx hb hK.1 hw (by omega) (by omega) ar_75 (len_E ar_75 (by decide)) (by omega) (by omega) (by omega) dX9_differs_311 ?_
                                    have f39 : (-9223372036854775808) ≤ X20 75 0 ((5 * (120 + r)) + k) ∧ X20 75 0 ((5 * (120 + r)) + k) ≤ 9223372036854775807 := hRX20 75 0 ((5 * (120 + r)) + k)
                                    refine x_lcmp hx hb (by omega) (by omega) dX9_differs_312 ?_
                                    obtain ⟨z40, ez40⟩ : ∃ y : Int, y = cmpZ (X20 75 0 ((5 * ((30 * sv) + r)) + k)) (X20 75 0 ((5 * (120 + r)) + k)) := ⟨_, rfl⟩
                                    rw [← ez40]
                                    have gz40 : (z40 < 0 ↔ ((X20 75 0 ((5 * ((30 * sv) + r)) + k)) : Int) < (X20 75 0 ((5 * (120 + r)) + k))) ∧ (z40 = 0 ↔ ((X20 75 0 ((5 * ((30 * sv) + r)) + k)) : Int) = (X20 75 0 ((5 * (120 + r)) + k))) ∧ -1 ≤ z40 ∧ z40 ≤ 1 := by rw [ez40]; exact ⟨cmpZ_lt, cmpZ_eq, (cmpZ_r _ _).1, (cmpZ_r _ _).2⟩
                                    clear ez40
                                    refine x_if_eq (tgt := 320) hx hb (by omega) dX9_differs_313 (by decide) (fun c41 => ?_) (fun c41 => ?_)
                                    · refine lv_iconst (v := jI 0) hx hb dX9_differs_320 rfl ?_
                                      refine lv_istore (lv' := [(11, .int (jI 0)), (9, .long (jL (X20 75 0 ((5 * ((30 * sv) + r)) + k)))), (0, .ref (ad 40 0)), (1, .int (jI sv)), (2, .int (jI x)), (3, .int (jI nz)), (4, .int (jI r)), (5, .int (jI ((30 * sv) + r))), (6, .int (jI (120 + r))), (8, .int (jI k))]) hx hb dX9_differs_321 hl (by decide) rfl (fun ls hl => ?_)
                                      refine lv_iload hx hb dX9_differs_323 (lv_at hl 0 rfl) ?_
                                      refine x_if_neF (tgt := 374) hx hb (by omega) (by decide) dX9_differs_325 (by decide) ?_
                                      refine lv_aload_n hx hb dX9_differs_328 rfl (lv_at hl 2 rfl) ?_
                                      refine x_geto hx hb hf9 hw (by omega) (by omega) sl_40_33 lk93 dX9_differs_329 ?_
                                      refine lv_iconst (v := jI 5) hx hb dX9_differs_332 rfl ?_
                                      refine lv_iload hx hb dX9_differs_333 (lv_at hl 7 rfl) ?_
                                      refine x_imul hx hb dX9_differs_335 ?_
                                      refine lv_iload hx hb dX9_differs_336 (lv_at hl 9 rfl) ?_
                                      refine x_iadd hx hb dX9_differs_338 ?_
                                      refine x_iald hx hb hK.1 hw (by omega) (by omega) ar_74 (len_E ar_74 (by decide)) (by omega) (by omega) (by omega) dX9_differs_339 ?_
                                      have f42 : 0 ≤ X20 74 0 ((5 * ((30 * sv) + r)) + k) ∧ X20 74 0 ((5 * ((30 * sv) + r)) + k) ≤ 5 := hRX20 74 0 ((5 * ((30 * sv) + r)) + k)
                                      refine lv_iconst (v := jI 2) hx hb dX9_differs_340 rfl ?_
                                      refine x_icmp_le (tgt := 378) hx hb (by omega) (by omega) dX9_differs_341 (by decide) (fun c43 => ?_) (fun c43 => ?_)
                                      · refine lv_iconst (v := jI 0) hx hb dX9_differs_378 rfl ?_
                                        refine lv_istore (lv' := [(11, .int (jI 0)), (9, .long (jL (X20 75 0 ((5 * ((30 * sv) + r)) + k)))), (0, .ref (ad 40 0)), (1, .int (jI sv)), (2, .int (jI x)), (3, .int (jI nz)), (4, .int (jI r)), (5, .int (jI ((30 * sv) + r))), (6, .int (jI (120 + r))), (8, .int (jI k))]) hx hb dX9_differs_379 hl (by decide) rfl (fun ls hl => ?_)
                                        refine lv_iload hx hb dX9_differs_381 (lv_at hl 0 rfl) ?_
                                        refine x_if_eqT (tgt := 405) hx hb (by omega) (by decide) dX9_differs_383 (by decide) ?_
                                        refine lv_iinc (v := jI (k + 1)) (lv' := [(8, .int (jI (k + 1))), (11, .int (jI 0)), (9, .long (jL (X20 75 0 ((5 * ((30 * sv) + r)) + k)))), (0, .ref (ad 40 0)), (1, .int (jI sv)), (2, .int (jI x)), (3, .int (jI nz)), (4, .int (jI r)), (5, .int (jI ((30 * sv) + r))), (6, .int (jI (120 + r)))]) hx hb dX9_differs_405 hl (k := 9) rfl (jI_add _ _) (by decide) rfl (fun ls hl => ?_)
                                        refine lv_goto (tgt := 272) hx hb dX9_differs_408 (by decide) ?_
                                        exact ih272 (k + 1) _ _ _ (by omega) (by omega) hw hS (lv_sub hl [3, 4, 5, 6, 7, 8, 9, 0] rfl)
                                      · refine lv_lload hx hb dX9_differs_344 (lv_at hl 1 rfl) ?_
                                        refine lv_lconst (v := jL 0) hx hb dX9_differs_346 (by decide) ?_
                                        refine x_lcmp hx hb (by omega) (by omega) dX9_differs_347 ?_
                                        obtain ⟨z44, ez44⟩ : ∃ y : Int, y = cmpZ (X20 75 0 ((5 * ((30 * sv) + r)) + k)) 0 := ⟨_, rfl⟩
                                        rw [← ez44]
                                        have gz44 : (z44 < 0 ↔ ((X20 75 0 ((5 * ((30 * sv) + r)) + k)) : Int) < 0) ∧ (z44 = 0 ↔ ((X20 75 0 ((5 * ((30 * sv) + r)) + k)) : Int) = 0) ∧ -1 ≤ z44 ∧ z44 ≤ 1 := by rw [ez44]; exact ⟨cmpZ_lt, cmpZ_eq, (cmpZ_r _ _).1, (cmpZ_r _ _).2⟩
                                        clear ez44
                                        refine x_if_lt (tgt := 378) hx hb (by omega) dX9_differs_348 (by decide) (fun c45 => ?_) (fun c45 => ?_)
                                        · refine lv_iconst (v := jI 0) hx hb dX9_differs_378 rfl ?_
                                          refine lv_istore (lv' := [(11, .int (jI 0)), (9, .long (jL (X20 75 0 ((5 * ((30 * sv) + r)) + k)))), (0, .ref (ad 40 0)), (1, .int (jI sv)), (2, .int (jI x)), (3, .int (jI nz)), (4, .int (jI r)), (5, .int (jI ((30 * sv) + r))), (6, .int (jI (120 + r))), (8, .int (jI k))]) hx hb dX9_differs_379 hl (by decide) rfl (fun ls hl => ?_)
                                          refine lv_iload hx hb dX9_differs_381 (lv_at hl 0 rfl) ?_
                                          refine x_if_eqT (tgt := 405) hx hb (by omega) (by decide) dX9_differs_383 (by decide) ?_
                                          refine lv_iinc (v := jI (k + 1)) (lv' := [(8, .int (jI (k + 1))), (11, .int (jI 0)), (9, .long (jL (X20 75 0 ((5 * ((30 * sv) + r)) + k)))), (0, .ref (ad 40 0)), (1, .int (jI sv)), (2, .int (jI x)), (3, .int (jI nz)), (4, .int (jI r)), (5, .int (jI ((30 * sv) + r))), (6, .int (jI (120 + r)))]) hx hb dX9_differs_405 hl (k := 9) rfl (jI_add _ _) (by decide) rfl (fun ls hl => ?_)
                                          refine lv_goto (tgt := 272) hx hb dX9_differs_408 (by decide) ?_
                                          exact ih272 (k + 1) _ _ _ (by omega) (by omega) hw hS (lv_sub hl [3, 4, 5, 6, 7, 8, 9, 0] rfl)
                                        · refine lv_aload_n hx hb dX9_differs_351 rfl (lv_at hl 2 rfl) ?_
                                          refine lv_sipush (v := jI 150) hx hb dX9_differs_352 (by decide) ?_
                                          refine lv_iload_n hx hb dX9_differs_355 rfl (lv_at hl 3 rfl) ?_
                                          refine x_imul hx hb dX9_differs_356 ?_
                                          refine lv_lload hx hb dX9_differs_357 (lv_at hl 1 rfl) ?_
                                          refine x_l2i hx hb dX9_differs_359 ?_
                                          refine x_iadd hx hb dX9_differs_360 ?_
                                          refine lv_sipush (v := jI 600) hx hb dX9_differs_361 (by decide) ?_
                                          refine lv_lload hx hb dX9_differs_364 (lv_at hl 1 rfl) ?_
                                          refine x_l2i hx hb dX9_differs_366 ?_
                                          refine x_iadd hx hb dX9_differs_367 ?_
                                          refine gos_i (run_V (As := [.int (jI ((150 * sv) + (X20 75 0 ((5 * ((30 * sv) + r)) + k)))), .int (jI (600 + (X20 75 0 ((5 * ((30 * sv) + r)) + k))))]) (rest := []) hx hb hml hown hts (c_X9_rowsDiffer l D tc base ad cnt X20 Y ln hRX20 hFx hMIX20 ((150 * sv) + (X20 75 0 ((5 * ((30 * sv) + r)) + k))) (600 + (X20 75 0 ((5 * ((30 * sv) + r)) + k))) (by omega) (by omega)) (cwV 2 hts gX9_differs_X9_rowsDiffer rfl rfl rfl (by decide +kernel) ⟨Nat.le_of_ble_eq_true rfl, Nat.le_of_ble_eq_true rfl⟩) hK hw (by omega) (by omega) sl_40_0 rfl rfl hl.1 rfl (Nat.le_of_ble_eq_true rfl) dX9_differs_368 ⟨Nat.le_of_ble_eq_true rfl, Nat.le_of_ble_eq_true rfl⟩) hS (fun z46 u47 H locs p48 hw hS => ?_)
                                          obtain ⟨eu47, p48⟩ := p48
                                          subst eu47
                                          refine x_if_eq (tgt := 378) hx hb (by omega) dX9_differs_371 (by decide) (fun c49 => ?_) (fun c49 => ?_)
                                          · refine lv_iconst (v := jI 0) hx hb dX9_differs_378 rfl ?_
                                            refine lv_istore (lv' := [(11, .int (jI 0)), (9, .long (jL (X20 75 0 ((5 * ((30 * sv) + r)) + k)))), (0, .ref (ad 40 0)), (1, .int (jI sv)), (2, .int (jI x)), (3, .int (jI nz)), (4, .int (jI r)), (5, .int (jI ((30 * sv) + r))), (6, .int (jI (120 + r))), (8, .int (jI k))]) hx hb dX9_differs_379 hl (by decide) rfl (fun ls hl => ?_)
                                            refine lv_iload hx hb dX9_differs_381 (lv_at hl 0 rfl) ?_
                                            refine x_if_eqT (tgt := 405) hx hb (by omega) (by decide) dX9_differs_383 (by decide) ?_
                                            refine lv_iinc (v := jI (k + 1)) (lv' := [(8, .int (jI (k + 1))), (11, .int (jI 0)), (9, .long (jL (X20 75 0 ((5 * ((30 * sv) + r)) + k)))), (0, .ref (ad 40 0)), (1, .int (jI sv)), (2, .int (jI x)), (3, .int (jI nz)), (4, .int (jI r)), (5, .int (jI ((30 * sv) + r))), (6, .int (jI (120 + r)))]) hx hb dX9_differs_405 hl (k := 9) rfl (jI_add _ _) (by decide) rfl (fun ls hl => ?_)
                                            refine lv_goto (tgt := 272) hx hb dX9_differs_408 (by decide) ?_
                                            exact ih272 (k + 1) _ _ _ (by omega) (by omega) hw hS (lv_sub hl [3, 4, 5, 6, 7, 8, 9, 0] rfl)
                                          · refine lv_iconst (v := jI 1) hx hb dX9_differs_374 rfl ?_
                                            refine lv_goto (tgt := 379) hx hb dX9_differs_375 (by decide) ?_
                                            refine lv_istore (lv' := [(11, .int (jI 1)), (9, .long (jL (X20 75 0 ((5 * ((30 * sv) + r)) + k)))), (0, .ref (ad 40 0)), (1, .int (jI sv)), (2, .int (jI x)), (3, .int (jI nz)), (4, .int (jI r)), (5, .int (jI ((30 * sv) + r))), (6, .int (jI (120 + r))), (8, .int (jI k))]) hx hb dX9_differs_379 hl (by decide) rfl (fun ls hl => ?_)
                                            refine lv_iload hx hb dX9_differs_381 (lv_at hl 0 rfl) ?_
                                            refine x_if_eqF (tgt := 405) hx hb (by omega) (by decide) dX9_differs_383 (by decide) ?_
                                            refine lv_bipush (v := jI 100) hx hb dX9_differs_386 (by decide) ?_
                                            refine lv_iload hx hb dX9_differs_388 (lv_at hl 6 rfl) ?_
                                            refine x_imul hx hb dX9_differs_390 ?_
                                            refine lv_aload_n hx hb dX9_differs_391 rfl (lv_at hl 2 rfl) ?_
                                            refine x_geto hx hb hf9 hw (by omega) (by omega) sl_40_32 lk90 dX9_differs_392 ?_
                                            refine lv_iconst (v := jI 5) hx hb dX9_differs_395 rfl ?_
                                            refine lv_iload hx hb dX9_differs_396 (lv_at hl 7 rfl) ?_
                                            refine x_imul hx hb dX9_differs_398 ?_
                                            refine lv_iload hx hb dX9_differs_399 (lv_at hl 9 rfl) ?_
                                            refine x_iadd hx hb dX9_differs_401 ?_
                                            refine x_iald hx hb hK.1 hw (by omega) (by omega) ar_73 (len_E ar_73 (by decide)) (by omega) (by omega) (by omega) dX9_differs_402 ?_
                                            have f50 : 0 ≤ X20 73 0 ((5 * ((30 * sv) + r)) + k) ∧ X20 73 0 ((5 * ((30 * sv) + r)) + k) ≤ 19 := hRX20 73 0 ((5 * ((30 * sv) + r)) + k)
                                            refine x_iadd hx hb dX9_differs_403 ?_
                                            refine ret_i (mc := 0) (ms := 0) hx hb hr hlocks hw hS (by omega) (by omega) dX9_differs_404 ?_
                                            exact ⟨X20, rfl, hRX20, hFX20, hMIX20, by omega⟩
                                    · refine lv_iconst (v := jI 1) hx hb dX9_differs_316 rfl ?_
                                      refine lv_goto (tgt := 321) hx hb dX9_differs_317 (by decide) ?_
                                      refine lv_istore (lv' := [(11, .int (jI 1)), (9, .long (jL (X20 75 0 ((5 * ((30 * sv) + r)) + k)))), (0, .ref (ad 40 0)), (1, .int (jI sv)), (2, .int (jI x)), (3, .int (jI nz)), (4, .int (jI r)), (5, .int (jI ((30 * sv) + r))), (6, .int (jI (120 + r))), (8, .int (jI k))]) hx hb dX9_differs_321 hl (by decide) rfl (fun ls hl => ?_)
                                      refine lv_iload hx hb dX9_differs_323 (lv_at hl 0 rfl) ?_
                                      refine x_if_neT (tgt := 374) hx hb (by omega) (by decide) dX9_differs_325 (by decide) ?_
                                      refine lv_iconst (v := jI 1) hx hb dX9_differs_374 rfl ?_
                                      refine lv_goto (tgt := 379) hx hb dX9_differs_375 (by decide) ?_
                                      refine lv_istore (lv' := [(11, .int (jI 1)), (9, .long (jL (X20 75 0 ((5 * ((30 * sv) + r)) + k)))), (0, .ref (ad 40 0)), (1, .int (jI sv)), (2, .int (jI x)), (3, .int (jI nz)), (4, .int (jI r)), (5, .int (jI ((30 * sv) + r))), (6, .int (jI (120 + r))), (8, .int (jI k))]) hx hb dX9_differs_379 hl (by decide) rfl (fun ls hl => ?_)
                                      refine lv_iload hx hb dX9_differs_381 (lv_at hl 0 rfl) ?_
                                      refine x_if_eqF (tgt := 405) hx hb (by omega) (by decide) dX9_differs_383 (by decide) ?_
                                      refine lv_bipush (v := jI 100) hx hb dX9_differs_386 (by decide) ?_
                                      refine lv_iload hx hb dX9_differs_388 (lv_at hl 6 rfl) ?_
                                      refine x_imul hx hb dX9_differs_390 ?_
                                      refine lv_aload_n hx hb dX9_differs_391 rfl (lv_at hl 2 rfl) ?_
                                      refine x_geto hx hb hf9 hw (by omega) (by omega) sl_40_32 lk90 dX9_differs_392 ?_
                                      refine lv_iconst (v := jI 5) hx hb dX9_differs_395 rfl ?_
                                      refine lv_iload hx hb dX9_differs_396 (lv_at hl 7 rfl) ?_
                                      refine x_imul hx hb dX9_differs_398 ?_
                                      refine lv_iload hx hb dX9_differs_399 (lv_at hl 9 rfl) ?_
                                      refine x_iadd hx hb dX9_differs_401 ?_
                                      refine x_iald hx hb hK.1 hw (by omega) (by omega) ar_73 (len_E ar_73 (by decide)) (by omega) (by omega) (by omega) dX9_differs_402 ?_
                                      have f51 : 0 ≤ X20 73 0 ((5 * ((30 * sv) + r)) + k) ∧ X20 73 0 ((5 * ((30 * sv) + r)) + k) ≤ 19 := hRX20 73 0 ((5 * ((30 * sv) + r)) + k)
                                      refine x_iadd hx hb dX9_differs_403 ?_
                                      refine ret_i (mc := 0) (ms := 0) hx hb hr hlocks hw hS (by omega) (by omega) dX9_differs_404 ?_
                                      exact ⟨X20, rfl, hRX20, hFX20, hMIX20, by omega⟩
                              exact lp272 (5 - 0 : Int).toNat.succ 0 _ _ _ (by omega) (by omega) hw hS (lv_sub hl [1, 2, 3, 4, 5, 6, 7, 0] rfl)
                            · refine lv_bipush (v := jI 100) hx hb dX9_differs_260 (by decide) ?_
                              refine lv_iload hx hb dX9_differs_262 (lv_at hl 4 rfl) ?_
                              refine x_imul hx hb dX9_differs_264 ?_
                              refine lv_bipush (v := jI 99) hx hb dX9_differs_265 (by decide) ?_
                              refine x_iadd hx hb dX9_differs_267 ?_
                              refine ret_i (mc := 0) (ms := 0) hx hb hr hlocks hw hS (by omega) (by omega) dX9_differs_268 ?_
                              exact ⟨X20, rfl, hRX20, hFX20, hMIX20, by omega⟩
                          · refine lv_iload hx hb dX9_differs_176 (lv_at hl 8 rfl) ?_
                            refine lv_aload_n hx hb dX9_differs_178 rfl (lv_at hl 0 rfl) ?_
                            refine x_geto hx hb hf9 hw (by omega) (by omega) sl_40_31 lk87 dX9_differs_179 ?_
                            refine lv_iload hx hb dX9_differs_182 (lv_at hl 5 rfl) ?_
                            refine x_iald hx hb hK.1 hw (by omega) (by omega) ar_72 (len_E ar_72 (by decide)) (by omega) (by omega) (by omega) dX9_differs_184 ?_
                            have f52 : 0 ≤ X20 72 0 ((30 * sv) + r) ∧ X20 72 0 ((30 * sv) + r) ≤ 5 := hRX20 72 0 ((30 * sv) + r)
                            refine x_icmp_ge (tgt := 255) hx hb (by omega) (by omega) dX9_differs_185 (by decide) (fun c53 => ?_) (fun c53 => ?_)
                            · refine lv_iload hx hb dX9_differs_255 (lv_at hl 7 rfl) ?_
                              refine x_if_ne (tgt := 269) hx hb (by omega) dX9_differs_257 (by decide) (fun c54 => ?_) (fun c54 => ?_)
                              · refine lv_iconst (v := jI 0) hx hb dX9_differs_269 rfl ?_
                                refine lv_istore (lv' := [(8, .int (jI 0)), (0, .ref (ad 40 0)), (1, .int (jI sv)), (2, .int (jI x)), (3, .int (jI nz)), (4, .int (jI r)), (5, .int (jI ((30 * sv) + r))), (6, .int (jI (120 + r))), (7, .int (jI sm))]) hx hb dX9_differs_270 hl (by decide) rfl (fun ls hl => ?_)
                                have lp272 : ∀ (nn : Nat) (k : Int) (H : Heap) (locs : List Loc) (ls : Array Slot), (5 - k) < (nn : Int) → (0 ≤ k ∧ k ≤ 5) → wd D tc base (ad, cnt, X20, Y, ln) H → va_S (frA base) s.heap H locs → lv_has ls 12 [(0, .ref (ad 40 0)), (1, .int (jI sv)), (2, .int (jI x)), (3, .int (jI nz)), (4, .int (jI r)), (5, .int (jI ((30 * sv) + r))), (6, .int (jI (120 + r))), (8, .int (jI k))] → W p l e ({ frames := 2, cells := 0, slots := 0, locals := 53 } : Room) s m ([.ref (ad 40 0), .int (jI sv), .int (jI x)] : List Value).toArray below meth c H locs 0 0 (MQ below (QI D tc base (fun z u => ∃ X1 : Nat → Int → Int → Int, u = (ad, cnt, X1, Y, ln) ∧ Rng X1 ∧ Frm [4001, 7100, 7200, 7300, 7400, 7500, 8000, 7000, 8100, 7700, 7800, 7900, 7600, 4042, 4043, 4044] X X1 ∧ MInv X1 ∧ (-2147483648 ≤ z ∧ z ≤ 2147483647))) ([.ref (ad 40 0), .int (jI sv), .int (jI x)] : List Value).toArray s 0 0 (frA base)) (F0 m 272 ls []) := by
                                  intro nn
                                  induction nn with
                                  | zero => intro k H locs ls hm hk hw hS hl; exfalso; omega
                                  | succ nn ih272 =>
                                    intro k H locs ls hm hk hw hS hl
                                    refine lv_iload hx hb dX9_differs_272 (lv_at hl 7 rfl) ?_
                                    refine lv_aload_n hx hb dX9_differs_274 rfl (lv_at hl 0 rfl) ?_
                                    refine x_geto hx hb hf9 hw (by omega) (by omega) sl_40_31 lk87 dX9_differs_275 ?_
                                    refine lv_iload hx hb dX9_differs_278 (lv_at hl 5 rfl) ?_
                                    refine x_iald hx hb hK.1 hw (by omega) (by omega) ar_72 (len_E ar_72 (by decide)) (by omega) (by omega) (by omega) dX9_differs_280 ?_
                                    have f55 : 0 ≤ X20 72 0 ((30 * sv) + r) ∧ X20 72 0 ((30 * sv) + r) ≤ 5 := hRX20 72 0 ((30 * sv) + r)
                                    refine x_icmp_ge (tgt := 411) hx hb (by omega) (by omega) dX9_differs_281 (by decide) (fun c56 => ?_) (fun c56 => ?_)
                                    · refine lv_iinc (v := jI (r + 1)) (lv' := [(4, .int (jI (r + 1))), (0, .ref (ad 40 0)), (1, .int (jI sv)), (2, .int (jI x)), (3, .int (jI nz)), (5, .int (jI ((30 * sv) + r))), (6, .int (jI (120 + r))), (8, .int (jI k))]) hx hb dX9_differs_411 hl (k := 4) rfl (jI_add _ _) (by decide) rfl (fun ls hl => ?_)
                                      refine lv_goto (tgt := 74) hx hb dX9_differs_414 (by decide) ?_
                                      exact ih74 nz (r + 1) _ _ _ (by omega) (by omega) (by omega) hw hS (lv_sub hl [1, 2, 3, 4, 0] rfl)
                                    · refine lv_aload_n hx hb dX9_differs_284 rfl (lv_at hl 0 rfl) ?_
                                      refine x_geto hx hb hf9 hw (by omega) (by omega) sl_40_34 lk96 dX9_differs_285 ?_
                                      refine lv_iconst (v := jI 5) hx hb dX9_differs_288 rfl ?_
                                      refine lv_iload hx hb dX9_differs_289 (lv_at hl 5 rfl) ?_
                                      refine x_imul hx hb dX9_differs_291 ?_
                                      refine lv_iload hx hb dX9_differs_292 (lv_at hl 7 rfl) ?_
                                      refine x_iadd hx hb dX9_differs_294 ?_
                                      obtain ⟨hv1, hv2, hv3⟩ := (hMIX20.2.2.1 sv r (by omega) (by omega) (by omega) (by omega)).2 k (by omega) (by omega)
                                      refine x_lald hx hb hK.1 hw (by omega) (by omega) ar_75 (len_E ar_75 (by decide)) (by omega) (by omega) (by omega) dX9_differs_295 ?_
                                      have f57 : (-9223372036854775808) ≤ X20 75 0 ((5 * ((30 * sv) + r)) + k) ∧ X20 75 0 ((5 * ((30 * sv) + r)) + k) ≤ 9223372036854775807 := hRX20 75 0 ((5 * ((30 * sv) + r)) + k)
                                      refine lv_lstore (lv' := [(9, .long (jL (X20 75 0 ((5 * ((30 * sv) + r)) + k)))), (0, .ref (ad 40 0)), (1, .int (jI sv)), (2, .int (jI x)), (3, .int (jI nz)), (4, .int (jI r)), (5, .int (jI ((30 * sv) + r))), (6, .int (jI (120 + r))), (8, .int (jI k))]) hx hb dX9_differs_296 hl (by decide) rfl (fun ls hl => ?_)
                                      refine lv_lload hx hb dX9_differs_298 (lv_at hl 0 rfl) ?_
                                      refine lv_aload_n hx hb dX9_differs_300 rfl (lv_at hl 1 rfl) ?_
                                      refine x_geto hx hb hf9 hw (by omega) (by omega) sl_40_34 lk96 dX9_differs_301 ?_
                                      refine lv_iconst (v := jI 5) hx hb dX9_differs_304 rfl ?_
                                      refine lv_iload hx hb dX9_differs_305 (lv_at hl 7 rfl) ?_
                                      refine x_imul hx hb dX9_differs_307 ?_
                                      refine lv_iload hx hb dX9_differs_308 (lv_at hl 8 rfl) ?_
                                      refine x_iadd hx hb dX9_differs_310 ?_
                                      refine x_lald hx hb hK.1 hw (by omega) (by omega) ar_75 (len_E ar_75 (by decide)) (by omega) (by omega) (by omega) dX9_differs_311 ?_
                                      have f58 : (-9223372036854775808) ≤ X20 75 0 ((5 * (120 + r)) + k) ∧ X20 75 0 ((5 * (120 + r)) + k) ≤ 9223372036854775807 := hRX20 75 0 ((5 * (120 + r)) + k)
                                      refine x_lcmp hx hb (by omega) (by omega) dX9_differs_312 ?_
                                      obtain ⟨z59, ez59⟩ : ∃ y : Int, y = cmpZ (X20 75 0 ((5 * ((30 * sv) + r)) + k)) (X20 75 0 ((5 * (120 + r)) + k)) := ⟨_, rfl⟩
                                      rw [← ez59]
                                      have gz59 : (z59 < 0 ↔ ((X20 75 0 ((5 * ((30 * sv) + r)) + k)) : Int) < (X20 75 0 ((5 * (120 + r)) + k))) ∧ (z59 = 0 ↔ ((X20 75 0 ((5 * ((30 * sv) + r)) + k)) : Int) = (X20 75 0 ((5 * (120 + r)) + k))) ∧ -1 ≤ z59 ∧ z59 ≤ 1 := by rw [ez59]; exact ⟨cmpZ_lt, cmpZ_eq, (cmpZ_r _ _).1, (cmpZ_r _ _).2⟩
                                      clear ez59
                                      refine x_if_eq (tgt := 320) hx hb (by omega) dX9_differs_313 (by decide) (fun c60 => ?_) (fun c60 => ?_)
                                      · refine lv_iconst (v := jI 0) hx hb dX9_differs_320 rfl ?_
                                        refine lv_istore (lv' := [(11, .int (jI 0)), (9, .long (jL (X20 75 0 ((5 * ((30 * sv) + r)) + k)))), (0, .ref (ad 40 0)), (1, .int (jI sv)), (2, .int (jI x)), (3, .int (jI nz)), (4, .int (jI r)), (5, .int (jI ((30 * sv) + r))), (6, .int (jI (120 + r))), (8, .int (jI k))]) hx hb dX9_differs_321 hl (by decide) rfl (fun ls hl => ?_)
                                        refine lv_iload hx hb dX9_differs_323 (lv_at hl 0 rfl) ?_
                                        refine x_if_neF (tgt := 374) hx hb (by omega) (by decide) dX9_differs_325 (by decide) ?_
                                        refine lv_aload_n hx hb dX9_differs_328 rfl (lv_at hl 2 rfl) ?_
                                        refine x_geto hx hb hf9 hw (by omega) (by omega) sl_40_33 lk93 dX9_differs_329 ?_
                                        refine lv_iconst (v := jI 5) hx hb dX9_differs_332 rfl ?_
                                        refine lv_iload hx hb dX9_differs_333 (lv_at hl 7 rfl) ?_
                                        refine x_imul hx hb dX9_differs_335 ?_
                                        refine lv_iload hx hb dX9_differs_336 (lv_at hl 9 rfl) ?_
                                        refine x_iadd hx hb dX9_differs_338 ?_
                                        refine x_iald hx hb hK.1 hw (by omega) (by omega) ar_74 (len_E ar_74 (by decide)) (by omega) (by omega) (by omega) dX9_differs_339 ?_
                                        have f61 : 0 ≤ X20 74 0 ((5 * ((30 * sv) + r)) + k) ∧ X20 74 0 ((5 * ((30 * sv) + r)) + k) ≤ 5 := hRX20 74 0 ((5 * ((30 * sv) + r)) + k)
                                        refine lv_iconst (v := jI 2) hx hb dX9_differs_340 rfl ?_
                                        refine x_icmp_le (tgt := 378) hx hb (by omega) (by omega) dX9_differs_341 (by decide) (fun c62 => ?_) (fun c62 => ?_)
                                        · refine lv_iconst (v := jI 0) hx hb dX9_differs_378 rfl ?_
                                          refine lv_istore (lv' := [(11, .int (jI 0)), (9, .long (jL (X20 75 0 ((5 * ((30 * sv) + r)) + k)))), (0, .ref (ad 40 0)), (1, .int (jI sv)), (2, .int (jI x)), (3, .int (jI nz)), (4, .int (jI r)), (5, .int (jI ((30 * sv) + r))), (6, .int (jI (120 + r))), (8, .int (jI k))]) hx hb dX9_differs_379 hl (by decide) rfl (fun ls hl => ?_)
                                          refine lv_iload hx hb dX9_differs_381 (lv_at hl 0 rfl) ?_
                                          refine x_if_eqT (tgt := 405) hx hb (by omega) (by decide) dX9_differs_383 (by decide) ?_
                                          refine lv_iinc (v := jI (k + 1)) (lv' := [(8, .int (jI (k + 1))), (11, .int (jI 0)), (9, .long (jL (X20 75 0 ((5 * ((30 * sv) + r)) + k)))), (0, .ref (ad 40 0)), (1, .int (jI sv)), (2, .int (jI x)), (3, .int (jI nz)), (4, .int (jI r)), (5, .int (jI ((30 * sv) + r))), (6, .int (jI (120 + r)))]) hx hb dX9_differs_405 hl (k := 9) rfl (jI_add _ _) (by decide) rfl (fun ls hl => ?_)
                                          refine lv_goto (tgt := 272) hx hb dX9_differs_408 (by decide) ?_
                                          exact ih272 (k + 1) _ _ _ (by omega) (by omega) hw hS (lv_sub hl [3, 4, 5, 6, 7, 8, 9, 0] rfl)
                                        · refine lv_lload hx hb dX9_differs_344 (lv_at hl 1 rfl) ?_
                                          refine lv_lconst (v := jL 0) hx hb dX9_differs_346 (by decide) ?_
                                          refine x_lcmp hx hb (by omega) (by omega) dX9_differs_347 ?_
                                          obtain ⟨z63, ez63⟩ : ∃ y : Int, y = cmpZ (X20 75 0 ((5 * ((30 * sv) + r)) + k)) 0 := ⟨_, rfl⟩
                                          rw [← ez63]
                                          have gz63 : (z63 < 0 ↔ ((X20 75 0 ((5 * ((30 * sv) + r)) + k)) : Int) < 0) ∧ (z63 = 0 ↔ ((X20 75 0 ((5 * ((30 * sv) + r)) + k)) : Int) = 0) ∧ -1 ≤ z63 ∧ z63 ≤ 1 := by rw [ez63]; exact ⟨cmpZ_lt, cmpZ_eq, (cmpZ_r _ _).1, (cmpZ_r _ _).2⟩
                                          clear ez63
                                          refine x_if_lt (tgt := 378) hx hb (by omega) dX9_differs_348 (by decide) (fun c64 => ?_) (fun c64 => ?_)
                                          · refine lv_iconst (v := jI 0) hx hb dX9_differs_378 rfl ?_
                                            refine lv_istore (lv' := [(11, .int (jI 0)), (9, .long (jL (X20 75 0 ((5 * ((30 * sv) + r)) + k)))), (0, .ref (ad 40 0)), (1, .int (jI sv)), (2, .int (jI x)), (3, .int (jI nz)), (4, .int (jI r)), (5, .int (jI ((30 * sv) + r))), (6, .int (jI (120 + r))), (8, .int (jI k))]) hx hb dX9_differs_379 hl (by decide) rfl (fun ls hl => ?_)
                                            refine lv_iload hx hb dX9_differs_381 (lv_at hl 0 rfl) ?_
                                            refine x_if_eqT (tgt := 405) hx hb (by omega) (by decide) dX9_differs_383 (by decide) ?_
                                            refine lv_iinc (v := jI (k + 1)) (lv' := [(8, .int (jI (k + 1))), (11, .int (jI 0)), (9, .long (jL (X20 75 0 ((5 * ((30 * sv) + r)) + k)))), (0, .ref (ad 40 0)), (1, .int (jI sv)), (2, .int (jI x)), (3, .int (jI nz)), (4, .int (jI r)), (5, .int (jI ((30 * sv) + r))), (6, .int (jI (120 + r)))]) hx hb dX9_differs_405 hl (k := 9) rfl (jI_add _ _) (by decide) rfl (fun ls hl => ?_)
                                            refine lv_goto (tgt := 272) hx hb dX9_differs_408 (by decide) ?_
                                            exact ih272 (k + 1) _ _ _ (by omega) (by omega) hw hS (lv_sub hl [3, 4, 5, 6, 7, 8, 9, 0] rfl)
                                          · refine lv_aload_n hx hb dX9_differs_351 rfl (lv_at hl 2 rfl) ?_
                                            refine lv_sipush (v := jI 150) hx hb dX9_differs_352 (by decide) ?_
                                            refine lv_iload_n hx hb dX9_differs_355 rfl (lv_at hl 3 rfl) ?_
                                            refine x_imul hx hb dX9_differs_356 ?_
                                            refine lv_lload hx hb dX9_differs_357 (lv_at hl 1 rfl) ?_
                                            refine x_l2i hx hb dX9_differs_359 ?_
                                            refine x_iadd hx hb dX9_differs_360 ?_
                                            refine lv_sipush (v := jI 600) hx hb dX9_differs_361 (by decide) ?_
                                            refine lv_lload hx hb dX9_differs_364 (lv_at hl 1 rfl) ?_
                                            refine x_l2i hx hb dX9_differs_366 ?_
                                            refine x_iadd hx hb dX9_differs_367 ?_
                                            refine gos_i (run_V (As := [.int (jI ((150 * sv) + (X20 75 0 ((5 * ((30 * sv) + r)) + k)))), .int (jI (600 + (X20 75 0 ((5 * ((30 * sv) + r)) + k))))]) (rest := []) hx hb hml hown hts (c_X9_rowsDiffer l D tc base ad cnt X20 Y ln hRX20 hFx hMIX20 ((150 * sv) + (X20 75 0 ((5 * ((30 * sv) + r)) + k))) (600 + (X20 75 0 ((5 * ((30 * sv) + r)) + k))) (by omega) (by omega)) (cwV 2 hts gX9_differs_X9_rowsDiffer rfl rfl rfl (by decide +kernel) ⟨Nat.le_of_ble_eq_true rfl, Nat.le_of_ble_eq_true rfl⟩) hK hw (by omega) (by omega) sl_40_0 rfl rfl hl.1 rfl (Nat.le_of_ble_eq_true rfl) dX9_differs_368 ⟨Nat.le_of_ble_eq_true rfl, Nat.le_of_ble_eq_true rfl⟩) hS (fun z65 u66 H locs p67 hw hS => ?_)
                                            obtain ⟨eu66, p67⟩ := p67
                                            subst eu66
                                            refine x_if_eq (tgt := 378) hx hb (by omega) dX9_differs_371 (by decide) (fun c68 => ?_) (fun c68 => ?_)
                                            · refine lv_iconst (v := jI 0) hx hb dX9_differs_378 rfl ?_
                                              refine lv_istore (lv' := [(11, .int (jI 0)), (9, .long (jL (X20 75 0 ((5 * ((30 * sv) + r)) + k)))), (0, .ref (ad 40 0)), (1, .int (jI sv)), (2, .int (jI x)), (3, .int (jI nz)), (4, .int (jI r)), (5, .int (jI ((30 * sv) + r))), (6, .int (jI (120 + r))), (8, .int (jI k))]) hx hb dX9_differs_379 hl (by decide) rfl (fun ls hl => ?_)
                                              refine lv_iload hx hb dX9_differs_381 (lv_at hl 0 rfl) ?_
                                              refine x_if_eqT (tgt := 405) hx hb (by omega) (by decide) dX9_differs_383 (by decide) ?_
                                              refine lv_iinc (v := jI (k + 1)) (lv' := [(8, .int (jI (k + 1))), (11, .int (jI 0)), (9, .long (jL (X20 75 0 ((5 * ((30 * sv) + r)) + k)))), (0, .ref (ad 40 0)), (1, .int (jI sv)), (2, .int (jI x)), (3, .int (jI nz)), (4, .int (jI r)), (5, .int (jI ((30 * sv) + r))), (6, .int (jI (120 + r)))]) hx hb dX9_differs_405 hl (k := 9) rfl (jI_add _ _) (by decide) rfl (fun ls hl => ?_)
                                              refine lv_goto (tgt := 272) hx hb dX9_differs_408 (by decide) ?_
                                              exact ih272 (k + 1) _ _ _ (by omega) (by omega) hw hS (lv_sub hl [3, 4, 5, 6, 7, 8, 9, 0] rfl)
                                            · refine lv_iconst (v := jI 1) hx hb dX9_differs_374 rfl ?_
                                              refine lv_goto (tgt := 379) hx hb dX9_differs_375 (by decide) ?_
                                              refine lv_istore (lv' := [(11, .int (jI 1)), (9, .long (jL (X20 75 0 ((5 * ((30 * sv) + r)) + k)))), (0, .ref (ad 40 0)), (1, .int (jI sv)), (2, .int (jI x)), (3, .int (jI nz)), (4, .int (jI r)), (5, .int (jI ((30 * sv) + r))), (6, .int (jI (120 + r))), (8, .int (jI k))]) hx hb dX9_differs_379 hl (by decide) rfl (fun ls hl => ?_)
                                              refine lv_iload hx hb dX9_differs_381 (lv_at hl 0 rfl) ?_
                                              refine x_if_eqF (tgt := 405) hx hb (by omega) (by decide) dX9_differs_383 (by decide) ?_
                                              refine lv_bipush (v := jI 100) hx hb dX9_differs_386 (by decide) ?_
                                              refine lv_iload hx hb dX9_differs_388 (lv_at hl 6 rfl) ?_
                                              refine x_imul hx hb dX9_differs_390 ?_
                                              refine lv_aload_n hx hb dX9_differs_391 rfl (lv_at hl 2 rfl) ?_
                                              refine x_geto hx hb hf9 hw (by omega) (by omega) sl_40_32 lk90 dX9_differs_392 ?_
                                              refine lv_iconst (v := jI 5) hx hb dX9_differs_395 rfl ?_
                                              refine lv_iload hx hb dX9_differs_396 (lv_at hl 7 rfl) ?_
                                              refine x_imul hx hb dX9_differs_398 ?_
                                              refine lv_iload hx hb dX9_differs_399 (lv_at hl 9 rfl) ?_
                                              refine x_iadd hx hb dX9_differs_401 ?_
                                              refine x_iald hx hb hK.1 hw (by omega) (by omega) ar_73 (len_E ar_73 (by decide)) (by omega) (by omega) (by omega) dX9_differs_402 ?_
                                              have f69 : 0 ≤ X20 73 0 ((5 * ((30 * sv) + r)) + k) ∧ X20 73 0 ((5 * ((30 * sv) + r)) + k) ≤ 19 := hRX20 73 0 ((5 * ((30 * sv) + r)) + k)
                                              refine x_iadd hx hb dX9_differs_403 ?_
                                              refine ret_i (mc := 0) (ms := 0) hx hb hr hlocks hw hS (by omega) (by omega) dX9_differs_404 ?_
                                              exact ⟨X20, rfl, hRX20, hFX20, hMIX20, by omega⟩
                                      · refine lv_iconst (v := jI 1) hx hb dX9_differs_316 rfl ?_
                                        refine lv_goto (tgt := 321) hx hb dX9_differs_317 (by decide) ?_
                                        refine lv_istore (lv' := [(11, .int (jI 1)), (9, .long (jL (X20 75 0 ((5 * ((30 * sv) + r)) + k)))), (0, .ref (ad 40 0)), (1, .int (jI sv)), (2, .int (jI x)), (3, .int (jI nz)), (4, .int (jI r)), (5, .int (jI ((30 * sv) + r))), (6, .int (jI (120 + r))), (8, .int (jI k))]) hx hb dX9_differs_321 hl (by decide) rfl (fun ls hl => ?_)
                                        refine lv_iload hx hb dX9_differs_323 (lv_at hl 0 rfl) ?_
                                        refine x_if_neT (tgt := 374) hx hb (by omega) (by decide) dX9_differs_325 (by decide) ?_
                                        refine lv_iconst (v := jI 1) hx hb dX9_differs_374 rfl ?_
                                        refine lv_goto (tgt := 379) hx hb dX9_differs_375 (by decide) ?_
                                        refine lv_istore (lv' := [(11, .int (jI 1)), (9, .long (jL (X20 75 0 ((5 * ((30 * sv) + r)) + k)))), (0, .ref (ad 40 0)), (1, .int (jI sv)), (2, .int (jI x)), (3, .int (jI nz)), (4, .int (jI r)), (5, .int (jI ((30 * sv) + r))), (6, .int (jI (120 + r))), (8, .int (jI k))]) hx hb dX9_differs_379 hl (by decide) rfl (fun ls hl => ?_)
                                        refine lv_iload hx hb dX9_differs_381 (lv_at hl 0 rfl) ?_
                                        refine x_if_eqF (tgt := 405) hx hb (by omega) (by decide) dX9_differs_383 (by decide) ?_
                                        refine lv_bipush (v := jI 100) hx hb dX9_differs_386 (by decide) ?_
                                        refine lv_iload hx hb dX9_differs_388 (lv_at hl 6 rfl) ?_
                                        refine x_imul hx hb dX9_differs_390 ?_
                                        refine lv_aload_n hx hb dX9_differs_391 rfl (lv_at hl 2 rfl) ?_
                                        refine x_geto hx hb hf9 hw (by omega) (by omega) sl_40_32 lk90 dX9_differs_392 ?_
                                        refine lv_iconst (v := jI 5) hx hb dX9_differs_395 rfl ?_
                                        refine lv_iload hx hb dX9_differs_396 (lv_at hl 7 rfl) ?_
                                        refine x_imul hx hb dX9_differs_398 ?_
                                        refine lv_iload hx hb dX9_differs_399 (lv_at hl 9 rfl) ?_
                                        refine x_iadd hx hb dX9_differs_401 ?_
                                        refine x_iald hx hb hK.1 hw (by omega) (by omega) ar_73 (len_E ar_73 (by decide)) (by omega) (by omega) (by omega) dX9_differs_402 ?_
                                        have f70 : 0 ≤ X20 73 0 ((5 * ((30 * sv) + r)) + k) ∧ X20 73 0 ((5 * ((30 * sv) + r)) + k) ≤ 19 := hRX20 73 0 ((5 * ((30 * sv) + r)) + k)
                                        refine x_iadd hx hb dX9_differs_403 ?_
                                        refine ret_i (mc := 0) (ms := 0) hx hb hr hlocks hw hS (by omega) (by omega) dX9_differs_404 ?_
                                        exact ⟨X20, rfl, hRX20, hFX20, hMIX20, by omega⟩
                                exact lp272 (5 - 0 : Int).toNat.succ 0 _ _ _ (by omega) (by omega) hw hS (lv_sub hl [1, 2, 3, 4, 5, 6, 7, 0] rfl)
                              · refine lv_bipush (v := jI 100) hx hb dX9_differs_260 (by decide) ?_
                                refine lv_iload hx hb dX9_differs_262 (lv_at hl 4 rfl) ?_
                                refine x_imul hx hb dX9_differs_264 ?_
                                refine lv_bipush (v := jI 99) hx hb dX9_differs_265 (by decide) ?_
                                refine x_iadd hx hb dX9_differs_267 ?_
                                refine ret_i (mc := 0) (ms := 0) hx hb hr hlocks hw hS (by omega) (by omega) dX9_differs_268 ?_
                                exact ⟨X20, rfl, hRX20, hFX20, hMIX20, by omega⟩
                            · refine lv_aload_n hx hb dX9_differs_188 rfl (lv_at hl 0 rfl) ?_
                              refine x_geto hx hb hf9 hw (by omega) (by omega) sl_40_32 lk90 dX9_differs_189 ?_
                              refine lv_iconst (v := jI 5) hx hb dX9_differs_192 rfl ?_
                              refine lv_iload hx hb dX9_differs_193 (lv_at hl 5 rfl) ?_
                              refine x_imul hx hb dX9_differs_195 ?_
                              refine lv_iload hx hb dX9_differs_196 (lv_at hl 8 rfl) ?_
                              refine x_iadd hx hb dX9_differs_198 ?_
                              refine x_iald hx hb hK.1 hw (by omega) (by omega) ar_73 (len_E ar_73 (by decide)) (by omega) (by omega) (by omega) dX9_differs_199 ?_
                              have f71 : 0 ≤ X20 73 0 ((5 * ((30 * sv) + r)) + k) ∧ X20 73 0 ((5 * ((30 * sv) + r)) + k) ≤ 19 := hRX20 73 0 ((5 * ((30 * sv) + r)) + k)
                              refine lv_aload_n hx hb dX9_differs_200 rfl (lv_at hl 0 rfl) ?_
                              refine x_geto hx hb hf9 hw (by omega) (by omega) sl_40_32 lk90 dX9_differs_201 ?_
                              refine lv_iconst (v := jI 5) hx hb dX9_differs_204 rfl ?_
                              refine lv_iload hx hb dX9_differs_205 (lv_at hl 6 rfl) ?_
                              refine x_imul hx hb dX9_differs_207 ?_
                              refine lv_iload hx hb dX9_differs_208 (lv_at hl 8 rfl) ?_
                              refine x_iadd hx hb dX9_differs_210 ?_
                              refine x_iald hx hb hK.1 hw (by omega) (by omega) ar_73 (len_E ar_73 (by decide)) (by omega) (by omega) (by omega) dX9_differs_211 ?_
                              have f72 : 0 ≤ X20 73 0 ((5 * (120 + r)) + k) ∧ X20 73 0 ((5 * (120 + r)) + k) ≤ 19 := hRX20 73 0 ((5 * (120 + r)) + k)
                              refine x_icmp_ne (tgt := 246) hx hb (by omega) (by omega) dX9_differs_212 (by decide) (fun c73 => ?_) (fun c73 => ?_)
                              · refine lv_iconst (v := jI 0) hx hb dX9_differs_246 rfl ?_
                                refine lv_istore (lv' := [(7, .int (jI 0)), (0, .ref (ad 40 0)), (1, .int (jI sv)), (2, .int (jI x)), (3, .int (jI nz)), (4, .int (jI r)), (5, .int (jI ((30 * sv) + r))), (6, .int (jI (120 + r))), (8, .int (jI k))]) hx hb dX9_differs_247 hl (by decide) rfl (fun ls hl => ?_)
                                refine lv_iinc (v := jI (k + 1)) (lv' := [(8, .int (jI (k + 1))), (7, .int (jI 0)), (0, .ref (ad 40 0)), (1, .int (jI sv)), (2, .int (jI x)), (3, .int (jI nz)), (4, .int (jI r)), (5, .int (jI ((30 * sv) + r))), (6, .int (jI (120 + r)))]) hx hb dX9_differs_249 hl (k := 8) rfl (jI_add _ _) (by decide) rfl (fun ls hl => ?_)
                                refine lv_goto (tgt := 171) hx hb dX9_differs_252 (by decide) ?_
                                exact ih171 0 (k + 1) _ _ _ (by omega) (by omega) (by omega) hw hS (lv_sub hl [2, 3, 4, 5, 6, 7, 8, 1, 0] rfl)
                              · refine lv_aload_n hx hb dX9_differs_215 rfl (lv_at hl 0 rfl) ?_
                                refine x_geto hx hb hf9 hw (by omega) (by omega) sl_40_33 lk93 dX9_differs_216 ?_
                                refine lv_iconst (v := jI 5) hx hb dX9_differs_219 rfl ?_
                                refine lv_iload hx hb dX9_differs_220 (lv_at hl 5 rfl) ?_
                                refine x_imul hx hb dX9_differs_222 ?_
                                refine lv_iload hx hb dX9_differs_223 (lv_at hl 8 rfl) ?_
                                refine x_iadd hx hb dX9_differs_225 ?_
                                refine x_iald hx hb hK.1 hw (by omega) (by omega) ar_74 (len_E ar_74 (by decide)) (by omega) (by omega) (by omega) dX9_differs_226 ?_
                                have f74 : 0 ≤ X20 74 0 ((5 * ((30 * sv) + r)) + k) ∧ X20 74 0 ((5 * ((30 * sv) + r)) + k) ≤ 5 := hRX20 74 0 ((5 * ((30 * sv) + r)) + k)
                                refine lv_aload_n hx hb dX9_differs_227 rfl (lv_at hl 0 rfl) ?_
                                refine x_geto hx hb hf9 hw (by omega) (by omega) sl_40_33 lk93 dX9_differs_228 ?_
                                refine lv_iconst (v := jI 5) hx hb dX9_differs_231 rfl ?_
                                refine lv_iload hx hb dX9_differs_232 (lv_at hl 6 rfl) ?_
                                refine x_imul hx hb dX9_differs_234 ?_
                                refine lv_iload hx hb dX9_differs_235 (lv_at hl 8 rfl) ?_
                                refine x_iadd hx hb dX9_differs_237 ?_
                                refine x_iald hx hb hK.1 hw (by omega) (by omega) ar_74 (len_E ar_74 (by decide)) (by omega) (by omega) (by omega) dX9_differs_238 ?_
                                have f75 : 0 ≤ X20 74 0 ((5 * (120 + r)) + k) ∧ X20 74 0 ((5 * (120 + r)) + k) ≤ 5 := hRX20 74 0 ((5 * (120 + r)) + k)
                                refine x_icmp_ne (tgt := 246) hx hb (by omega) (by omega) dX9_differs_239 (by decide) (fun c76 => ?_) (fun c76 => ?_)
                                · refine lv_iconst (v := jI 0) hx hb dX9_differs_246 rfl ?_
                                  refine lv_istore (lv' := [(7, .int (jI 0)), (0, .ref (ad 40 0)), (1, .int (jI sv)), (2, .int (jI x)), (3, .int (jI nz)), (4, .int (jI r)), (5, .int (jI ((30 * sv) + r))), (6, .int (jI (120 + r))), (8, .int (jI k))]) hx hb dX9_differs_247 hl (by decide) rfl (fun ls hl => ?_)
                                  refine lv_iinc (v := jI (k + 1)) (lv' := [(8, .int (jI (k + 1))), (7, .int (jI 0)), (0, .ref (ad 40 0)), (1, .int (jI sv)), (2, .int (jI x)), (3, .int (jI nz)), (4, .int (jI r)), (5, .int (jI ((30 * sv) + r))), (6, .int (jI (120 + r)))]) hx hb dX9_differs_249 hl (k := 8) rfl (jI_add _ _) (by decide) rfl (fun ls hl => ?_)
                                  refine lv_goto (tgt := 171) hx hb dX9_differs_252 (by decide) ?_
                                  exact ih171 0 (k + 1) _ _ _ (by omega) (by omega) (by omega) hw hS (lv_sub hl [2, 3, 4, 5, 6, 7, 8, 1, 0] rfl)
                                · refine lv_iconst (v := jI 1) hx hb dX9_differs_242 rfl ?_
                                  refine lv_goto (tgt := 247) hx hb dX9_differs_243 (by decide) ?_
                                  refine lv_istore (lv' := [(7, .int (jI 1)), (0, .ref (ad 40 0)), (1, .int (jI sv)), (2, .int (jI x)), (3, .int (jI nz)), (4, .int (jI r)), (5, .int (jI ((30 * sv) + r))), (6, .int (jI (120 + r))), (8, .int (jI k))]) hx hb dX9_differs_247 hl (by decide) rfl (fun ls hl => ?_)
                                  refine lv_iinc (v := jI (k + 1)) (lv' := [(8, .int (jI (k + 1))), (7, .int (jI 1)), (0, .ref (ad 40 0)), (1, .int (jI sv)), (2, .int (jI x)), (3, .int (jI nz)), (4, .int (jI r)), (5, .int (jI ((30 * sv) + r))), (6, .int (jI (120 + r)))]) hx hb dX9_differs_249 hl (k := 8) rfl (jI_add _ _) (by decide) rfl (fun ls hl => ?_)
                                  refine lv_goto (tgt := 171) hx hb dX9_differs_252 (by decide) ?_
                                  exact ih171 1 (k + 1) _ _ _ (by omega) (by omega) (by omega) hw hS (lv_sub hl [2, 3, 4, 5, 6, 7, 8, 1, 0] rfl)
                      exact lp171 (5 - 0 : Int).toNat.succ 0 0 _ _ _ (by omega) (by omega) (by omega) hw hS (lv_sub hl [4, 5, 6, 7, 8, 3, 2, 1, 0] rfl)
                    · refine lv_aload_n hx hb dX9_differs_144 rfl (lv_at hl 2 rfl) ?_
                      refine x_geto hx hb hf9 hw (by omega) (by omega) sl_40_31 lk87 dX9_differs_145 ?_
                      refine lv_iload hx hb dX9_differs_148 (lv_at hl 1 rfl) ?_
                      refine x_iald hx hb hK.1 hw (by omega) (by omega) ar_72 (len_E ar_72 (by decide)) (by omega) (by omega) (by omega) dX9_differs_150 ?_
                      have f77 : 0 ≤ X20 72 0 ((30 * sv) + r) ∧ X20 72 0 ((30 * sv) + r) ≤ 5 := hRX20 72 0 ((30 * sv) + r)
                      refine lv_aload_n hx hb dX9_differs_151 rfl (lv_at hl 2 rfl) ?_
                      refine x_geto hx hb hf9 hw (by omega) (by omega) sl_40_31 lk87 dX9_differs_152 ?_
                      refine lv_iload hx hb dX9_differs_155 (lv_at hl 0 rfl) ?_
                      refine x_iald hx hb hK.1 hw (by omega) (by omega) ar_72 (len_E ar_72 (by decide)) (by omega) (by omega) (by omega) dX9_differs_157 ?_
                      have f78 : 0 ≤ X20 72 0 (120 + r) ∧ X20 72 0 (120 + r) ≤ 5 := hRX20 72 0 (120 + r)
                      refine x_icmp_ne (tgt := 165) hx hb (by omega) (by omega) dX9_differs_158 (by decide) (fun c79 => ?_) (fun c79 => ?_)
                      · refine lv_iconst (v := jI 0) hx hb dX9_differs_165 rfl ?_
                        refine lv_istore (lv' := [(7, .int (jI 0)), (6, .int (jI (120 + r))), (5, .int (jI ((30 * sv) + r))), (0, .ref (ad 40 0)), (1, .int (jI sv)), (2, .int (jI x)), (3, .int (jI nz)), (4, .int (jI r))]) hx hb dX9_differs_166 hl (by decide) rfl (fun ls hl => ?_)
                        refine lv_iconst (v := jI 0) hx hb dX9_differs_168 rfl ?_
                        refine lv_istore (lv' := [(8, .int (jI 0)), (7, .int (jI 0)), (6, .int (jI (120 + r))), (5, .int (jI ((30 * sv) + r))), (0, .ref (ad 40 0)), (1, .int (jI sv)), (2, .int (jI x)), (3, .int (jI nz)), (4, .int (jI r))]) hx hb dX9_differs_169 hl (by decide) rfl (fun ls hl => ?_)
                        have lp171 : ∀ (nn : Nat) (sm : Int) (k : Int) (H : Heap) (locs : List Loc) (ls : Array Slot), (5 - k) < (nn : Int) → (0 ≤ sm ∧ sm ≤ 1) → (0 ≤ k ∧ k ≤ 5) → wd D tc base (ad, cnt, X20, Y, ln) H → va_S (frA base) s.heap H locs → lv_has ls 12 [(0, .ref (ad 40 0)), (1, .int (jI sv)), (2, .int (jI x)), (3, .int (jI nz)), (4, .int (jI r)), (5, .int (jI ((30 * sv) + r))), (6, .int (jI (120 + r))), (7, .int (jI sm)), (8, .int (jI k))] → W p l e ({ frames := 2, cells := 0, slots := 0, locals := 53 } : Room) s m ([.ref (ad 40 0), .int (jI sv), .int (jI x)] : List Value).toArray below meth c H locs 0 0 (MQ below (QI D tc base (fun z u => ∃ X1 : Nat → Int → Int → Int, u = (ad, cnt, X1, Y, ln) ∧ Rng X1 ∧ Frm [4001, 7100, 7200, 7300, 7400, 7500, 8000, 7000, 8100, 7700, 7800, 7900, 7600, 4042, 4043, 4044] X X1 ∧ MInv X1 ∧ (-2147483648 ≤ z ∧ z ≤ 2147483647))) ([.ref (ad 40 0), .int (jI sv), .int (jI x)] : List Value).toArray s 0 0 (frA base)) (F0 m 171 ls []) := by
                          intro nn
                          induction nn with
                          | zero => intro sm k H locs ls hm hsm hk hw hS hl; exfalso; omega
                          | succ nn ih171 =>
                            intro sm k H locs ls hm hsm hk hw hS hl
                            refine lv_iload hx hb dX9_differs_171 (lv_at hl 7 rfl) ?_
                            refine x_if_eq (tgt := 255) hx hb (by omega) dX9_differs_173 (by decide) (fun c80 => ?_) (fun c80 => ?_)
                            · refine lv_iload hx hb dX9_differs_255 (lv_at hl 7 rfl) ?_
                              refine x_if_ne (tgt := 269) hx hb (by omega) dX9_differs_257 (by decide) (fun c81 => ?_) (fun c81 => ?_)
                              · refine lv_iconst (v := jI 0) hx hb dX9_differs_269 rfl ?_
                                refine lv_istore (lv' := [(8, .int (jI 0)), (0, .ref (ad 40 0)), (1, .int (jI sv)), (2, .int (jI x)), (3, .int (jI nz)), (4, .int (jI r)), (5, .int (jI ((30 * sv) + r))), (6, .int (jI (120 + r))), (7, .int (jI sm))]) hx hb dX9_differs_270 hl (by decide) rfl (fun ls hl => ?_)
                                have lp272 : ∀ (nn : Nat) (k : Int) (H : Heap) (locs : List Loc) (ls : Array Slot), (5 - k) < (nn : Int) → (0 ≤ k ∧ k ≤ 5) → wd D tc base (ad, cnt, X20, Y, ln) H → va_S (frA base) s.heap H locs → lv_has ls 12 [(0, .ref (ad 40 0)), (1, .int (jI sv)), (2, .int (jI x)), (3, .int (jI nz)), (4, .int (jI r)), (5, .int (jI ((30 * sv) + r))), (6, .int (jI (120 + r))), (8, .int (jI k))] → W p l e ({ frames := 2, cells := 0, slots := 0, locals := 53 } : Room) s m ([.ref (ad 40 0), .int (jI sv), .int (jI x)] : List Value).toArray below meth c H locs 0 0 (MQ below (QI D tc base (fun z u => ∃ X1 : Nat → Int → Int → Int, u = (ad, cnt, X1, Y, ln) ∧ Rng X1 ∧ Frm [4001, 7100, 7200, 7300, 7400, 7500, 8000, 7000, 8100, 7700, 7800, 7900, 7600, 4042, 4043, 4044] X X1 ∧ MInv X1 ∧ (-2147483648 ≤ z ∧ z ≤ 2147483647))) ([.ref (ad 40 0), .int (jI sv), .int (jI x)] : List Value).toArray s 0 0 (frA base)) (F0 m 272 ls []) := by
                                  intro nn
                                  induction nn with
                                  | zero => intro k H locs ls hm hk hw hS hl; exfalso; omega
                                  | succ nn ih272 =>
                                    intro k H locs ls hm hk hw hS hl
                                    refine lv_iload hx hb dX9_differs_272 (lv_at hl 7 rfl) ?_
                                    refine lv_aload_n hx hb dX9_differs_274 rfl (lv_at hl 0 rfl) ?_
                                    refine x_geto hx hb hf9 hw (by omega) (by omega) sl_40_31 lk87 dX9_differs_275 ?_
                                    refine lv_iload hx hb dX9_differs_278 (lv_at hl 5 rfl) ?_
                                    refine x_iald hx hb hK.1 hw (by omega) (by omega) ar_72 (len_E ar_72 (by decide)) (by omega) (by omega) (by omega) dX9_differs_280 ?_
                                    have f82 : 0 ≤ X20 72 0 ((30 * sv) + r) ∧ X20 72 0 ((30 * sv) + r) ≤ 5 := hRX20 72 0 ((30 * sv) + r)
                                    refine x_icmp_ge (tgt := 411) hx hb (by omega) (by omega) dX9_differs_281 (by decide) (fun c83 => ?_) (fun c83 => ?_)
                                    · refine lv_iinc (v := jI (r + 1)) (lv' := [(4, .int (jI (r + 1))), (0, .ref (ad 40 0)), (1, .int (jI sv)), (2, .int (jI x)), (3, .int (jI nz)), (5, .int (jI ((30 * sv) + r))), (6, .int (jI (120 + r))), (8, .int (jI k))]) hx hb dX9_differs_411 hl (k := 4) rfl (jI_add _ _) (by decide) rfl (fun ls hl => ?_)
                                      refine lv_goto (tgt := 74) hx hb dX9_differs_414 (by decide) ?_
                                      exact ih74 nz (r + 1) _ _ _ (by omega) (by omega) (by omega) hw hS (lv_sub hl [1, 2, 3, 4, 0] rfl)
                                    · refine lv_aload_n hx hb dX9_differs_284 rfl (lv_at hl 0 rfl) ?_
                                      refine x_geto hx hb hf9 hw (by omega) (by omega) sl_40_34 lk96 dX9_differs_285 ?_
                                      refine lv_iconst (v := jI 5) hx hb dX9_differs_288 rfl ?_
                                      refine lv_iload hx hb dX9_differs_289 (lv_at hl 5 rfl) ?_
                                      refine x_imul hx hb dX9_differs_291 ?_
                                      refine lv_iload hx hb dX9_differs_292 (lv_at hl 7 rfl) ?_
                                      refine x_iadd hx hb dX9_differs_294 ?_
                                      obtain ⟨hv1, hv2, hv3⟩ := (hMIX20.2.2.1 sv r (by omega) (by omega) (by omega) (by omega)).2 k (by omega) (by omega)
                                      refine x_lald hx hb hK.1 hw (by omega) (by omega) ar_75 (len_E ar_75 (by decide)) (by omega) (by omega) (by omega) dX9_differs_295 ?_
                                      have f84 : (-9223372036854775808) ≤ X20 75 0 ((5 * ((30 * sv) + r)) + k) ∧ X20 75 0 ((5 * ((30 * sv) + r)) + k) ≤ 9223372036854775807 := hRX20 75 0 ((5 * ((30 * sv) + r)) + k)
                                      refine lv_lstore (lv' := [(9, .long (jL (X20 75 0 ((5 * ((30 * sv) + r)) + k)))), (0, .ref (ad 40 0)), (1, .int (jI sv)), (2, .int (jI x)), (3, .int (jI nz)), (4, .int (jI r)), (5, .int (jI ((30 * sv) + r))), (6, .int (jI (120 + r))), (8, .int (jI k))]) hx hb dX9_differs_296 hl (by decide) rfl (fun ls hl => ?_)
                                      refine lv_lload hx hb dX9_differs_298 (lv_at hl 0 rfl) ?_
                                      refine lv_aload_n hx hb dX9_differs_300 rfl (lv_at hl 1 rfl) ?_
                                      refine x_geto hx hb hf9 hw (by omega) (by omega) sl_40_34 lk96 dX9_differs_301 ?_
                                      refine lv_iconst (v := jI 5) hx hb dX9_differs_304 rfl ?_
                                      refine lv_iload hx hb dX9_differs_305 (lv_at hl 7 rfl) ?_
                                      refine x_imul hx hb dX9_differs_307 ?_
                                      refine lv_iload hx hb dX9_differs_308 (lv_at hl 8 rfl) ?_
                                      refine x_iadd hx hb dX9_differs_310 ?_
                                      refine x_lald hx hb hK.1 hw (by omega) (by omega) ar_75 (len_E ar_75 (by decide)) (by omega) (by omega) (by omega) dX9_differs_311 ?_
                                      have f85 : (-9223372036854775808) ≤ X20 75 0 ((5 * (120 + r)) + k) ∧ X20 75 0 ((5 * (120 + r)) + k) ≤ 9223372036854775807 := hRX20 75 0 ((5 * (120 + r)) + k)
                                      refine x_lcmp hx hb (by omega) (by omega) dX9_differs_312 ?_
                                      obtain ⟨z86, ez86⟩ : ∃ y : Int, y = cmpZ (X20 75 0 ((5 * ((30 * sv) + r)) + k)) (X20 75 0 ((5 * (120 + r)) + k)) := ⟨_, rfl⟩
                                      rw [← ez86]
                                      have gz86 : (z86 < 0 ↔ ((X20 75 0 ((5 * ((30 * sv) + r)) + k)) : Int) < (X20 75 0 ((5 * (120 + r)) + k))) ∧ (z86 = 0 ↔ ((X20 75 0 ((5 * ((30 * sv) + r)) + k)) : Int) = (X20 75 0 ((5 * (120 + r)) + k))) ∧ -1 ≤ z86 ∧ z86 ≤ 1 := by rw [ez86]; exact ⟨cmpZ_lt, cmpZ_eq, (cmpZ_r _ _).1, (cmpZ_r _ _).2⟩
                                      clear ez86
                                      refine x_if_eq (tgt := 320) hx hb (by omega) dX9_differs_313 (by decide) (fun c87 => ?_) (fun c87 => ?_)
                                      · refine lv_iconst (v := jI 0) hx hb dX9_differs_320 rfl ?_
                                        refine lv_istore (lv' := [(11, .int (jI 0)), (9, .long (jL (X20 75 0 ((5 * ((30 * sv) + r)) + k)))), (0, .ref (ad 40 0)), (1, .int (jI sv)), (2, .int (jI x)), (3, .int (jI nz)), (4, .int (jI r)), (5, .int (jI ((30 * sv) + r))), (6, .int (jI (120 + r))), (8, .int (jI k))]) hx hb dX9_differs_321 hl (by decide) rfl (fun ls hl => ?_)
                                        refine lv_iload hx hb dX9_differs_323 (lv_at hl 0 rfl) ?_
                                        refine x_if_neF (tgt := 374) hx hb (by omega) (by decide) dX9_differs_325 (by decide) ?_
                                        refine lv_aload_n hx hb dX9_differs_328 rfl (lv_at hl 2 rfl) ?_
                                        refine x_geto hx hb hf9 hw (by omega) (by omega) sl_40_33 lk93 dX9_differs_329 ?_
                                        refine lv_iconst (v := jI 5) hx hb dX9_differs_332 rfl ?_
                                        refine lv_iload hx hb dX9_differs_333 (lv_at hl 7 rfl) ?_
                                        refine x_imul hx hb dX9_differs_335 ?_
                                        refine lv_iload hx hb dX9_differs_336 (lv_at hl 9 rfl) ?_
                                        refine x_iadd hx hb dX9_differs_338 ?_
                                        refine x_iald hx hb hK.1 hw (by omega) (by omega) ar_74 (len_E ar_74 (by decide)) (by omega) (by omega) (by omega) dX9_differs_339 ?_
                                        have f88 : 0 ≤ X20 74 0 ((5 * ((30 * sv) + r)) + k) ∧ X20 74 0 ((5 * ((30 * sv) + r)) + k) ≤ 5 := hRX20 74 0 ((5 * ((30 * sv) + r)) + k)
                                        refine lv_iconst (v := jI 2) hx hb dX9_differs_340 rfl ?_
                                        refine x_icmp_le (tgt := 378) hx hb (by omega) (by omega) dX9_differs_341 (by decide) (fun c89 => ?_) (fun c89 => ?_)
                                        · refine lv_iconst (v := jI 0) hx hb dX9_differs_378 rfl ?_
                                          refine lv_istore (lv' := [(11, .int (jI 0)), (9, .long (jL (X20 75 0 ((5 * ((30 * sv) + r)) + k)))), (0, .ref (ad 40 0)), (1, .int (jI sv)), (2, .int (jI x)), (3, .int (jI nz)), (4, .int (jI r)), (5, .int (jI ((30 * sv) + r))), (6, .int (jI (120 + r))), (8, .int (jI k))]) hx hb dX9_differs_379 hl (by decide) rfl (fun ls hl => ?_)
                                          refine lv_iload hx hb dX9_differs_381 (lv_at hl 0 rfl) ?_
                                          refine x_if_eqT (tgt := 405) hx hb (by omega) (by decide) dX9_differs_383 (by decide) ?_
                                          refine lv_iinc (v := jI (k + 1)) (lv' := [(8, .int (jI (k + 1))), (11, .int (jI 0)), (9, .long (jL (X20 75 0 ((5 * ((30 * sv) + r)) + k)))), (0, .ref (ad 40 0)), (1, .int (jI sv)), (2, .int (jI x)), (3, .int (jI nz)), (4, .int (jI r)), (5, .int (jI ((30 * sv) + r))), (6, .int (jI (120 + r)))]) hx hb dX9_differs_405 hl (k := 9) rfl (jI_add _ _) (by decide) rfl (fun ls hl => ?_)
                                          refine lv_goto (tgt := 272) hx hb dX9_differs_408 (by decide) ?_
                                          exact ih272 (k + 1) _ _ _ (by omega) (by omega) hw hS (lv_sub hl [3, 4, 5, 6, 7, 8, 9, 0] rfl)
                                        · refine lv_lload hx hb dX9_differs_344 (lv_at hl 1 rfl) ?_
                                          refine lv_lconst (v := jL 0) hx hb dX9_differs_346 (by decide) ?_
                                          refine x_lcmp hx hb (by omega) (by omega) dX9_differs_347 ?_
                                          obtain ⟨z90, ez90⟩ : ∃ y : Int, y = cmpZ (X20 75 0 ((5 * ((30 * sv) + r)) + k)) 0 := ⟨_, rfl⟩
                                          rw [← ez90]
                                          have gz90 : (z90 < 0 ↔ ((X20 75 0 ((5 * ((30 * sv) + r)) + k)) : Int) < 0) ∧ (z90 = 0 ↔ ((X20 75 0 ((5 * ((30 * sv) + r)) + k)) : Int) = 0) ∧ -1 ≤ z90 ∧ z90 ≤ 1 := by rw [ez90]; exact ⟨cmpZ_lt, cmpZ_eq, (cmpZ_r _ _).1, (cmpZ_r _ _).2⟩
                                          clear ez90
                                          refine x_if_lt (tgt := 378) hx hb (by omega) dX9_differs_348 (by decide) (fun c91 => ?_) (fun c91 => ?_)
                                          · refine lv_iconst (v := jI 0) hx hb dX9_differs_378 rfl ?_
                                            refine lv_istore (lv' := [(11, .int (jI 0)), (9, .long (jL (X20 75 0 ((5 * ((30 * sv) + r)) + k)))), (0, .ref (ad 40 0)), (1, .int (jI sv)), (2, .int (jI x)), (3, .int (jI nz)), (4, .int (jI r)), (5, .int (jI ((30 * sv) + r))), (6, .int (jI (120 + r))), (8, .int (jI k))]) hx hb dX9_differs_379 hl (by decide) rfl (fun ls hl => ?_)
                                            refine lv_iload hx hb dX9_differs_381 (lv_at hl 0 rfl) ?_
                                            refine x_if_eqT (tgt := 405) hx hb (by omega) (by decide) dX9_differs_383 (by decide) ?_
                                            refine lv_iinc (v := jI (k + 1)) (lv' := [(8, .int (jI (k + 1))), (11, .int (jI 0)), (9, .long (jL (X20 75 0 ((5 * ((30 * sv) + r)) + k)))), (0, .ref (ad 40 0)), (1, .int (jI sv)), (2, .int (jI x)), (3, .int (jI nz)), (4, .int (jI r)), (5, .int (jI ((30 * sv) + r))), (6, .int (jI (120 + r)))]) hx hb dX9_differs_405 hl (k := 9) rfl (jI_add _ _) (by decide) rfl (fun ls hl => ?_)
                                            refine lv_goto (tgt := 272) hx hb dX9_differs_408 (by decide) ?_
                                            exact ih272 (k + 1) _ _ _ (by omega) (by omega) hw hS (lv_sub hl [3, 4, 5, 6, 7, 8, 9, 0] rfl)
                                          · refine lv_aload_n hx hb dX9_differs_351 rfl (lv_at hl 2 rfl) ?_
                                            refine lv_sipush (v := jI 150) hx hb dX9_differs_352 (by decide) ?_
                                            refine lv_iload_n hx hb dX9_differs_355 rfl (lv_at hl 3 rfl) ?_
                                            refine x_imul hx hb dX9_differs_356 ?_
                                            refine lv_lload hx hb dX9_differs_357 (lv_at hl 1 rfl) ?_
                                            refine x_l2i hx hb dX9_differs_359 ?_
                                            refine x_iadd hx hb dX9_differs_360 ?_
                                            refine lv_sipush (v := jI 600) hx hb dX9_differs_361 (by decide) ?_
                                            refine lv_lload hx hb dX9_differs_364 (lv_at hl 1 rfl) ?_
                                            refine x_l2i hx hb dX9_differs_366 ?_
                                            refine x_iadd hx hb dX9_differs_367 ?_
                                            refine gos_i (run_V (As := [.int (jI ((150 * sv) + (X20 75 0 ((5 * ((30 * sv) + r)) + k)))), .int (jI (600 + (X20 75 0 ((5 * ((30 * sv) + r)) + k))))]) (rest := []) hx hb hml hown hts (c_X9_rowsDiffer l D tc base ad cnt X20 Y ln hRX20 hFx hMIX20 ((150 * sv) + (X20 75 0 ((5 * ((30 * sv) + r)) + k))) (600 + (X20 75 0 ((5 * ((30 * sv) + r)) + k))) (by omega) (by omega)) (cwV 2 hts gX9_differs_X9_rowsDiffer rfl rfl rfl (by decide +kernel) ⟨Nat.le_of_ble_eq_true rfl, Nat.le_of_ble_eq_true rfl⟩) hK hw (by omega) (by omega) sl_40_0 rfl rfl hl.1 rfl (Nat.le_of_ble_eq_true rfl) dX9_differs_368 ⟨Nat.le_of_ble_eq_true rfl, Nat.le_of_ble_eq_true rfl⟩) hS (fun z92 u93 H locs p94 hw hS => ?_)
                                            obtain ⟨eu93, p94⟩ := p94
                                            subst eu93
                                            refine x_if_eq (tgt := 378) hx hb (by omega) dX9_differs_371 (by decide) (fun c95 => ?_) (fun c95 => ?_)
                                            · refine lv_iconst (v := jI 0) hx hb dX9_differs_378 rfl ?_
                                              refine lv_istore (lv' := [(11, .int (jI 0)), (9, .long (jL (X20 75 0 ((5 * ((30 * sv) + r)) + k)))), (0, .ref (ad 40 0)), (1, .int (jI sv)), (2, .int (jI x)), (3, .int (jI nz)), (4, .int (jI r)), (5, .int (jI ((30 * sv) + r))), (6, .int (jI (120 + r))), (8, .int (jI k))]) hx hb dX9_differs_379 hl (by decide) rfl (fun ls hl => ?_)
                                              refine lv_iload hx hb dX9_differs_381 (lv_at hl 0 rfl) ?_
                                              refine x_if_eqT (tgt := 405) hx hb (by omega) (by decide) dX9_differs_383 (by decide) ?_
                                              refine lv_iinc (v := jI (k + 1)) (lv' := [(8, .int (jI (k + 1))), (11, .int (jI 0)), (9, .long (jL (X20 75 0 ((5 * ((30 * sv) + r)) + k)))), (0, .ref (ad 40 0)), (1, .int (jI sv)), (2, .int (jI x)), (3, .int (jI nz)), (4, .int (jI r)), (5, .int (jI ((30 * sv) + r))), (6, .int (jI (120 + r)))]) hx hb dX9_differs_405 hl (k := 9) rfl (jI_add _ _) (by decide) rfl (fun ls hl => ?_)
                                              refine lv_goto (tgt := 272) hx hb dX9_differs_408 (by decide) ?_
                                              exact ih272 (k + 1) _ _ _ (by omega) (by omega) hw hS (lv_sub hl [3, 4, 5, 6, 7, 8, 9, 0] rfl)
                                            · refine lv_iconst (v := jI 1) hx hb dX9_differs_374 rfl ?_
                                              refine lv_goto (tgt := 379) hx hb dX9_differs_375 (by decide) ?_
                                              refine lv_istore (lv' := [(11, .int (jI 1)), (9, .long (jL (X20 75 0 ((5 * ((30 * sv) + r)) + k)))), (0, .ref (ad 40 0)), (1, .int (jI sv)), (2, .int (jI x)), (3, .int (jI nz)), (4, .int (jI r)), (5, .int (jI ((30 * sv) + r))), (6, .int (jI (120 + r))), (8, .int (jI k))]) hx hb dX9_differs_379 hl (by decide) rfl (fun ls hl => ?_)
                                              refine lv_iload hx hb dX9_differs_381 (lv_at hl 0 rfl) ?_
                                              refine x_if_eqF (tgt := 405) hx hb (by omega) (by decide) dX9_differs_383 (by decide) ?_
                                              refine lv_bipush (v := jI 100) hx hb dX9_differs_386 (by decide) ?_
                                              refine lv_iload hx hb dX9_differs_388 (lv_at hl 6 rfl) ?_
                                              refine x_imul hx hb dX9_differs_390 ?_
                                              refine lv_aload_n hx hb dX9_differs_391 rfl (lv_at hl 2 rfl) ?_
                                              refine x_geto hx hb hf9 hw (by omega) (by omega) sl_40_32 lk90 dX9_differs_392 ?_
                                              refine lv_iconst (v := jI 5) hx hb dX9_differs_395 rfl ?_
                                              refine lv_iload hx hb dX9_differs_396 (lv_at hl 7 rfl) ?_
                                              refine x_imul hx hb dX9_differs_398 ?_
                                              refine lv_iload hx hb dX9_differs_399 (lv_at hl 9 rfl) ?_
                                              refine x_iadd hx hb dX9_differs_401 ?_
                                              refine x_iald hx hb hK.1 hw (by omega) (by omega) ar_73 (len_E ar_73 (by decide)) (by omega) (by omega) (by omega) dX9_differs_402 ?_
                                              have f96 : 0 ≤ X20 73 0 ((5 * ((30 * sv) + r)) + k) ∧ X20 73 0 ((5 * ((30 * sv) + r)) + k) ≤ 19 := hRX20 73 0 ((5 * ((30 * sv) + r)) + k)
                                              refine x_iadd hx hb dX9_differs_403 ?_
                                              refine ret_i (mc := 0) (ms := 0) hx hb hr hlocks hw hS (by omega) (by omega) dX9_differs_404 ?_
                                              exact ⟨X20, rfl, hRX20, hFX20, hMIX20, by omega⟩
                                      · refine lv_iconst (v := jI 1) hx hb dX9_differs_316 rfl ?_
                                        refine lv_goto (tgt := 321) hx hb dX9_differs_317 (by decide) ?_
                                        refine lv_istore (lv' := [(11, .int (jI 1)), (9, .long (jL (X20 75 0 ((5 * ((30 * sv) + r)) + k)))), (0, .ref (ad 40 0)), (1, .int (jI sv)), (2, .int (jI x)), (3, .int (jI nz)), (4, .int (jI r)), (5, .int (jI ((30 * sv) + r))), (6, .int (jI (120 + r))), (8, .int (jI k))]) hx hb dX9_differs_321 hl (by decide) rfl (fun ls hl => ?_)
                                        refine lv_iload hx hb dX9_differs_323 (lv_at hl 0 rfl) ?_
                                        refine x_if_neT (tgt := 374) hx hb (by omega) (by decide) dX9_differs_325 (by decide) ?_
                                        refine lv_iconst (v := jI 1) hx hb dX9_differs_374 rfl ?_
                                        refine lv_goto (tgt := 379) hx hb dX9_differs_375 (by decide) ?_
                                        refine lv_istore (lv' := [(11, .int (jI 1)), (9, .long (jL (X20 75 0 ((5 * ((30 * sv) + r)) + k)))), (0, .ref (ad 40 0)), (1, .int (jI sv)), (2, .int (jI x)), (3, .int (jI nz)), (4, .int (jI r)), (5, .int (jI ((30 * sv) + r))), (6, .int (jI (120 + r))), (8, .int (jI k))]) hx hb dX9_differs_379 hl (by decide) rfl (fun ls hl => ?_)
                                        refine lv_iload hx hb dX9_differs_381 (lv_at hl 0 rfl) ?_
                                        refine x_if_eqF (tgt := 405) hx hb (by omega) (by decide) dX9_differs_383 (by decide) ?_
                                        refine lv_bipush (v := jI 100) hx hb dX9_differs_386 (by decide) ?_
                                        refine lv_iload hx hb dX9_differs_388 (lv_at hl 6 rfl) ?_
                                        refine x_imul hx hb dX9_differs_390 ?_
                                        refine lv_aload_n hx hb dX9_differs_391 rfl (lv_at hl 2 rfl) ?_
                                        refine x_geto hx hb hf9 hw (by omega) (by omega) sl_40_32 lk90 dX9_differs_392 ?_
                                        refine lv_iconst (v := jI 5) hx hb dX9_differs_395 rfl ?_
                                        refine lv_iload hx hb dX9_differs_396 (lv_at hl 7 rfl) ?_
                                        refine x_imul hx hb dX9_differs_398 ?_
                                        refine lv_iload hx hb dX9_differs_399 (lv_at hl 9 rfl) ?_
                                        refine x_iadd hx hb dX9_differs_401 ?_
                                        refine x_iald hx hb hK.1 hw (by omega) (by omega) ar_73 (len_E ar_73 (by decide)) (by omega) (by omega) (by omega) dX9_differs_402 ?_
                                        have f97 : 0 ≤ X20 73 0 ((5 * ((30 * sv) + r)) + k) ∧ X20 73 0 ((5 * ((30 * sv) + r)) + k) ≤ 19 := hRX20 73 0 ((5 * ((30 * sv) + r)) + k)
                                        refine x_iadd hx hb dX9_differs_403 ?_
                                        refine ret_i (mc := 0) (ms := 0) hx hb hr hlocks hw hS (by omega) (by omega) dX9_differs_404 ?_
                                        exact ⟨X20, rfl, hRX20, hFX20, hMIX20, by omega⟩
                                exact lp272 (5 - 0 : Int).toNat.succ 0 _ _ _ (by omega) (by omega) hw hS (lv_sub hl [1, 2, 3, 4, 5, 6, 7, 0] rfl)
                              · refine lv_bipush (v := jI 100) hx hb dX9_differs_260 (by decide) ?_
                                refine lv_iload hx hb dX9_differs_262 (lv_at hl 4 rfl) ?_
                                refine x_imul hx hb dX9_differs_264 ?_
                                refine lv_bipush (v := jI 99) hx hb dX9_differs_265 (by decide) ?_
                                refine x_iadd hx hb dX9_differs_267 ?_
                                refine ret_i (mc := 0) (ms := 0) hx hb hr hlocks hw hS (by omega) (by omega) dX9_differs_268 ?_
                                exact ⟨X20, rfl, hRX20, hFX20, hMIX20, by omega⟩
                            · refine lv_iload hx hb dX9_differs_176 (lv_at hl 8 rfl) ?_
                              refine lv_aload_n hx hb dX9_differs_178 rfl (lv_at hl 0 rfl) ?_
                              refine x_geto hx hb hf9 hw (by omega) (by omega) sl_40_31 lk87 dX9_differs_179 ?_
                              refine lv_iload hx hb dX9_differs_182 (lv_at hl 5 rfl) ?_
                              refine x_iald hx hb hK.1 hw (by omega) (by omega) ar_72 (len_E ar_72 (by decide)) (by omega) (by omega) (by omega) dX9_differs_184 ?_
                              have f98 : 0 ≤ X20 72 0 ((30 * sv) + r) ∧ X20 72 0 ((30 * sv) + r) ≤ 5 := hRX20 72 0 ((30 * sv) + r)
                              refine x_icmp_ge (tgt := 255) hx hb (by omega) (by omega) dX9_differs_185 (by decide) (fun c99 => ?_) (fun c99 => ?_)
                              · refine lv_iload hx hb dX9_differs_255 (lv_at hl 7 rfl) ?_
                                refine x_if_ne (tgt := 269) hx hb (by omega) dX9_differs_257 (by decide) (fun c100 => ?_) (fun c100 => ?_)
                                · refine lv_iconst (v := jI 0) hx hb dX9_differs_269 rfl ?_
                                  refine lv_istore (lv' := [(8, .int (jI 0)), (0, .ref (ad 40 0)), (1, .int (jI sv)), (2, .int (jI x)), (3, .int (jI nz)), (4, .int (jI r)), (5, .int (jI ((30 * sv) + r))), (6, .int (jI (120 + r))), (7, .int (jI sm))]) hx hb dX9_differs_270 hl (by decide) rfl (fun ls hl => ?_)
                                  have lp272 : ∀ (nn : Nat) (k : Int) (H : Heap) (locs : List Loc) (ls : Array Slot), (5 - k) < (nn : Int) → (0 ≤ k ∧ k ≤ 5) → wd D tc base (ad, cnt, X20, Y, ln) H → va_S (frA base) s.heap H locs → lv_has ls 12 [(0, .ref (ad 40 0)), (1, .int (jI sv)), (2, .int (jI x)), (3, .int (jI nz)), (4, .int (jI r)), (5, .int (jI ((30 * sv) + r))), (6, .int (jI (120 + r))), (8, .int (jI k))] → W p l e ({ frames := 2, cells := 0, slots := 0, locals := 53 } : Room) s m ([.ref (ad 40 0), .int (jI sv), .int (jI x)] : List Value).toArray below meth c H locs 0 0 (MQ below (QI D tc base (fun z u => ∃ X1 : Nat → Int → Int → Int, u = (ad, cnt, X1, Y, ln) ∧ Rng X1 ∧ Frm [4001, 7100, 7200, 7300, 7400, 7500, 8000, 7000, 8100, 7700, 7800, 7900, 7600, 4042, 4043, 4044] X X1 ∧ MInv X1 ∧ (-2147483648 ≤ z ∧ z ≤ 2147483647))) ([.ref (ad 40 0), .int (jI sv), .int (jI x)] : List Value).toArray s 0 0 (frA base)) (F0 m 272 ls []) := by
                                    intro nn
                                    induction nn with
                                    | zero => intro k H locs ls hm hk hw hS hl; exfalso; omega
                                    | succ nn ih272 =>
                                      intro k H locs ls hm hk hw hS hl
                                      refine lv_iload hx hb dX9_differs_272 (lv_at hl 7 rfl) ?_
                                      refine lv_aload_n hx hb dX9_differs_274 rfl (lv_at hl 0 rfl) ?_
                                      refine x_geto hx hb hf9 hw (by omega) (by omega) sl_40_31 lk87 dX9_differs_275 ?_
                                      refine lv_iload hx hb dX9_differs_278 (lv_at hl 5 rfl) ?_
                                      refine x_iald hx hb hK.1 hw (by omega) (by omega) ar_72 (len_E ar_72 (by decide)) (by omega) (by omega) (by omega) dX9_differs_280 ?_
                                      have f101 : 0 ≤ X20 72 0 ((30 * sv) + r) ∧ X20 72 0 ((30 * sv) + r) ≤ 5 := hRX20 72 0 ((30 * sv) + r)
                                      refine x_icmp_ge (tgt := 411) hx hb (by omega) (by omega) dX9_differs_281 (by decide) (fun c102 => ?_) (fun c102 => ?_)
                                      · refine lv_iinc (v := jI (r + 1)) (lv' := [(4, .int (jI (r + 1))), (0, .ref (ad 40 0)), (1, .int (jI sv)), (2, .int (jI x)), (3, .int (jI nz)), (5, .int (jI ((30 * sv) + r))), (6, .int (jI (120 + r))), (8, .int (jI k))]) hx hb dX9_differs_411 hl (k := 4) rfl (jI_add _ _) (by decide) rfl (fun ls hl => ?_)
                                        refine lv_goto (tgt := 74) hx hb dX9_differs_414 (by decide) ?_
                                        exact ih74 nz (r + 1) _ _ _ (by omega) (by omega) (by omega) hw hS (lv_sub hl [1, 2, 3, 4, 0] rfl)
                                      · refine lv_aload_n hx hb dX9_differs_284 rfl (lv_at hl 0 rfl) ?_
                                        refine x_geto hx hb hf9 hw (by omega) (by omega) sl_40_34 lk96 dX9_differs_285 ?_
                                        refine lv_iconst (v := jI 5) hx hb dX9_differs_288 rfl ?_
                                        refine lv_iload hx hb dX9_differs_289 (lv_at hl 5 rfl) ?_
                                        refine x_imul hx hb dX9_differs_291 ?_
                                        refine lv_iload hx hb dX9_differs_292 (lv_at hl 7 rfl) ?_
                                        refine x_iadd hx hb dX9_differs_294 ?_
                                        obtain ⟨hv1, hv2, hv3⟩ := (hMIX20.2.2.1 sv r (by omega) (by omega) (by omega) (by omega)).2 k (by omega) (by omega)
                                        refine x_lald hx hb hK.1 hw (by omega) (by omega) ar_75 (len_E ar_75 (by decide)) (by omega) (by omega) (by omega) dX9_differs_295 ?_
                                        have f103 : (-9223372036854775808) ≤ X20 75 0 ((5 * ((30 * sv) + r)) + k) ∧ X20 75 0 ((5 * ((30 * sv) + r)) + k) ≤ 9223372036854775807 := hRX20 75 0 ((5 * ((30 * sv) + r)) + k)
                                        refine lv_lstore (lv' := [(9, .long (jL (X20 75 0 ((5 * ((30 * sv) + r)) + k)))), (0, .ref (ad 40 0)), (1, .int (jI sv)), (2, .int (jI x)), (3, .int (jI nz)), (4, .int (jI r)), (5, .int (jI ((30 * sv) + r))), (6, .int (jI (120 + r))), (8, .int (jI k))]) hx hb dX9_differs_296 hl (by decide) rfl (fun ls hl => ?_)
                                        refine lv_lload hx hb dX9_differs_298 (lv_at hl 0 rfl) ?_
                                        refine lv_aload_n hx hb dX9_differs_300 rfl (lv_at hl 1 rfl) ?_
                                        refine x_geto hx hb hf9 hw (by omega) (by omega) sl_40_34 lk96 dX9_differs_301 ?_
                                        refine lv_iconst (v := jI 5) hx hb dX9_differs_304 rfl ?_
                                        refine lv_iload hx hb dX9_differs_305 (lv_at hl 7 rfl) ?_
                                        refine x_imul hx hb dX9_differs_307 ?_
                                        refine lv_iload hx hb dX9_differs_308 (lv_at hl 8 rfl) ?_
                                        refine x_iadd hx hb dX9_differs_310 ?_
                                        refine x_lald hx hb hK.1 hw (by omega) (by omega) ar_75 (len_E ar_75 (by decide)) (by omega) (by omega) (by omega) dX9_differs_311 ?_
                                        have f104 : (-9223372036854775808) ≤ X20 75 0 ((5 * (120 + r)) + k) ∧ X20 75 0 ((5 * (120 + r)) + k) ≤ 9223372036854775807 := hRX20 75 0 ((5 * (120 + r)) + k)
                                        refine x_lcmp hx hb (by omega) (by omega) dX9_differs_312 ?_
                                        obtain ⟨z105, ez105⟩ : ∃ y : Int, y = cmpZ (X20 75 0 ((5 * ((30 * sv) + r)) + k)) (X20 75 0 ((5 * (120 + r)) + k)) := ⟨_, rfl⟩
                                        rw [← ez105]
                                        have gz105 : (z105 < 0 ↔ ((X20 75 0 ((5 * ((30 * sv) + r)) + k)) : Int) < (X20 75 0 ((5 * (120 + r)) + k))) ∧ (z105 = 0 ↔ ((X20 75 0 ((5 * ((30 * sv) + r)) + k)) : Int) = (X20 75 0 ((5 * (120 + r)) + k))) ∧ -1 ≤ z105 ∧ z105 ≤ 1 := by rw [ez105]; exact ⟨cmpZ_lt, cmpZ_eq, (cmpZ_r _ _).1, (cmpZ_r _ _).2⟩
                                        clear ez105
                                        refine x_if_eq (tgt := 320) hx hb (by omega) dX9_differs_313 (by decide) (fun c106 => ?_) (fun c106 => ?_)
                                        · refine lv_iconst (v := jI 0) hx hb dX9_differs_320 rfl ?_
                                          refine lv_istore (lv' := [(11, .int (jI 0)), (9, .long (jL (X20 75 0 ((5 * ((30 * sv) + r)) + k)))), (0, .ref (ad 40 0)), (1, .int (jI sv)), (2, .int (jI x)), (3, .int (jI nz)), (4, .int (jI r)), (5, .int (jI ((30 * sv) + r))), (6, .int (jI (120 + r))), (8, .int (jI k))]) hx hb dX9_differs_321 hl (by decide) rfl (fun ls hl => ?_)
                                          refine lv_iload hx hb dX9_differs_323 (lv_at hl 0 rfl) ?_
                                          refine x_if_neF (tgt := 374) hx hb (by omega) (by decide) dX9_differs_325 (by decide) ?_
                                          refine lv_aload_n hx hb dX9_differs_328 rfl (lv_at hl 2 rfl) ?_
                                          refine x_geto hx hb hf9 hw (by omega) (by omega) sl_40_33 lk93 dX9_differs_329 ?_
                                          refine lv_iconst (v := jI 5) hx hb dX9_differs_332 rfl ?_
                                          refine lv_iload hx hb dX9_differs_333 (lv_at hl 7 rfl) ?_
                                          refine x_imul hx hb dX9_differs_335 ?_
                                          refine lv_iload hx hb dX9_differs_336 (lv_at hl 9 rfl) ?_
                                          refine x_iadd hx hb dX9_differs_338 ?_
                                          refine x_iald hx hb hK.1 hw (by omega) (by omega) ar_74 (len_E ar_74 (by decide)) (by omega) (by omega) (by omega) dX9_differs_339 ?_
                                          have f107 : 0 ≤ X20 74 0 ((5 * ((30 * sv) + r)) + k) ∧ X20 74 0 ((5 * ((30 * sv) + r)) + k) ≤ 5 := hRX20 74 0 ((5 * ((30 * sv) + r)) + k)
                                          refine lv_iconst (v := jI 2) hx hb dX9_differs_340 rfl ?_
                                          refine x_icmp_le (tgt := 378) hx hb (by omega) (by omega) dX9_differs_341 (by decide) (fun c108 => ?_) (fun c108 => ?_)
                                          · refine lv_iconst (v := jI 0) hx hb dX9_differs_378 rfl ?_
                                            refine lv_istore (lv' := [(11, .int (jI 0)), (9, .long (jL (X20 75 0 ((5 * ((30 * sv) + r)) + k)))), (0, .ref (ad 40 0)), (1, .int (jI sv)), (2, .int (jI x)), (3, .int (jI nz)), (4, .int (jI r)), (5, .int (jI ((30 * sv) + r))), (6, .int (jI (120 + r))), (8, .int (jI k))]) hx hb dX9_differs_379 hl (by decide) rfl (fun ls hl => ?_)
                                            refine lv_iload hx hb dX9_differs_381 (lv_at hl 0 rfl) ?_
                                            refine x_if_eqT (tgt := 405) hx hb (by omega) (by decide) dX9_differs_383 (by decide) ?_
                                            refine lv_iinc (v := jI (k + 1)) (lv' := [(8, .int (jI (k + 1))), (11, .int (jI 0)), (9, .long (jL (X20 75 0 ((5 * ((30 * sv) + r)) + k)))), (0, .ref (ad 40 0)), (1, .int (jI sv)), (2, .int (jI x)), (3, .int (jI nz)), (4, .int (jI r)), (5, .int (jI ((30 * sv) + r))), (6, .int (jI (120 + r)))]) hx hb dX9_differs_405 hl (k := 9) rfl (jI_add _ _) (by decide) rfl (fun ls hl => ?_)
                                            refine lv_goto (tgt := 272) hx hb dX9_differs_408 (by decide) ?_
                                            exact ih272 (k + 1) _ _ _ (by omega) (by omega) hw hS (lv_sub hl [3, 4, 5, 6, 7, 8, 9, 0] rfl)
                                          · refine lv_lload hx hb dX9_differs_344 (lv_at hl 1 rfl) ?_
                                            refine lv_lconst (v := jL 0) hx hb dX9_differs_346 (by decide) ?_
                                            refine x_lcmp hx hb (by omega) (by omega) dX9_differs_347 ?_
                                            obtain ⟨z109, ez109⟩ : ∃ y : Int, y = cmpZ (X20 75 0 ((5 * ((30 * sv) + r)) + k)) 0 := ⟨_, rfl⟩
                                            rw [← ez109]
                                            have gz109 : (z109 < 0 ↔ ((X20 75 0 ((5 * ((30 * sv) + r)) + k)) : Int) < 0) ∧ (z109 = 0 ↔ ((X20 75 0 ((5 * ((30 * sv) + r)) + k)) : Int) = 0) ∧ -1 ≤ z109 ∧ z109 ≤ 1 := by rw [ez109]; exact ⟨cmpZ_lt, cmpZ_eq, (cmpZ_r _ _).1, (cmpZ_r _ _).2⟩
                                            clear ez109
                                            refine x_if_lt (tgt := 378) hx hb (by omega) dX9_differs_348 (by decide) (fun c110 => ?_) (fun c110 => ?_)
                                            · refine lv_iconst (v := jI 0) hx hb dX9_differs_378 rfl ?_
                                              refine lv_istore (lv' := [(11, .int (jI 0)), (9, .long (jL (X20 75 0 ((5 * ((30 * sv) + r)) + k)))), (0, .ref (ad 40 0)), (1, .int (jI sv)), (2, .int (jI x)), (3, .int (jI nz)), (4, .int (jI r)), (5, .int (jI ((30 * sv) + r))), (6, .int (jI (120 + r))), (8, .int (jI k))]) hx hb dX9_differs_379 hl (by decide) rfl (fun ls hl => ?_)
                                              refine lv_iload hx hb dX9_differs_381 (lv_at hl 0 rfl) ?_
                                              refine x_if_eqT (tgt := 405) hx hb (by omega) (by decide) dX9_differs_383 (by decide) ?_
                                              refine lv_iinc (v := jI (k + 1)) (lv' := [(8, .int (jI (k + 1))), (11, .int (jI 0)), (9, .long (jL (X20 75 0 ((5 * ((30 * sv) + r)) + k)))), (0, .ref (ad 40 0)), (1, .int (jI sv)), (2, .int (jI x)), (3, .int (jI nz)), (4, .int (jI r)), (5, .int (jI ((30 * sv) + r))), (6, .int (jI (120 + r)))]) hx hb dX9_differs_405 hl (k := 9) rfl (jI_add _ _) (by decide) rfl (fun ls hl => ?_)
                                              refine lv_goto (tgt := 272) hx hb dX9_differs_408 (by decide) ?_
                                              exact ih272 (k + 1) _ _ _ (by omega) (by omega) hw hS (lv_sub hl [3, 4, 5, 6, 7, 8, 9, 0] rfl)
                                            · refine lv_aload_n hx hb dX9_differs_351 rfl (lv_at hl 2 rfl) ?_
                                              refine lv_sipush (v := jI 150) hx hb dX9_differs_352 (by decide) ?_
                                              refine lv_iload_n hx hb dX9_differs_355 rfl (lv_at hl 3 rfl) ?_
                                              refine x_imul hx hb dX9_differs_356 ?_
                                              refine lv_lload hx hb dX9_differs_357 (lv_at hl 1 rfl) ?_
                                              refine x_l2i hx hb dX9_differs_359 ?_
                                              refine x_iadd hx hb dX9_differs_360 ?_
                                              refine lv_sipush (v := jI 600) hx hb dX9_differs_361 (by decide) ?_
                                              refine lv_lload hx hb dX9_differs_364 (lv_at hl 1 rfl) ?_
                                              refine x_l2i hx hb dX9_differs_366 ?_
                                              refine x_iadd hx hb dX9_differs_367 ?_
                                              refine gos_i (run_V (As := [.int (jI ((150 * sv) + (X20 75 0 ((5 * ((30 * sv) + r)) + k)))), .int (jI (600 + (X20 75 0 ((5 * ((30 * sv) + r)) + k))))]) (rest := []) hx hb hml hown hts (c_X9_rowsDiffer l D tc base ad cnt X20 Y ln hRX20 hFx hMIX20 ((150 * sv) + (X20 75 0 ((5 * ((30 * sv) + r)) + k))) (600 + (X20 75 0 ((5 * ((30 * sv) + r)) + k))) (by omega) (by omega)) (cwV 2 hts gX9_differs_X9_rowsDiffer rfl rfl rfl (by decide +kernel) ⟨Nat.le_of_ble_eq_true rfl, Nat.le_of_ble_eq_true rfl⟩) hK hw (by omega) (by omega) sl_40_0 rfl rfl hl.1 rfl (Nat.le_of_ble_eq_true rfl) dX9_differs_368 ⟨Nat.le_of_ble_eq_true rfl, Nat.le_of_ble_eq_true rfl⟩) hS (fun z111 u112 H locs p113 hw hS => ?_)
                                              obtain ⟨eu112, p113⟩ := p113
                                              subst eu112
                                              refine x_if_eq (tgt := 378) hx hb (by omega) dX9_differs_371 (by decide) (fun c114 => ?_) (fun c114 => ?_)
                                              · refine lv_iconst (v := jI 0) hx hb dX9_differs_378 rfl ?_
                                                refine lv_istore (lv' := [(11, .int (jI 0)), (9, .long (jL (X20 75 0 ((5 * ((30 * sv) + r)) + k)))), (0, .ref (ad 40 0)), (1, .int (jI sv)), (2, .int (jI x)), (3, .int (jI nz)), (4, .int (jI r)), (5, .int (jI ((30 * sv) + r))), (6, .int (jI (120 + r))), (8, .int (jI k))]) hx hb dX9_differs_379 hl (by decide) rfl (fun ls hl => ?_)
                                                refine lv_iload hx hb dX9_differs_381 (lv_at hl 0 rfl) ?_
                                                refine x_if_eqT (tgt := 405) hx hb (by omega) (by decide) dX9_differs_383 (by decide) ?_
                                                refine lv_iinc (v := jI (k + 1)) (lv' := [(8, .int (jI (k + 1))), (11, .int (jI 0)), (9, .long (jL (X20 75 0 ((5 * ((30 * sv) + r)) + k)))), (0, .ref (ad 40 0)), (1, .int (jI sv)), (2, .int (jI x)), (3, .int (jI nz)), (4, .int (jI r)), (5, .int (jI ((30 * sv) + r))), (6, .int (jI (120 + r)))]) hx hb dX9_differs_405 hl (k := 9) rfl (jI_add _ _) (by decide) rfl (fun ls hl => ?_)
                                                refine lv_goto (tgt := 272) hx hb dX9_differs_408 (by decide) ?_
                                                exact ih272 (k + 1) _ _ _ (by omega) (by omega) hw hS (lv_sub hl [3, 4, 5, 6, 7, 8, 9, 0] rfl)
                                              · refine lv_iconst (v := jI 1) hx hb dX9_differs_374 rfl ?_
                                                refine lv_goto (tgt := 379) hx hb dX9_differs_375 (by decide) ?_
                                                refine lv_istore (lv' := [(11, .int (jI 1)), (9, .long (jL (X20 75 0 ((5 * ((30 * sv) + r)) + k)))), (0, .ref (ad 40 0)), (1, .int (jI sv)), (2, .int (jI x)), (3, .int (jI nz)), (4, .int (jI r)), (5, .int (jI ((30 * sv) + r))), (6, .int (jI (120 + r))), (8, .int (jI k))]) hx hb dX9_differs_379 hl (by decide) rfl (fun ls hl => ?_)
                                                refine lv_iload hx hb dX9_differs_381 (lv_at hl 0 rfl) ?_
                                                refine x_if_eqF (tgt := 405) hx hb (by omega) (by decide) dX9_differs_383 (by decide) ?_
                                                refine lv_bipush (v := jI 100) hx hb dX9_differs_386 (by decide) ?_
                                                refine lv_iload hx hb dX9_differs_388 (lv_at hl 6 rfl) ?_
                                                refine x_imul hx hb dX9_differs_390 ?_
                                                refine lv_aload_n hx hb dX9_differs_391 rfl (lv_at hl 2 rfl) ?_
                                                refine x_geto hx hb hf9 hw (by omega) (by omega) sl_40_32 lk90 dX9_differs_392 ?_
                                                refine lv_iconst (v := jI 5) hx hb dX9_differs_395 rfl ?_
                                                refine lv_iload hx hb dX9_differs_396 (lv_at hl 7 rfl) ?_
                                                refine x_imul hx hb dX9_differs_398 ?_
                                                refine lv_iload hx hb dX9_differs_399 (lv_at hl 9 rfl) ?_
                                                refine x_iadd hx hb dX9_differs_401 ?_
                                                refine x_iald hx hb hK.1 hw (by omega) (by omega) ar_73 (len_E ar_73 (by decide)) (by omega) (by omega) (by omega) dX9_differs_402 ?_
                                                have f115 : 0 ≤ X20 73 0 ((5 * ((30 * sv) + r)) + k) ∧ X20 73 0 ((5 * ((30 * sv) + r)) + k) ≤ 19 := hRX20 73 0 ((5 * ((30 * sv) + r)) + k)
                                                refine x_iadd hx hb dX9_differs_403 ?_
                                                refine ret_i (mc := 0) (ms := 0) hx hb hr hlocks hw hS (by omega) (by omega) dX9_differs_404 ?_
                                                exact ⟨X20, rfl, hRX20, hFX20, hMIX20, by omega⟩
                                        · refine lv_iconst (v := jI 1) hx hb dX9_differs_316 rfl ?_
                                          refine lv_goto (tgt := 321) hx hb dX9_differs_317 (by decide) ?_
                                          refine lv_istore (lv' := [(11, .int (jI 1)), (9, .long (jL (X20 75 0 ((5 * ((30 * sv) + r)) + k)))), (0, .ref (ad 40 0)), (1, .int (jI sv)), (2, .int (jI x)), (3, .int (jI nz)), (4, .int (jI r)), (5, .int (jI ((30 * sv) + r))), (6, .int (jI (120 + r))), (8, .int (jI k))]) hx hb dX9_differs_321 hl (by decide) rfl (fun ls hl => ?_)
                                          refine lv_iload hx hb dX9_differs_323 (lv_at hl 0 rfl) ?_
                                          refine x_if_neT (tgt := 374) hx hb (by omega) (by decide) dX9_differs_325 (by decide) ?_
                                          refine lv_iconst (v := jI 1) hx hb dX9_differs_374 rfl ?_
                                          refine lv_goto (tgt := 379) hx hb dX9_differs_375 (by decide) ?_
                                          refine lv_istore (lv' := [(11, .int (jI 1)), (9, .long (jL (X20 75 0 ((5 * ((30 * sv) + r)) + k)))), (0, .ref (ad 40 0)), (1, .int (jI sv)), (2, .int (jI x)), (3, .int (jI nz)), (4, .int (jI r)), (5, .int (jI ((30 * sv) + r))), (6, .int (jI (120 + r))), (8, .int (jI k))]) hx hb dX9_differs_379 hl (by decide) rfl (fun ls hl => ?_)
                                          refine lv_iload hx hb dX9_differs_381 (lv_at hl 0 rfl) ?_
                                          refine x_if_eqF (tgt := 405) hx hb (by omega) (by decide) dX9_differs_383 (by decide) ?_
                                          refine lv_bipush (v := jI 100) hx hb dX9_differs_386 (by decide) ?_
                                          refine lv_iload hx hb dX9_differs_388 (lv_at hl 6 rfl) ?_
                                          refine x_imul hx hb dX9_differs_390 ?_
                                          refine lv_aload_n hx hb dX9_differs_391 rfl (lv_at hl 2 rfl) ?_
                                          refine x_geto hx hb hf9 hw (by omega) (by omega) sl_40_32 lk90 dX9_differs_392 ?_
                                          refine lv_iconst (v := jI 5) hx hb dX9_differs_395 rfl ?_
                                          refine lv_iload hx hb dX9_differs_396 (lv_at hl 7 rfl) ?_
                                          refine x_imul hx hb dX9_differs_398 ?_
                                          refine lv_iload hx hb dX9_differs_399 (lv_at hl 9 rfl) ?_
                                          refine x_iadd hx hb dX9_differs_401 ?_
                                          refine x_iald hx hb hK.1 hw (by omega) (by omega) ar_73 (len_E ar_73 (by decide)) (by omega) (by omega) (by omega) dX9_differs_402 ?_
                                          have f116 : 0 ≤ X20 73 0 ((5 * ((30 * sv) + r)) + k) ∧ X20 73 0 ((5 * ((30 * sv) + r)) + k) ≤ 19 := hRX20 73 0 ((5 * ((30 * sv) + r)) + k)
                                          refine x_iadd hx hb dX9_differs_403 ?_
                                          refine ret_i (mc := 0) (ms := 0) hx hb hr hlocks hw hS (by omega) (by omega) dX9_differs_404 ?_
                                          exact ⟨X20, rfl, hRX20, hFX20, hMIX20, by omega⟩
                                  exact lp272 (5 - 0 : Int).toNat.succ 0 _ _ _ (by omega) (by omega) hw hS (lv_sub hl [1, 2, 3, 4, 5, 6, 7, 0] rfl)
                                · refine lv_bipush (v := jI 100) hx hb dX9_differs_260 (by decide) ?_
                                  refine lv_iload hx hb dX9_differs_262 (lv_at hl 4 rfl) ?_
                                  refine x_imul hx hb dX9_differs_264 ?_
                                  refine lv_bipush (v := jI 99) hx hb dX9_differs_265 (by decide) ?_
                                  refine x_iadd hx hb dX9_differs_267 ?_
                                  refine ret_i (mc := 0) (ms := 0) hx hb hr hlocks hw hS (by omega) (by omega) dX9_differs_268 ?_
                                  exact ⟨X20, rfl, hRX20, hFX20, hMIX20, by omega⟩
                              · refine lv_aload_n hx hb dX9_differs_188 rfl (lv_at hl 0 rfl) ?_
                                refine x_geto hx hb hf9 hw (by omega) (by omega) sl_40_32 lk90 dX9_differs_189 ?_
                                refine lv_iconst (v := jI 5) hx hb dX9_differs_192 rfl ?_
                                refine lv_iload hx hb dX9_differs_193 (lv_at hl 5 rfl) ?_
                                refine x_imul hx hb dX9_differs_195 ?_
                                refine lv_iload hx hb dX9_differs_196 (lv_at hl 8 rfl) ?_
                                refine x_iadd hx hb dX9_differs_198 ?_
                                refine x_iald hx hb hK.1 hw (by omega) (by omega) ar_73 (len_E ar_73 (by decide)) (by omega) (by omega) (by omega) dX9_differs_199 ?_
                                have f117 : 0 ≤ X20 73 0 ((5 * ((30 * sv) + r)) + k) ∧ X20 73 0 ((5 * ((30 * sv) + r)) + k) ≤ 19 := hRX20 73 0 ((5 * ((30 * sv) + r)) + k)
                                refine lv_aload_n hx hb dX9_differs_200 rfl (lv_at hl 0 rfl) ?_
                                refine x_geto hx hb hf9 hw (by omega) (by omega) sl_40_32 lk90 dX9_differs_201 ?_
                                refine lv_iconst (v := jI 5) hx hb dX9_differs_204 rfl ?_
                                refine lv_iload hx hb dX9_differs_205 (lv_at hl 6 rfl) ?_
                                refine x_imul hx hb dX9_differs_207 ?_
                                refine lv_iload hx hb dX9_differs_208 (lv_at hl 8 rfl) ?_
                                refine x_iadd hx hb dX9_differs_210 ?_
                                refine x_iald hx hb hK.1 hw (by omega) (by omega) ar_73 (len_E ar_73 (by decide)) (by omega) (by omega) (by omega) dX9_differs_211 ?_
                                have f118 : 0 ≤ X20 73 0 ((5 * (120 + r)) + k) ∧ X20 73 0 ((5 * (120 + r)) + k) ≤ 19 := hRX20 73 0 ((5 * (120 + r)) + k)
                                refine x_icmp_ne (tgt := 246) hx hb (by omega) (by omega) dX9_differs_212 (by decide) (fun c119 => ?_) (fun c119 => ?_)
                                · refine lv_iconst (v := jI 0) hx hb dX9_differs_246 rfl ?_
                                  refine lv_istore (lv' := [(7, .int (jI 0)), (0, .ref (ad 40 0)), (1, .int (jI sv)), (2, .int (jI x)), (3, .int (jI nz)), (4, .int (jI r)), (5, .int (jI ((30 * sv) + r))), (6, .int (jI (120 + r))), (8, .int (jI k))]) hx hb dX9_differs_247 hl (by decide) rfl (fun ls hl => ?_)
                                  refine lv_iinc (v := jI (k + 1)) (lv' := [(8, .int (jI (k + 1))), (7, .int (jI 0)), (0, .ref (ad 40 0)), (1, .int (jI sv)), (2, .int (jI x)), (3, .int (jI nz)), (4, .int (jI r)), (5, .int (jI ((30 * sv) + r))), (6, .int (jI (120 + r)))]) hx hb dX9_differs_249 hl (k := 8) rfl (jI_add _ _) (by decide) rfl (fun ls hl => ?_)
                                  refine lv_goto (tgt := 171) hx hb dX9_differs_252 (by decide) ?_
                                  exact ih171 0 (k + 1) _ _ _ (by omega) (by omega) (by omega) hw hS (lv_sub hl [2, 3, 4, 5, 6, 7, 8, 1, 0] rfl)
                                · refine lv_aload_n hx hb dX9_differs_215 rfl (lv_at hl 0 rfl) ?_
                                  refine x_geto hx hb hf9 hw (by omega) (by omega) sl_40_33 lk93 dX9_differs_216 ?_
                                  refine lv_iconst (v := jI 5) hx hb dX9_differs_219 rfl ?_
                                  refine lv_iload hx hb dX9_differs_220 (lv_at hl 5 rfl) ?_
                                  refine x_imul hx hb dX9_differs_222 ?_
                                  refine lv_iload hx hb dX9_differs_223 (lv_at hl 8 rfl) ?_
                                  refine x_iadd hx hb dX9_differs_225 ?_
                                  refine x_iald hx hb hK.1 hw (by omega) (by omega) ar_74 (len_E ar_74 (by decide)) (by omega) (by omega) (by omega) dX9_differs_226 ?_
                                  have f120 : 0 ≤ X20 74 0 ((5 * ((30 * sv) + r)) + k) ∧ X20 74 0 ((5 * ((30 * sv) + r)) + k) ≤ 5 := hRX20 74 0 ((5 * ((30 * sv) + r)) + k)
                                  refine lv_aload_n hx hb dX9_differs_227 rfl (lv_at hl 0 rfl) ?_
                                  refine x_geto hx hb hf9 hw (by omega) (by omega) sl_40_33 lk93 dX9_differs_228 ?_
                                  refine lv_iconst (v := jI 5) hx hb dX9_differs_231 rfl ?_
                                  refine lv_iload hx hb dX9_differs_232 (lv_at hl 6 rfl) ?_
                                  refine x_imul hx hb dX9_differs_234 ?_
                                  refine lv_iload hx hb dX9_differs_235 (lv_at hl 8 rfl) ?_
                                  refine x_iadd hx hb dX9_differs_237 ?_
                                  refine x_iald hx hb hK.1 hw (by omega) (by omega) ar_74 (len_E ar_74 (by decide)) (by omega) (by omega) (by omega) dX9_differs_238 ?_
                                  have f121 : 0 ≤ X20 74 0 ((5 * (120 + r)) + k) ∧ X20 74 0 ((5 * (120 + r)) + k) ≤ 5 := hRX20 74 0 ((5 * (120 + r)) + k)
                                  refine x_icmp_ne (tgt := 246) hx hb (by omega) (by omega) dX9_differs_239 (by decide) (fun c122 => ?_) (fun c122 => ?_)
                                  · refine lv_iconst (v := jI 0) hx hb dX9_differs_246 rfl ?_
                                    refine lv_istore (lv' := [(7, .int (jI 0)), (0, .ref (ad 40 0)), (1, .int (jI sv)), (2, .int (jI x)), (3, .int (jI nz)), (4, .int (jI r)), (5, .int (jI ((30 * sv) + r))), (6, .int (jI (120 + r))), (8, .int (jI k))]) hx hb dX9_differs_247 hl (by decide) rfl (fun ls hl => ?_)
                                    refine lv_iinc (v := jI (k + 1)) (lv' := [(8, .int (jI (k + 1))), (7, .int (jI 0)), (0, .ref (ad 40 0)), (1, .int (jI sv)), (2, .int (jI x)), (3, .int (jI nz)), (4, .int (jI r)), (5, .int (jI ((30 * sv) + r))), (6, .int (jI (120 + r)))]) hx hb dX9_differs_249 hl (k := 8) rfl (jI_add _ _) (by decide) rfl (fun ls hl => ?_)
                                    refine lv_goto (tgt := 171) hx hb dX9_differs_252 (by decide) ?_
                                    exact ih171 0 (k + 1) _ _ _ (by omega) (by omega) (by omega) hw hS (lv_sub hl [2, 3, 4, 5, 6, 7, 8, 1, 0] rfl)
                                  · refine lv_iconst (v := jI 1) hx hb dX9_differs_242 rfl ?_
                                    refine lv_goto (tgt := 247) hx hb dX9_differs_243 (by decide) ?_
                                    refine lv_istore (lv' := [(7, .int (jI 1)), (0, .ref (ad 40 0)), (1, .int (jI sv)), (2, .int (jI x)), (3, .int (jI nz)), (4, .int (jI r)), (5, .int (jI ((30 * sv) + r))), (6, .int (jI (120 + r))), (8, .int (jI k))]) hx hb dX9_differs_247 hl (by decide) rfl (fun ls hl => ?_)
                                    refine lv_iinc (v := jI (k + 1)) (lv' := [(8, .int (jI (k + 1))), (7, .int (jI 1)), (0, .ref (ad 40 0)), (1, .int (jI sv)), (2, .int (jI x)), (3, .int (jI nz)), (4, .int (jI r)), (5, .int (jI ((30 * sv) + r))), (6, .int (jI (120 + r)))]) hx hb dX9_differs_249 hl (k := 8) rfl (jI_add _ _) (by decide) rfl (fun ls hl => ?_)
                                    refine lv_goto (tgt := 171) hx hb dX9_differs_252 (by decide) ?_
                                    exact ih171 1 (k + 1) _ _ _ (by omega) (by omega) (by omega) hw hS (lv_sub hl [2, 3, 4, 5, 6, 7, 8, 1, 0] rfl)
                        exact lp171 (5 - 0 : Int).toNat.succ 0 0 _ _ _ (by omega) (by omega) (by omega) hw hS (lv_sub hl [4, 5, 6, 7, 8, 3, 2, 1, 0] rfl)
                      · refine lv_iconst (v := jI 1) hx hb dX9_differs_161 rfl ?_
                        refine lv_goto (tgt := 166) hx hb dX9_differs_162 (by decide) ?_
                        refine lv_istore (lv' := [(7, .int (jI 1)), (6, .int (jI (120 + r))), (5, .int (jI ((30 * sv) + r))), (0, .ref (ad 40 0)), (1, .int (jI sv)), (2, .int (jI x)), (3, .int (jI nz)), (4, .int (jI r))]) hx hb dX9_differs_166 hl (by decide) rfl (fun ls hl => ?_)
                        refine lv_iconst (v := jI 0) hx hb dX9_differs_168 rfl ?_
                        refine lv_istore (lv' := [(8, .int (jI 0)), (7, .int (jI 1)), (6, .int (jI (120 + r))), (5, .int (jI ((30 * sv) + r))), (0, .ref (ad 40 0)), (1, .int (jI sv)), (2, .int (jI x)), (3, .int (jI nz)), (4, .int (jI r))]) hx hb dX9_differs_169 hl (by decide) rfl (fun ls hl => ?_)
                        have lp171 : ∀ (nn : Nat) (sm : Int) (k : Int) (H : Heap) (locs : List Loc) (ls : Array Slot), (5 - k) < (nn : Int) → (0 ≤ sm ∧ sm ≤ 1) → (0 ≤ k ∧ k ≤ 5) → wd D tc base (ad, cnt, X20, Y, ln) H → va_S (frA base) s.heap H locs → lv_has ls 12 [(0, .ref (ad 40 0)), (1, .int (jI sv)), (2, .int (jI x)), (3, .int (jI nz)), (4, .int (jI r)), (5, .int (jI ((30 * sv) + r))), (6, .int (jI (120 + r))), (7, .int (jI sm)), (8, .int (jI k))] → W p l e ({ frames := 2, cells := 0, slots := 0, locals := 53 } : Room) s m ([.ref (ad 40 0), .int (jI sv), .int (jI x)] : List Value).toArray below meth c H locs 0 0 (MQ below (QI D tc base (fun z u => ∃ X1 : Nat → Int → Int → Int, u = (ad, cnt, X1, Y, ln) ∧ Rng X1 ∧ Frm [4001, 7100, 7200, 7300, 7400, 7500, 8000, 7000, 8100, 7700, 7800, 7900, 7600, 4042, 4043, 4044] X X1 ∧ MInv X1 ∧ (-2147483648 ≤ z ∧ z ≤ 2147483647))) ([.ref (ad 40 0), .int (jI sv), .int (jI x)] : List Value).toArray s 0 0 (frA base)) (F0 m 171 ls []) := by
                          intro nn
                          induction nn with
                          | zero => intro sm k H locs ls hm hsm hk hw hS hl; exfalso; omega
                          | succ nn ih171 =>
                            intro sm k H locs ls hm hsm hk hw hS hl
                            refine lv_iload hx hb dX9_differs_171 (lv_at hl 7 rfl) ?_
                            refine x_if_eq (tgt := 255) hx hb (by omega) dX9_differs_173 (by decide) (fun c123 => ?_) (fun c123 => ?_)
                            · refine lv_iload hx hb dX9_differs_255 (lv_at hl 7 rfl) ?_
                              refine x_if_ne (tgt := 269) hx hb (by omega) dX9_differs_257 (by decide) (fun c124 => ?_) (fun c124 => ?_)
                              · refine lv_iconst (v := jI 0) hx hb dX9_differs_269 rfl ?_
                                refine lv_istore (lv' := [(8, .int (jI 0)), (0, .ref (ad 40 0)), (1, .int (jI sv)), (2, .int (jI x)), (3, .int (jI nz)), (4, .int (jI r)), (5, .int (jI ((30 * sv) + r))), (6, .int (jI (120 + r))), (7, .int (jI sm))]) hx hb dX9_differs_270 hl (by decide) rfl (fun ls hl => ?_)
                                have lp272 : ∀ (nn : Nat) (k : Int) (H : Heap) (locs : List Loc) (ls : Array Slot), (5 - k) < (nn : Int) → (0 ≤ k ∧ k ≤ 5) → wd D tc base (ad, cnt, X20, Y, ln) H → va_S (frA base) s.heap H locs → lv_has ls 12 [(0, .ref (ad 40 0)), (1, .int (jI sv)), (2, .int (jI x)), (3, .int (jI nz)), (4, .int (jI r)), (5, .int (jI ((30 * sv) + r))), (6, .int (jI (120 + r))), (8, .int (jI k))] → W p l e ({ frames := 2, cells := 0, slots := 0, locals := 53 } : Room) s m ([.ref (ad 40 0), .int (jI sv), .int (jI x)] : List Value).toArray below meth c H locs 0 0 (MQ below (QI D tc base (fun z u => ∃ X1 : Nat → Int → Int → Int, u = (ad, cnt, X1, Y, ln) ∧ Rng X1 ∧ Frm [4001, 7100, 7200, 7300, 7400, 7500, 8000, 7000, 8100, 7700, 7800, 7900, 7600, 4042, 4043, 4044] X X1 ∧ MInv X1 ∧ (-2147483648 ≤ z ∧ z ≤ 2147483647))) ([.ref (ad 40 0), .int (jI sv), .int (jI x)] : List Value).toArray s 0 0 (frA base)) (F0 m 272 ls []) := by
                                  intro nn
                                  induction nn with
                                  | zero => intro k H locs ls hm hk hw hS hl; exfalso; omega
                                  | succ nn ih272 =>
                                    intro k H locs ls hm hk hw hS hl
                                    refine lv_iload hx hb dX9_differs_272 (lv_at hl 7 rfl) ?_
                                    refine lv_aload_n hx hb dX9_differs_274 rfl (lv_at hl 0 rfl) ?_
                                    refine x_geto hx hb hf9 hw (by omega) (by omega) sl_40_31 lk87 dX9_differs_275 ?_
                                    refine lv_iload hx hb dX9_differs_278 (lv_at hl 5 rfl) ?_
                                    refine x_iald hx hb hK.1 hw (by omega) (by omega) ar_72 (len_E ar_72 (by decide)) (by omega) (by omega) (by omega) dX9_differs_280 ?_
                                    have f125 : 0 ≤ X20 72 0 ((30 * sv) + r) ∧ X20 72 0 ((30 * sv) + r) ≤ 5 := hRX20 72 0 ((30 * sv) + r)
                                    refine x_icmp_ge (tgt := 411) hx hb (by omega) (by omega) dX9_differs_281 (by decide) (fun c126 => ?_) (fun c126 => ?_)
                                    · refine lv_iinc (v := jI (r + 1)) (lv' := [(4, .int (jI (r + 1))), (0, .ref (ad 40 0)), (1, .int (jI sv)), (2, .int (jI x)), (3, .int (jI nz)), (5, .int (jI ((30 * sv) + r))), (6, .int (jI (120 + r))), (8, .int (jI k))]) hx hb dX9_differs_411 hl (k := 4) rfl (jI_add _ _) (by decide) rfl (fun ls hl => ?_)
                                      refine lv_goto (tgt := 74) hx hb dX9_differs_414 (by decide) ?_
                                      exact ih74 nz (r + 1) _ _ _ (by omega) (by omega) (by omega) hw hS (lv_sub hl [1, 2, 3, 4, 0] rfl)
                                    · refine lv_aload_n hx hb dX9_differs_284 rfl (lv_at hl 0 rfl) ?_
                                      refine x_geto hx hb hf9 hw (by omega) (by omega) sl_40_34 lk96 dX9_differs_285 ?_
                                      refine lv_iconst (v := jI 5) hx hb dX9_differs_288 rfl ?_
                                      refine lv_iload hx hb dX9_differs_289 (lv_at hl 5 rfl) ?_
                                      refine x_imul hx hb dX9_differs_291 ?_
                                      refine lv_iload hx hb dX9_differs_292 (lv_at hl 7 rfl) ?_
                                      refine x_iadd hx hb dX9_differs_294 ?_
                                      obtain ⟨hv1, hv2, hv3⟩ := (hMIX20.2.2.1 sv r (by omega) (by omega) (by omega) (by omega)).2 k (by omega) (by omega)
                                      refine x_lald hx hb hK.1 hw (by omega) (by omega) ar_75 (len_E ar_75 (by decide)) (by omega) (by omega) (by omega) dX9_differs_295 ?_
                                      have f127 : (-9223372036854775808) ≤ X20 75 0 ((5 * ((30 * sv) + r)) + k) ∧ X20 75 0 ((5 * ((30 * sv) + r)) + k) ≤ 9223372036854775807 := hRX20 75 0 ((5 * ((30 * sv) + r)) + k)
                                      refine lv_lstore (lv' := [(9, .long (jL (X20 75 0 ((5 * ((30 * sv) + r)) + k)))), (0, .ref (ad 40 0)), (1, .int (jI sv)), (2, .int (jI x)), (3, .int (jI nz)), (4, .int (jI r)), (5, .int (jI ((30 * sv) + r))), (6, .int (jI (120 + r))), (8, .int (jI k))]) hx hb dX9_differs_296 hl (by decide) rfl (fun ls hl => ?_)
                                      refine lv_lload hx hb dX9_differs_298 (lv_at hl 0 rfl) ?_
                                      refine lv_aload_n hx hb dX9_differs_300 rfl (lv_at hl 1 rfl) ?_
                                      refine x_geto hx hb hf9 hw (by omega) (by omega) sl_40_34 lk96 dX9_differs_301 ?_
                                      refine lv_iconst (v := jI 5) hx hb dX9_differs_304 rfl ?_
                                      refine lv_iload hx hb dX9_differs_305 (lv_at hl 7 rfl) ?_
                                      refine x_imul hx hb dX9_differs_307 ?_
                                      refine lv_iload hx hb dX9_differs_308 (lv_at hl 8 rfl) ?_
                                      refine x_iadd hx hb dX9_differs_310 ?_
                                      refine x_lald hx hb hK.1 hw (by omega) (by omega) ar_75 (len_E ar_75 (by decide)) (by omega) (by omega) (by omega) dX9_differs_311 ?_
                                      have f128 : (-9223372036854775808) ≤ X20 75 0 ((5 * (120 + r)) + k) ∧ X20 75 0 ((5 * (120 + r)) + k) ≤ 9223372036854775807 := hRX20 75 0 ((5 * (120 + r)) + k)
                                      refine x_lcmp hx hb (by omega) (by omega) dX9_differs_312 ?_
                                      obtain ⟨z129, ez129⟩ : ∃ y : Int, y = cmpZ (X20 75 0 ((5 * ((30 * sv) + r)) + k)) (X20 75 0 ((5 * (120 + r)) + k)) := ⟨_, rfl⟩
                                      rw [← ez129]
                                      have gz129 : (z129 < 0 ↔ ((X20 75 0 ((5 * ((30 * sv) + r)) + k)) : Int) < (X20 75 0 ((5 * (120 + r)) + k))) ∧ (z129 = 0 ↔ ((X20 75 0 ((5 * ((30 * sv) + r)) + k)) : Int) = (X20 75 0 ((5 * (120 + r)) + k))) ∧ -1 ≤ z129 ∧ z129 ≤ 1 := by rw [ez129]; exact ⟨cmpZ_lt, cmpZ_eq, (cmpZ_r _ _).1, (cmpZ_r _ _).2⟩
                                      clear ez129
                                      refine x_if_eq (tgt := 320) hx hb (by omega) dX9_differs_313 (by decide) (fun c130 => ?_) (fun c130 => ?_)
                                      · refine lv_iconst (v := jI 0) hx hb dX9_differs_320 rfl ?_
                                        refine lv_istore (lv' := [(11, .int (jI 0)), (9, .long (jL (X20 75 0 ((5 * ((30 * sv) + r)) + k)))), (0, .ref (ad 40 0)), (1, .int (jI sv)), (2, .int (jI x)), (3, .int (jI nz)), (4, .int (jI r)), (5, .int (jI ((30 * sv) + r))), (6, .int (jI (120 + r))), (8, .int (jI k))]) hx hb dX9_differs_321 hl (by decide) rfl (fun ls hl => ?_)
                                        refine lv_iload hx hb dX9_differs_323 (lv_at hl 0 rfl) ?_
                                        refine x_if_neF (tgt := 374) hx hb (by omega) (by decide) dX9_differs_325 (by decide) ?_
                                        refine lv_aload_n hx hb dX9_differs_328 rfl (lv_at hl 2 rfl) ?_
                                        refine x_geto hx hb hf9 hw (by omega) (by omega) sl_40_33 lk93 dX9_differs_329 ?_
                                        refine lv_iconst (v := jI 5) hx hb dX9_differs_332 rfl ?_
                                        refine lv_iload hx hb dX9_differs_333 (lv_at hl 7 rfl) ?_
                                        refine x_imul hx hb dX9_differs_335 ?_
                                        refine lv_iload hx hb dX9_differs_336 (lv_at hl 9 rfl) ?_
                                        refine x_iadd hx hb dX9_differs_338 ?_
                                        refine x_iald hx hb hK.1 hw (by omega) (by omega) ar_74 (len_E ar_74 (by decide)) (by omega) (by omega) (by omega) dX9_differs_339 ?_
                                        have f131 : 0 ≤ X20 74 0 ((5 * ((30 * sv) + r)) + k) ∧ X20 74 0 ((5 * ((30 * sv) + r)) + k) ≤ 5 := hRX20 74 0 ((5 * ((30 * sv) + r)) + k)
                                        refine lv_iconst (v := jI 2) hx hb dX9_differs_340 rfl ?_
                                        refine x_icmp_le (tgt := 378) hx hb (by omega) (by omega) dX9_differs_341 (by decide) (fun c132 => ?_) (fun c132 => ?_)
                                        · refine lv_iconst (v := jI 0) hx hb dX9_differs_378 rfl ?_
                                          refine lv_istore (lv' := [(11, .int (jI 0)), (9, .long (jL (X20 75 0 ((5 * ((30 * sv) + r)) + k)))), (0, .ref (ad 40 0)), (1, .int (jI sv)), (2, .int (jI x)), (3, .int (jI nz)), (4, .int (jI r)), (5, .int (jI ((30 * sv) + r))), (6, .int (jI (120 + r))), (8, .int (jI k))]) hx hb dX9_differs_379 hl (by decide) rfl (fun ls hl => ?_)
                                          refine lv_iload hx hb dX9_differs_381 (lv_at hl 0 rfl) ?_
                                          refine x_if_eqT (tgt := 405) hx hb (by omega) (by decide) dX9_differs_383 (by decide) ?_
                                          refine lv_iinc (v := jI (k + 1)) (lv' := [(8, .int (jI (k + 1))), (11, .int (jI 0)), (9, .long (jL (X20 75 0 ((5 * ((30 * sv) + r)) + k)))), (0, .ref (ad 40 0)), (1, .int (jI sv)), (2, .int (jI x)), (3, .int (jI nz)), (4, .int (jI r)), (5, .int (jI ((30 * sv) + r))), (6, .int (jI (120 + r)))]) hx hb dX9_differs_405 hl (k := 9) rfl (jI_add _ _) (by decide) rfl (fun ls hl => ?_)
                                          refine lv_goto (tgt := 272) hx hb dX9_differs_408 (by decide) ?_
                                          exact ih272 (k + 1) _ _ _ (by omega) (by omega) hw hS (lv_sub hl [3, 4, 5, 6, 7, 8, 9, 0] rfl)
                                        · refine lv_lload hx hb dX9_differs_344 (lv_at hl 1 rfl) ?_
                                          refine lv_lconst (v := jL 0) hx hb dX9_differs_346 (by decide) ?_
                                          refine x_lcmp hx hb (by omega) (by omega) dX9_differs_347 ?_
                                          obtain ⟨z133, ez133⟩ : ∃ y : Int, y = cmpZ (X20 75 0 ((5 * ((30 * sv) + r)) + k)) 0 := ⟨_, rfl⟩
                                          rw [← ez133]
                                          have gz133 : (z133 < 0 ↔ ((X20 75 0 ((5 * ((30 * sv) + r)) + k)) : Int) < 0) ∧ (z133 = 0 ↔ ((X20 75 0 ((5 * ((30 * sv) + r)) + k)) : Int) = 0) ∧ -1 ≤ z133 ∧ z133 ≤ 1 := by rw [ez133]; exact ⟨cmpZ_lt, cmpZ_eq, (cmpZ_r _ _).1, (cmpZ_r _ _).2⟩
                                          clear ez133
                                          refine x_if_lt (tgt := 378) hx hb (by omega) dX9_differs_348 (by decide) (fun c134 => ?_) (fun c134 => ?_)
                                          · refine lv_iconst (v := jI 0) hx hb dX9_differs_378 rfl ?_
                                            refine lv_istore (lv' := [(11, .int (jI 0)), (9, .long (jL (X20 75 0 ((5 * ((30 * sv) + r)) + k)))), (0, .ref (ad 40 0)), (1, .int (jI sv)), (2, .int (jI x)), (3, .int (jI nz)), (4, .int (jI r)), (5, .int (jI ((30 * sv) + r))), (6, .int (jI (120 + r))), (8, .int (jI k))]) hx hb dX9_differs_379 hl (by decide) rfl (fun ls hl => ?_)
                                            refine lv_iload hx hb dX9_differs_381 (lv_at hl 0 rfl) ?_
                                            refine x_if_eqT (tgt := 405) hx hb (by omega) (by decide) dX9_differs_383 (by decide) ?_
                                            refine lv_iinc (v := jI (k + 1)) (lv' := [(8, .int (jI (k + 1))), (11, .int (jI 0)), (9, .long (jL (X20 75 0 ((5 * ((30 * sv) + r)) + k)))), (0, .ref (ad 40 0)), (1, .int (jI sv)), (2, .int (jI x)), (3, .int (jI nz)), (4, .int (jI r)), (5, .int (jI ((30 * sv) + r))), (6, .int (jI (120 + r)))]) hx hb dX9_differs_405 hl (k := 9) rfl (jI_add _ _) (by decide) rfl (fun ls hl => ?_)
                                            refine lv_goto (tgt := 272) hx hb dX9_differs_408 (by decide) ?_
                                            exact ih272 (k + 1) _ _ _ (by omega) (by omega) hw hS (lv_sub hl [3, 4, 5, 6, 7, 8, 9, 0] rfl)
                                          · refine lv_aload_n hx hb dX9_differs_351 rfl (lv_at hl 2 rfl) ?_
                                            refine lv_sipush (v := jI 150) hx hb dX9_differs_352 (by decide) ?_
                                            refine lv_iload_n hx hb dX9_differs_355 rfl (lv_at hl 3 rfl) ?_
                                            refine x_imul hx hb dX9_differs_356 ?_
                                            refine lv_lload hx hb dX9_differs_357 (lv_at hl 1 rfl) ?_
                                            refine x_l2i hx hb dX9_differs_359 ?_
                                            refine x_iadd hx hb dX9_differs_360 ?_
                                            refine lv_sipush (v := jI 600) hx hb dX9_differs_361 (by decide) ?_
                                            refine lv_lload hx hb dX9_differs_364 (lv_at hl 1 rfl) ?_
                                            refine x_l2i hx hb dX9_differs_366 ?_
                                            refine x_iadd hx hb dX9_differs_367 ?_
                                            refine gos_i (run_V (As := [.int (jI ((150 * sv) + (X20 75 0 ((5 * ((30 * sv) + r)) + k)))), .int (jI (600 + (X20 75 0 ((5 * ((30 * sv) + r)) + k))))]) (rest := []) hx hb hml hown hts (c_X9_rowsDiffer l D tc base ad cnt X20 Y ln hRX20 hFx hMIX20 ((150 * sv) + (X20 75 0 ((5 * ((30 * sv) + r)) + k))) (600 + (X20 75 0 ((5 * ((30 * sv) + r)) + k))) (by omega) (by omega)) (cwV 2 hts gX9_differs_X9_rowsDiffer rfl rfl rfl (by decide +kernel) ⟨Nat.le_of_ble_eq_true rfl, Nat.le_of_ble_eq_true rfl⟩) hK hw (by omega) (by omega) sl_40_0 rfl rfl hl.1 rfl (Nat.le_of_ble_eq_true rfl) dX9_differs_368 ⟨Nat.le_of_ble_eq_true rfl, Nat.le_of_ble_eq_true rfl⟩) hS (fun z135 u136 H locs p137 hw hS => ?_)
                                            obtain ⟨eu136, p137⟩ := p137
                                            subst eu136
                                            refine x_if_eq (tgt := 378) hx hb (by omega) dX9_differs_371 (by decide) (fun c138 => ?_) (fun c138 => ?_)
                                            · refine lv_iconst (v := jI 0) hx hb dX9_differs_378 rfl ?_
                                              refine lv_istore (lv' := [(11, .int (jI 0)), (9, .long (jL (X20 75 0 ((5 * ((30 * sv) + r)) + k)))), (0, .ref (ad 40 0)), (1, .int (jI sv)), (2, .int (jI x)), (3, .int (jI nz)), (4, .int (jI r)), (5, .int (jI ((30 * sv) + r))), (6, .int (jI (120 + r))), (8, .int (jI k))]) hx hb dX9_differs_379 hl (by decide) rfl (fun ls hl => ?_)
                                              refine lv_iload hx hb dX9_differs_381 (lv_at hl 0 rfl) ?_
                                              refine x_if_eqT (tgt := 405) hx hb (by omega) (by decide) dX9_differs_383 (by decide) ?_
                                              refine lv_iinc (v := jI (k + 1)) (lv' := [(8, .int (jI (k + 1))), (11, .int (jI 0)), (9, .long (jL (X20 75 0 ((5 * ((30 * sv) + r)) + k)))), (0, .ref (ad 40 0)), (1, .int (jI sv)), (2, .int (jI x)), (3, .int (jI nz)), (4, .int (jI r)), (5, .int (jI ((30 * sv) + r))), (6, .int (jI (120 + r)))]) hx hb dX9_differs_405 hl (k := 9) rfl (jI_add _ _) (by decide) rfl (fun ls hl => ?_)
                                              refine lv_goto (tgt := 272) hx hb dX9_differs_408 (by decide) ?_
                                              exact ih272 (k + 1) _ _ _ (by omega) (by omega) hw hS (lv_sub hl [3, 4, 5, 6, 7, 8, 9, 0] rfl)
                                            · refine lv_iconst (v := jI 1) hx hb dX9_differs_374 rfl ?_
                                              refine lv_goto (tgt := 379) hx hb dX9_differs_375 (by decide) ?_
                                              refine lv_istore (lv' := [(11, .int (jI 1)), (9, .long (jL (X20 75 0 ((5 * ((30 * sv) + r)) + k)))), (0, .ref (ad 40 0)), (1, .int (jI sv)), (2, .int (jI x)), (3, .int (jI nz)), (4, .int (jI r)), (5, .int (jI ((30 * sv) + r))), (6, .int (jI (120 + r))), (8, .int (jI k))]) hx hb dX9_differs_379 hl (by decide) rfl (fun ls hl => ?_)
                                              refine lv_iload hx hb dX9_differs_381 (lv_at hl 0 rfl) ?_
                                              refine x_if_eqF (tgt := 405) hx hb (by omega) (by decide) dX9_differs_383 (by decide) ?_
                                              refine lv_bipush (v := jI 100) hx hb dX9_differs_386 (by decide) ?_
                                              refine lv_iload hx hb dX9_differs_388 (lv_at hl 6 rfl) ?_
                                              refine x_imul hx hb dX9_differs_390 ?_
                                              refine lv_aload_n hx hb dX9_differs_391 rfl (lv_at hl 2 rfl) ?_
                                              refine x_geto hx hb hf9 hw (by omega) (by omega) sl_40_32 lk90 dX9_differs_392 ?_
                                              refine lv_iconst (v := jI 5) hx hb dX9_differs_395 rfl ?_
                                              refine lv_iload hx hb dX9_differs_396 (lv_at hl 7 rfl) ?_
                                              refine x_imul hx hb dX9_differs_398 ?_
                                              refine lv_iload hx hb dX9_differs_399 (lv_at hl 9 rfl) ?_
                                              refine x_iadd hx hb dX9_differs_401 ?_
                                              refine x_iald hx hb hK.1 hw (by omega) (by omega) ar_73 (len_E ar_73 (by decide)) (by omega) (by omega) (by omega) dX9_differs_402 ?_
                                              have f139 : 0 ≤ X20 73 0 ((5 * ((30 * sv) + r)) + k) ∧ X20 73 0 ((5 * ((30 * sv) + r)) + k) ≤ 19 := hRX20 73 0 ((5 * ((30 * sv) + r)) + k)
                                              refine x_iadd hx hb dX9_differs_403 ?_
                                              refine ret_i (mc := 0) (ms := 0) hx hb hr hlocks hw hS (by omega) (by omega) dX9_differs_404 ?_
                                              exact ⟨X20, rfl, hRX20, hFX20, hMIX20, by omega⟩
                                      · refine lv_iconst (v := jI 1) hx hb dX9_differs_316 rfl ?_
                                        refine lv_goto (tgt := 321) hx hb dX9_differs_317 (by decide) ?_
                                        refine lv_istore (lv' := [(11, .int (jI 1)), (9, .long (jL (X20 75 0 ((5 * ((30 * sv) + r)) + k)))), (0, .ref (ad 40 0)), (1, .int (jI sv)), (2, .int (jI x)), (3, .int (jI nz)), (4, .int (jI r)), (5, .int (jI ((30 * sv) + r))), (6, .int (jI (120 + r))), (8, .int (jI k))]) hx hb dX9_differs_321 hl (by decide) rfl (fun ls hl => ?_)
                                        refine lv_iload hx hb dX9_differs_323 (lv_at hl 0 rfl) ?_
                                        refine x_if_neT (tgt := 374) hx hb (by omega) (by decide) dX9_differs_325 (by decide) ?_
                                        refine lv_iconst (v := jI 1) hx hb dX9_differs_374 rfl ?_
                                        refine lv_goto (tgt := 379) hx hb dX9_differs_375 (by decide) ?_
                                        refine lv_istore (lv' := [(11, .int (jI 1)), (9, .long (jL (X20 75 0 ((5 * ((30 * sv) + r)) + k)))), (0, .ref (ad 40 0)), (1, .int (jI sv)), (2, .int (jI x)), (3, .int (jI nz)), (4, .int (jI r)), (5, .int (jI ((30 * sv) + r))), (6, .int (jI (120 + r))), (8, .int (jI k))]) hx hb dX9_differs_379 hl (by decide) rfl (fun ls hl => ?_)
                                        refine lv_iload hx hb dX9_differs_381 (lv_at hl 0 rfl) ?_
                                        refine x_if_eqF (tgt := 405) hx hb (by omega) (by decide) dX9_differs_383 (by decide) ?_
                                        refine lv_bipush (v := jI 100) hx hb dX9_differs_386 (by decide) ?_
                                        refine lv_iload hx hb dX9_differs_388 (lv_at hl 6 rfl) ?_
                                        refine x_imul hx hb dX9_differs_390 ?_
                                        refine lv_aload_n hx hb dX9_differs_391 rfl (lv_at hl 2 rfl) ?_
                                        refine x_geto hx hb hf9 hw (by omega) (by omega) sl_40_32 lk90 dX9_differs_392 ?_
                                        refine lv_iconst (v := jI 5) hx hb dX9_differs_395 rfl ?_
                                        refine lv_iload hx hb dX9_differs_396 (lv_at hl 7 rfl) ?_
                                        refine x_imul hx hb dX9_differs_398 ?_
                                        refine lv_iload hx hb dX9_differs_399 (lv_at hl 9 rfl) ?_
                                        refine x_iadd hx hb dX9_differs_401 ?_
                                        refine x_iald hx hb hK.1 hw (by omega) (by omega) ar_73 (len_E ar_73 (by decide)) (by omega) (by omega) (by omega) dX9_differs_402 ?_
                                        have f140 : 0 ≤ X20 73 0 ((5 * ((30 * sv) + r)) + k) ∧ X20 73 0 ((5 * ((30 * sv) + r)) + k) ≤ 19 := hRX20 73 0 ((5 * ((30 * sv) + r)) + k)
                                        refine x_iadd hx hb dX9_differs_403 ?_
                                        refine ret_i (mc := 0) (ms := 0) hx hb hr hlocks hw hS (by omega) (by omega) dX9_differs_404 ?_
                                        exact ⟨X20, rfl, hRX20, hFX20, hMIX20, by omega⟩
                                exact lp272 (5 - 0 : Int).toNat.succ 0 _ _ _ (by omega) (by omega) hw hS (lv_sub hl [1, 2, 3, 4, 5, 6, 7, 0] rfl)
                              · refine lv_bipush (v := jI 100) hx hb dX9_differs_260 (by decide) ?_
                                refine lv_iload hx hb dX9_differs_262 (lv_at hl 4 rfl) ?_
                                refine x_imul hx hb dX9_differs_264 ?_
                                refine lv_bipush (v := jI 99) hx hb dX9_differs_265 (by decide) ?_
                                refine x_iadd hx hb dX9_differs_267 ?_
                                refine ret_i (mc := 0) (ms := 0) hx hb hr hlocks hw hS (by omega) (by omega) dX9_differs_268 ?_
                                exact ⟨X20, rfl, hRX20, hFX20, hMIX20, by omega⟩
                            · refine lv_iload hx hb dX9_differs_176 (lv_at hl 8 rfl) ?_
                              refine lv_aload_n hx hb dX9_differs_178 rfl (lv_at hl 0 rfl) ?_
                              refine x_geto hx hb hf9 hw (by omega) (by omega) sl_40_31 lk87 dX9_differs_179 ?_
                              refine lv_iload hx hb dX9_differs_182 (lv_at hl 5 rfl) ?_
                              refine x_iald hx hb hK.1 hw (by omega) (by omega) ar_72 (len_E ar_72 (by decide)) (by omega) (by omega) (by omega) dX9_differs_184 ?_
                              have f141 : 0 ≤ X20 72 0 ((30 * sv) + r) ∧ X20 72 0 ((30 * sv) + r) ≤ 5 := hRX20 72 0 ((30 * sv) + r)
                              refine x_icmp_ge (tgt := 255) hx hb (by omega) (by omega) dX9_differs_185 (by decide) (fun c142 => ?_) (fun c142 => ?_)
                              · refine lv_iload hx hb dX9_differs_255 (lv_at hl 7 rfl) ?_
                                refine x_if_ne (tgt := 269) hx hb (by omega) dX9_differs_257 (by decide) (fun c143 => ?_) (fun c143 => ?_)
                                · refine lv_iconst (v := jI 0) hx hb dX9_differs_269 rfl ?_
                                  refine lv_istore (lv' := [(8, .int (jI 0)), (0, .ref (ad 40 0)), (1, .int (jI sv)), (2, .int (jI x)), (3, .int (jI nz)), (4, .int (jI r)), (5, .int (jI ((30 * sv) + r))), (6, .int (jI (120 + r))), (7, .int (jI sm))]) hx hb dX9_differs_270 hl (by decide) rfl (fun ls hl => ?_)
                                  have lp272 : ∀ (nn : Nat) (k : Int) (H : Heap) (locs : List Loc) (ls : Array Slot), (5 - k) < (nn : Int) → (0 ≤ k ∧ k ≤ 5) → wd D tc base (ad, cnt, X20, Y, ln) H → va_S (frA base) s.heap H locs → lv_has ls 12 [(0, .ref (ad 40 0)), (1, .int (jI sv)), (2, .int (jI x)), (3, .int (jI nz)), (4, .int (jI r)), (5, .int (jI ((30 * sv) + r))), (6, .int (jI (120 + r))), (8, .int (jI k))] → W p l e ({ frames := 2, cells := 0, slots := 0, locals := 53 } : Room) s m ([.ref (ad 40 0), .int (jI sv), .int (jI x)] : List Value).toArray below meth c H locs 0 0 (MQ below (QI D tc base (fun z u => ∃ X1 : Nat → Int → Int → Int, u = (ad, cnt, X1, Y, ln) ∧ Rng X1 ∧ Frm [4001, 7100, 7200, 7300, 7400, 7500, 8000, 7000, 8100, 7700, 7800, 7900, 7600, 4042, 4043, 4044] X X1 ∧ MInv X1 ∧ (-2147483648 ≤ z ∧ z ≤ 2147483647))) ([.ref (ad 40 0), .int (jI sv), .int (jI x)] : List Value).toArray s 0 0 (frA base)) (F0 m 272 ls []) := by
                                    intro nn
                                    induction nn with
                                    | zero => intro k H locs ls hm hk hw hS hl; exfalso; omega
                                    | succ nn ih272 =>
                                      intro k H locs ls hm hk hw hS hl
                                      refine lv_iload hx hb dX9_differs_272 (lv_at hl 7 rfl) ?_
                                      refine lv_aload_n hx hb dX9_differs_274 rfl (lv_at hl 0 rfl) ?_
                                      refine x_geto hx hb hf9 hw (by omega) (by omega) sl_40_31 lk87 dX9_differs_275 ?_
                                      refine lv_iload hx hb dX9_differs_278 (lv_at hl 5 rfl) ?_
                                      refine x_iald hx hb hK.1 hw (by omega) (by omega) ar_72 (len_E ar_72 (by decide)) (by omega) (by omega) (by omega) dX9_differs_280 ?_
                                      have f144 : 0 ≤ X20 72 0 ((30 * sv) + r) ∧ X20 72 0 ((30 * sv) + r) ≤ 5 := hRX20 72 0 ((30 * sv) + r)
                                      refine x_icmp_ge (tgt := 411) hx hb (by omega) (by omega) dX9_differs_281 (by decide) (fun c145 => ?_) (fun c145 => ?_)
                                      · refine lv_iinc (v := jI (r + 1)) (lv' := [(4, .int (jI (r + 1))), (0, .ref (ad 40 0)), (1, .int (jI sv)), (2, .int (jI x)), (3, .int (jI nz)), (5, .int (jI ((30 * sv) + r))), (6, .int (jI (120 + r))), (8, .int (jI k))]) hx hb dX9_differs_411 hl (k := 4) rfl (jI_add _ _) (by decide) rfl (fun ls hl => ?_)
                                        refine lv_goto (tgt := 74) hx hb dX9_differs_414 (by decide) ?_
                                        exact ih74 nz (r + 1) _ _ _ (by omega) (by omega) (by omega) hw hS (lv_sub hl [1, 2, 3, 4, 0] rfl)
                                      · refine lv_aload_n hx hb dX9_differs_284 rfl (lv_at hl 0 rfl) ?_
                                        refine x_geto hx hb hf9 hw (by omega) (by omega) sl_40_34 lk96 dX9_differs_285 ?_
                                        refine lv_iconst (v := jI 5) hx hb dX9_differs_288 rfl ?_
                                        refine lv_iload hx hb dX9_differs_289 (lv_at hl 5 rfl) ?_
                                        refine x_imul hx hb dX9_differs_291 ?_
                                        refine lv_iload hx hb dX9_differs_292 (lv_at hl 7 rfl) ?_
                                        refine x_iadd hx hb dX9_differs_294 ?_
                                        obtain ⟨hv1, hv2, hv3⟩ := (hMIX20.2.2.1 sv r (by omega) (by omega) (by omega) (by omega)).2 k (by omega) (by omega)
                                        refine x_lald hx hb hK.1 hw (by omega) (by omega) ar_75 (len_E ar_75 (by decide)) (by omega) (by omega) (by omega) dX9_differs_295 ?_
                                        have f146 : (-9223372036854775808) ≤ X20 75 0 ((5 * ((30 * sv) + r)) + k) ∧ X20 75 0 ((5 * ((30 * sv) + r)) + k) ≤ 9223372036854775807 := hRX20 75 0 ((5 * ((30 * sv) + r)) + k)
                                        refine lv_lstore (lv' := [(9, .long (jL (X20 75 0 ((5 * ((30 * sv) + r)) + k)))), (0, .ref (ad 40 0)), (1, .int (jI sv)), (2, .int (jI x)), (3, .int (jI nz)), (4, .int (jI r)), (5, .int (jI ((30 * sv) + r))), (6, .int (jI (120 + r))), (8, .int (jI k))]) hx hb dX9_differs_296 hl (by decide) rfl (fun ls hl => ?_)
                                        refine lv_lload hx hb dX9_differs_298 (lv_at hl 0 rfl) ?_
                                        refine lv_aload_n hx hb dX9_differs_300 rfl (lv_at hl 1 rfl) ?_
                                        refine x_geto hx hb hf9 hw (by omega) (by omega) sl_40_34 lk96 dX9_differs_301 ?_
                                        refine lv_iconst (v := jI 5) hx hb dX9_differs_304 rfl ?_
                                        refine lv_iload hx hb dX9_differs_305 (lv_at hl 7 rfl) ?_
                                        refine x_imul hx hb dX9_differs_307 ?_
                                        refine lv_iload hx hb dX9_differs_308 (lv_at hl 8 rfl) ?_
                                        refine x_iadd hx hb dX9_differs_310 ?_
                                        refine x_lald hx hb hK.1 hw (by omega) (by omega) ar_75 (len_E ar_75 (by decide)) (by omega) (by omega) (by omega) dX9_differs_311 ?_
                                        have f147 : (-9223372036854775808) ≤ X20 75 0 ((5 * (120 + r)) + k) ∧ X20 75 0 ((5 * (120 + r)) + k) ≤ 9223372036854775807 := hRX20 75 0 ((5 * (120 + r)) + k)
                                        refine x_lcmp hx hb (by omega) (by omega) dX9_differs_312 ?_
                                        obtain ⟨z148, ez148⟩ : ∃ y : Int, y = cmpZ (X20 75 0 ((5 * ((30 * sv) + r)) + k)) (X20 75 0 ((5 * (120 + r)) + k)) := ⟨_, rfl⟩
                                        rw [← ez148]
                                        have gz148 : (z148 < 0 ↔ ((X20 75 0 ((5 * ((30 * sv) + r)) + k)) : Int) < (X20 75 0 ((5 * (120 + r)) + k))) ∧ (z148 = 0 ↔ ((X20 75 0 ((5 * ((30 * sv) + r)) + k)) : Int) = (X20 75 0 ((5 * (120 + r)) + k))) ∧ -1 ≤ z148 ∧ z148 ≤ 1 := by rw [ez148]; exact ⟨cmpZ_lt, cmpZ_eq, (cmpZ_r _ _).1, (cmpZ_r _ _).2⟩
                                        clear ez148
                                        refine x_if_eq (tgt := 320) hx hb (by omega) dX9_differs_313 (by decide) (fun c149 => ?_) (fun c149 => ?_)
                                        · refine lv_iconst (v := jI 0) hx hb dX9_differs_320 rfl ?_
                                          refine lv_istore (lv' := [(11, .int (jI 0)), (9, .long (jL (X20 75 0 ((5 * ((30 * sv) + r)) + k)))), (0, .ref (ad 40 0)), (1, .int (jI sv)), (2, .int (jI x)), (3, .int (jI nz)), (4, .int (jI r)), (5, .int (jI ((30 * sv) + r))), (6, .int (jI (120 + r))), (8, .int (jI k))]) hx hb dX9_differs_321 hl (by decide) rfl (fun ls hl => ?_)
                                          refine lv_iload hx hb dX9_differs_323 (lv_at hl 0 rfl) ?_
                                          refine x_if_neF (tgt := 374) hx hb (by omega) (by decide) dX9_differs_325 (by decide) ?_
                                          refine lv_aload_n hx hb dX9_differs_328 rfl (lv_at hl 2 rfl) ?_
                                          refine x_geto hx hb hf9 hw (by omega) (by omega) sl_40_33 lk93 dX9_differs_329 ?_
                                          refine lv_iconst (v := jI 5) hx hb dX9_differs_332 rfl ?_
                                          refine lv_iload hx hb dX9_differs_333 (lv_at hl 7 rfl) ?_
                                          refine x_imul hx hb dX9_differs_335 ?_
                                          refine lv_iload hx hb dX9_differs_336 (lv_at hl 9 rfl) ?_
                                          refine x_iadd hx hb dX9_differs_338 ?_
                                          refine x_iald hx hb hK.1 hw (by omega) (by omega) ar_74 (len_E ar_74 (by decide)) (by omega) (by omega) (by omega) dX9_differs_339 ?_
                                          have f150 : 0 ≤ X20 74 0 ((5 * ((30 * sv) + r)) + k) ∧ X20 74 0 ((5 * ((30 * sv) + r)) + k) ≤ 5 := hRX20 74 0 ((5 * ((30 * sv) + r)) + k)
                                          refine lv_iconst (v := jI 2) hx hb dX9_differs_340 rfl ?_
                                          refine x_icmp_le (tgt := 378) hx hb (by omega) (by omega) dX9_differs_341 (by decide) (fun c151 => ?_) (fun c151 => ?_)
                                          · refine lv_iconst (v := jI 0) hx hb dX9_differs_378 rfl ?_
                                            refine lv_istore (lv' := [(11, .int (jI 0)), (9, .long (jL (X20 75 0 ((5 * ((30 * sv) + r)) + k)))), (0, .ref (ad 40 0)), (1, .int (jI sv)), (2, .int (jI x)), (3, .int (jI nz)), (4, .int (jI r)), (5, .int (jI ((30 * sv) + r))), (6, .int (jI (120 + r))), (8, .int (jI k))]) hx hb dX9_differs_379 hl (by decide) rfl (fun ls hl => ?_)
                                            refine lv_iload hx hb dX9_differs_381 (lv_at hl 0 rfl) ?_
                                            refine x_if_eqT (tgt := 405) hx hb (by omega) (by decide) dX9_differs_383 (by decide) ?_
                                            refine lv_iinc (v := jI (k + 1)) (lv' := [(8, .int (jI (k + 1))), (11, .int (jI 0)), (9, .long (jL (X20 75 0 ((5 * ((30 * sv) + r)) + k)))), (0, .ref (ad 40 0)), (1, .int (jI sv)), (2, .int (jI x)), (3, .int (jI nz)), (4, .int (jI r)), (5, .int (jI ((30 * sv) + r))), (6, .int (jI (120 + r)))]) hx hb dX9_differs_405 hl (k := 9) rfl (jI_add _ _) (by decide) rfl (fun ls hl => ?_)
                                            refine lv_goto (tgt := 272) hx hb dX9_differs_408 (by decide) ?_
                                            exact ih272 (k + 1) _ _ _ (by omega) (by omega) hw hS (lv_sub hl [3, 4, 5, 6, 7, 8, 9, 0] rfl)
                                          · refine lv_lload hx hb dX9_differs_344 (lv_at hl 1 rfl) ?_
                                            refine lv_lconst (v := jL 0) hx hb dX9_differs_346 (by decide) ?_
                                            refine x_lcmp hx hb (by omega) (by omega) dX9_differs_347 ?_
                                            obtain ⟨z152, ez152⟩ : ∃ y : Int, y = cmpZ (X20 75 0 ((5 * ((30 * sv) + r)) + k)) 0 := ⟨_, rfl⟩
                                            rw [← ez152]
                                            have gz152 : (z152 < 0 ↔ ((X20 75 0 ((5 * ((30 * sv) + r)) + k)) : Int) < 0) ∧ (z152 = 0 ↔ ((X20 75 0 ((5 * ((30 * sv) + r)) + k)) : Int) = 0) ∧ -1 ≤ z152 ∧ z152 ≤ 1 := by rw [ez152]; exact ⟨cmpZ_lt, cmpZ_eq, (cmpZ_r _ _).1, (cmpZ_r _ _).2⟩
                                            clear ez152
                                            refine x_if_lt (tgt := 378) hx hb (by omega) dX9_differs_348 (by decide) (fun c153 => ?_) (fun c153 => ?_)
                                            · refine lv_iconst (v := jI 0) hx hb dX9_differs_378 rfl ?_
                                              refine lv_istore (lv' := [(11, .int (jI 0)), (9, .long (jL (X20 75 0 ((5 * ((30 * sv) + r)) + k)))), (0, .ref (ad 40 0)), (1, .int (jI sv)), (2, .int (jI x)), (3, .int (jI nz)), (4, .int (jI r)), (5, .int (jI ((30 * sv) + r))), (6, .int (jI (120 + r))), (8, .int (jI k))]) hx hb dX9_differs_379 hl (by decide) rfl (fun ls hl => ?_)
                                              refine lv_iload hx hb dX9_differs_381 (lv_at hl 0 rfl) ?_
                                              refine x_if_eqT (tgt := 405) hx hb (by omega) (by decide) dX9_differs_383 (by decide) ?_
                                              refine lv_iinc (v := jI (k + 1)) (lv' := [(8, .int (jI (k + 1))), (11, .int (jI 0)), (9, .long (jL (X20 75 0 ((5 * ((30 * sv) + r)) + k)))), (0, .ref (ad 40 0)), (1, .int (jI sv)), (2, .int (jI x)), (3, .int (jI nz)), (4, .int (jI r)), (5, .int (jI ((30 * sv) + r))), (6, .int (jI (120 + r)))]) hx hb dX9_differs_405 hl (k := 9) rfl (jI_add _ _) (by decide) rfl (fun ls hl => ?_)
                                              refine lv_goto (tgt := 272) hx hb dX9_differs_408 (by decide) ?_
                                              exact ih272 (k + 1) _ _ _ (by omega) (by omega) hw hS (lv_sub hl [3, 4, 5, 6, 7, 8, 9, 0] rfl)
                                            · refine lv_aload_n hx hb dX9_differs_351 rfl (lv_at hl 2 rfl) ?_
                                              refine lv_sipush (v := jI 150) hx hb dX9_differs_352 (by decide) ?_
                                              refine lv_iload_n hx hb dX9_differs_355 rfl (lv_at hl 3 rfl) ?_
                                              refine x_imul hx hb dX9_differs_356 ?_
                                              refine lv_lload hx hb dX9_differs_357 (lv_at hl 1 rfl) ?_
                                              refine x_l2i hx hb dX9_differs_359 ?_
                                              refine x_iadd hx hb dX9_differs_360 ?_
                                              refine lv_sipush (v := jI 600) hx hb dX9_differs_361 (by decide) ?_
                                              refine lv_lload hx hb dX9_differs_364 (lv_at hl 1 rfl) ?_
                                              refine x_l2i hx hb dX9_differs_366 ?_
                                              refine x_iadd hx hb dX9_differs_367 ?_
                                              refine gos_i (run_V (As := [.int (jI ((150 * sv) + (X20 75 0 ((5 * ((30 * sv) + r)) + k)))), .int (jI (600 + (X20 75 0 ((5 * ((30 * sv) + r)) + k))))]) (rest := []) hx hb hml hown hts (c_X9_rowsDiffer l D tc base ad cnt X20 Y ln hRX20 hFx hMIX20 ((150 * sv) + (X20 75 0 ((5 * ((30 * sv) + r)) + k))) (600 + (X20 75 0 ((5 * ((30 * sv) + r)) + k))) (by omega) (by omega)) (cwV 2 hts gX9_differs_X9_rowsDiffer rfl rfl rfl (by decide +kernel) ⟨Nat.le_of_ble_eq_true rfl, Nat.le_of_ble_eq_true rfl⟩) hK hw (by omega) (by omega) sl_40_0 rfl rfl hl.1 rfl (Nat.le_of_ble_eq_true rfl) dX9_differs_368 ⟨Nat.le_of_ble_eq_true rfl, Nat.le_of_ble_eq_true rfl⟩) hS (fun z154 u155 H locs p156 hw hS => ?_)
                                              obtain ⟨eu155, p156⟩ := p156
                                              subst eu155
                                              refine x_if_eq (tgt := 378) hx hb (by omega) dX9_differs_371 (by decide) (fun c157 => ?_) (fun c157 => ?_)
                                              · refine lv_iconst (v := jI 0) hx hb dX9_differs_378 rfl ?_
                                                refine lv_istore (lv' := [(11, .int (jI 0)), (9, .long (jL (X20 75 0 ((5 * ((30 * sv) + r)) + k)))), (0, .ref (ad 40 0)), (1, .int (jI sv)), (2, .int (jI x)), (3, .int (jI nz)), (4, .int (jI r)), (5, .int (jI ((30 * sv) + r))), (6, .int (jI (120 + r))), (8, .int (jI k))]) hx hb dX9_differs_379 hl (by decide) rfl (fun ls hl => ?_)
                                                refine lv_iload hx hb dX9_differs_381 (lv_at hl 0 rfl) ?_
                                                refine x_if_eqT (tgt := 405) hx hb (by omega) (by decide) dX9_differs_383 (by decide) ?_
                                                refine lv_iinc (v := jI (k + 1)) (lv' := [(8, .int (jI (k + 1))), (11, .int (jI 0)), (9, .long (jL (X20 75 0 ((5 * ((30 * sv) + r)) + k)))), (0, .ref (ad 40 0)), (1, .int (jI sv)), (2, .int (jI x)), (3, .int (jI nz)), (4, .int (jI r)), (5, .int (jI ((30 * sv) + r))), (6, .int (jI (120 + r)))]) hx hb dX9_differs_405 hl (k := 9) rfl (jI_add _ _) (by decide) rfl (fun ls hl => ?_)
                                                refine lv_goto (tgt := 272) hx hb dX9_differs_408 (by decide) ?_
                                                exact ih272 (k + 1) _ _ _ (by omega) (by omega) hw hS (lv_sub hl [3, 4, 5, 6, 7, 8, 9, 0] rfl)
                                              · refine lv_iconst (v := jI 1) hx hb dX9_differs_374 rfl ?_
                                                refine lv_goto (tgt := 379) hx hb dX9_differs_375 (by decide) ?_
                                                refine lv_istore (lv' := [(11, .int (jI 1)), (9, .long (jL (X20 75 0 ((5 * ((30 * sv) + r)) + k)))), (0, .ref (ad 40 0)), (1, .int (jI sv)), (2, .int (jI x)), (3, .int (jI nz)), (4, .int (jI r)), (5, .int (jI ((30 * sv) + r))), (6, .int (jI (120 + r))), (8, .int (jI k))]) hx hb dX9_differs_379 hl (by decide) rfl (fun ls hl => ?_)
                                                refine lv_iload hx hb dX9_differs_381 (lv_at hl 0 rfl) ?_
                                                refine x_if_eqF (tgt := 405) hx hb (by omega) (by decide) dX9_differs_383 (by decide) ?_
                                                refine lv_bipush (v := jI 100) hx hb dX9_differs_386 (by decide) ?_
                                                refine lv_iload hx hb dX9_differs_388 (lv_at hl 6 rfl) ?_
                                                refine x_imul hx hb dX9_differs_390 ?_
                                                refine lv_aload_n hx hb dX9_differs_391 rfl (lv_at hl 2 rfl) ?_
                                                refine x_geto hx hb hf9 hw (by omega) (by omega) sl_40_32 lk90 dX9_differs_392 ?_
                                                refine lv_iconst (v := jI 5) hx hb dX9_differs_395 rfl ?_
                                                refine lv_iload hx hb dX9_differs_396 (lv_at hl 7 rfl) ?_
                                                refine x_imul hx hb dX9_differs_398 ?_
                                                refine lv_iload hx hb dX9_differs_399 (lv_at hl 9 rfl) ?_
                                                refine x_iadd hx hb dX9_differs_401 ?_
                                                refine x_iald hx hb hK.1 hw (by omega) (by omega) ar_73 (len_E ar_73 (by decide)) (by omega) (by omega) (by omega) dX9_differs_402 ?_
                                                have f158 : 0 ≤ X20 73 0 ((5 * ((30 * sv) + r)) + k) ∧ X20 73 0 ((5 * ((30 * sv) + r)) + k) ≤ 19 := hRX20 73 0 ((5 * ((30 * sv) + r)) + k)
                                                refine x_iadd hx hb dX9_differs_403 ?_
                                                refine ret_i (mc := 0) (ms := 0) hx hb hr hlocks hw hS (by omega) (by omega) dX9_differs_404 ?_
                                                exact ⟨X20, rfl, hRX20, hFX20, hMIX20, by omega⟩
                                        · refine lv_iconst (v := jI 1) hx hb dX9_differs_316 rfl ?_
                                          refine lv_goto (tgt := 321) hx hb dX9_differs_317 (by decide) ?_
                                          refine lv_istore (lv' := [(11, .int (jI 1)), (9, .long (jL (X20 75 0 ((5 * ((30 * sv) + r)) + k)))), (0, .ref (ad 40 0)), (1, .int (jI sv)), (2, .int (jI x)), (3, .int (jI nz)), (4, .int (jI r)), (5, .int (jI ((30 * sv) + r))), (6, .int (jI (120 + r))), (8, .int (jI k))]) hx hb dX9_differs_321 hl (by decide) rfl (fun ls hl => ?_)
                                          refine lv_iload hx hb dX9_differs_323 (lv_at hl 0 rfl) ?_
                                          refine x_if_neT (tgt := 374) hx hb (by omega) (by decide) dX9_differs_325 (by decide) ?_
                                          refine lv_iconst (v := jI 1) hx hb dX9_differs_374 rfl ?_
                                          refine lv_goto (tgt := 379) hx hb dX9_differs_375 (by decide) ?_
                                          refine lv_istore (lv' := [(11, .int (jI 1)), (9, .long (jL (X20 75 0 ((5 * ((30 * sv) + r)) + k)))), (0, .ref (ad 40 0)), (1, .int (jI sv)), (2, .int (jI x)), (3, .int (jI nz)), (4, .int (jI r)), (5, .int (jI ((30 * sv) + r))), (6, .int (jI (120 + r))), (8, .int (jI k))]) hx hb dX9_differs_379 hl (by decide) rfl (fun ls hl => ?_)
                                          refine lv_iload hx hb dX9_differs_381 (lv_at hl 0 rfl) ?_
                                          refine x_if_eqF (tgt := 405) hx hb (by omega) (by decide) dX9_differs_383 (by decide) ?_
                                          refine lv_bipush (v := jI 100) hx hb dX9_differs_386 (by decide) ?_
                                          refine lv_iload hx hb dX9_differs_388 (lv_at hl 6 rfl) ?_
                                          refine x_imul hx hb dX9_differs_390 ?_
                                          refine lv_aload_n hx hb dX9_differs_391 rfl (lv_at hl 2 rfl) ?_
                                          refine x_geto hx hb hf9 hw (by omega) (by omega) sl_40_32 lk90 dX9_differs_392 ?_
                                          refine lv_iconst (v := jI 5) hx hb dX9_differs_395 rfl ?_
                                          refine lv_iload hx hb dX9_differs_396 (lv_at hl 7 rfl) ?_
                                          refine x_imul hx hb dX9_differs_398 ?_
                                          refine lv_iload hx hb dX9_differs_399 (lv_at hl 9 rfl) ?_
                                          refine x_iadd hx hb dX9_differs_401 ?_
                                          refine x_iald hx hb hK.1 hw (by omega) (by omega) ar_73 (len_E ar_73 (by decide)) (by omega) (by omega) (by omega) dX9_differs_402 ?_
                                          have f159 : 0 ≤ X20 73 0 ((5 * ((30 * sv) + r)) + k) ∧ X20 73 0 ((5 * ((30 * sv) + r)) + k) ≤ 19 := hRX20 73 0 ((5 * ((30 * sv) + r)) + k)
                                          refine x_iadd hx hb dX9_differs_403 ?_
                                          refine ret_i (mc := 0) (ms := 0) hx hb hr hlocks hw hS (by omega) (by omega) dX9_differs_404 ?_
                                          exact ⟨X20, rfl, hRX20, hFX20, hMIX20, by omega⟩
                                  exact lp272 (5 - 0 : Int).toNat.succ 0 _ _ _ (by omega) (by omega) hw hS (lv_sub hl [1, 2, 3, 4, 5, 6, 7, 0] rfl)
                                · refine lv_bipush (v := jI 100) hx hb dX9_differs_260 (by decide) ?_
                                  refine lv_iload hx hb dX9_differs_262 (lv_at hl 4 rfl) ?_
                                  refine x_imul hx hb dX9_differs_264 ?_
                                  refine lv_bipush (v := jI 99) hx hb dX9_differs_265 (by decide) ?_
                                  refine x_iadd hx hb dX9_differs_267 ?_
                                  refine ret_i (mc := 0) (ms := 0) hx hb hr hlocks hw hS (by omega) (by omega) dX9_differs_268 ?_
                                  exact ⟨X20, rfl, hRX20, hFX20, hMIX20, by omega⟩
                              · refine lv_aload_n hx hb dX9_differs_188 rfl (lv_at hl 0 rfl) ?_
                                refine x_geto hx hb hf9 hw (by omega) (by omega) sl_40_32 lk90 dX9_differs_189 ?_
                                refine lv_iconst (v := jI 5) hx hb dX9_differs_192 rfl ?_
                                refine lv_iload hx hb dX9_differs_193 (lv_at hl 5 rfl) ?_
                                refine x_imul hx hb dX9_differs_195 ?_
                                refine lv_iload hx hb dX9_differs_196 (lv_at hl 8 rfl) ?_
                                refine x_iadd hx hb dX9_differs_198 ?_
                                refine x_iald hx hb hK.1 hw (by omega) (by omega) ar_73 (len_E ar_73 (by decide)) (by omega) (by omega) (by omega) dX9_differs_199 ?_
                                have f160 : 0 ≤ X20 73 0 ((5 * ((30 * sv) + r)) + k) ∧ X20 73 0 ((5 * ((30 * sv) + r)) + k) ≤ 19 := hRX20 73 0 ((5 * ((30 * sv) + r)) + k)
                                refine lv_aload_n hx hb dX9_differs_200 rfl (lv_at hl 0 rfl) ?_
                                refine x_geto hx hb hf9 hw (by omega) (by omega) sl_40_32 lk90 dX9_differs_201 ?_
                                refine lv_iconst (v := jI 5) hx hb dX9_differs_204 rfl ?_
                                refine lv_iload hx hb dX9_differs_205 (lv_at hl 6 rfl) ?_
                                refine x_imul hx hb dX9_differs_207 ?_
                                refine lv_iload hx hb dX9_differs_208 (lv_at hl 8 rfl) ?_
                                refine x_iadd hx hb dX9_differs_210 ?_
                                refine x_iald hx hb hK.1 hw (by omega) (by omega) ar_73 (len_E ar_73 (by decide)) (by omega) (by omega) (by omega) dX9_differs_211 ?_
                                have f161 : 0 ≤ X20 73 0 ((5 * (120 + r)) + k) ∧ X20 73 0 ((5 * (120 + r)) + k) ≤ 19 := hRX20 73 0 ((5 * (120 + r)) + k)
                                refine x_icmp_ne (tgt := 246) hx hb (by omega) (by omega) dX9_differs_212 (by decide) (fun c162 => ?_) (fun c162 => ?_)
                                · refine lv_iconst (v := jI 0) hx hb dX9_differs_246 rfl ?_
                                  refine lv_istore (lv' := [(7, .int (jI 0)), (0, .ref (ad 40 0)), (1, .int (jI sv)), (2, .int (jI x)), (3, .int (jI nz)), (4, .int (jI r)), (5, .int (jI ((30 * sv) + r))), (6, .int (jI (120 + r))), (8, .int (jI k))]) hx hb dX9_differs_247 hl (by decide) rfl (fun ls hl => ?_)
                                  refine lv_iinc (v := jI (k + 1)) (lv' := [(8, .int (jI (k + 1))), (7, .int (jI 0)), (0, .ref (ad 40 0)), (1, .int (jI sv)), (2, .int (jI x)), (3, .int (jI nz)), (4, .int (jI r)), (5, .int (jI ((30 * sv) + r))), (6, .int (jI (120 + r)))]) hx hb dX9_differs_249 hl (k := 8) rfl (jI_add _ _) (by decide) rfl (fun ls hl => ?_)
                                  refine lv_goto (tgt := 171) hx hb dX9_differs_252 (by decide) ?_
                                  exact ih171 0 (k + 1) _ _ _ (by omega) (by omega) (by omega) hw hS (lv_sub hl [2, 3, 4, 5, 6, 7, 8, 1, 0] rfl)
                                · refine lv_aload_n hx hb dX9_differs_215 rfl (lv_at hl 0 rfl) ?_
                                  refine x_geto hx hb hf9 hw (by omega) (by omega) sl_40_33 lk93 dX9_differs_216 ?_
                                  refine lv_iconst (v := jI 5) hx hb dX9_differs_219 rfl ?_
                                  refine lv_iload hx hb dX9_differs_220 (lv_at hl 5 rfl) ?_
                                  refine x_imul hx hb dX9_differs_222 ?_
                                  refine lv_iload hx hb dX9_differs_223 (lv_at hl 8 rfl) ?_
                                  refine x_iadd hx hb dX9_differs_225 ?_
                                  refine x_iald hx hb hK.1 hw (by omega) (by omega) ar_74 (len_E ar_74 (by decide)) (by omega) (by omega) (by omega) dX9_differs_226 ?_
                                  have f163 : 0 ≤ X20 74 0 ((5 * ((30 * sv) + r)) + k) ∧ X20 74 0 ((5 * ((30 * sv) + r)) + k) ≤ 5 := hRX20 74 0 ((5 * ((30 * sv) + r)) + k)
                                  refine lv_aload_n hx hb dX9_differs_227 rfl (lv_at hl 0 rfl) ?_
                                  refine x_geto hx hb hf9 hw (by omega) (by omega) sl_40_33 lk93 dX9_differs_228 ?_
                                  refine lv_iconst (v := jI 5) hx hb dX9_differs_231 rfl ?_
                                  refine lv_iload hx hb dX9_differs_232 (lv_at hl 6 rfl) ?_
                                  refine x_imul hx hb dX9_differs_234 ?_
                                  refine lv_iload hx hb dX9_differs_235 (lv_at hl 8 rfl) ?_
                                  refine x_iadd hx hb dX9_differs_237 ?_
                                  refine x_iald hx hb hK.1 hw (by omega) (by omega) ar_74 (len_E ar_74 (by decide)) (by omega) (by omega) (by omega) dX9_differs_238 ?_
                                  have f164 : 0 ≤ X20 74 0 ((5 * (120 + r)) + k) ∧ X20 74 0 ((5 * (120 + r)) + k) ≤ 5 := hRX20 74 0 ((5 * (120 + r)) + k)
                                  refine x_icmp_ne (tgt := 246) hx hb (by omega) (by omega) dX9_differs_239 (by decide) (fun c165 => ?_) (fun c165 => ?_)
                                  · refine lv_iconst (v := jI 0) hx hb dX9_differs_246 rfl ?_
                                    refine lv_istore (lv' := [(7, .int (jI 0)), (0, .ref (ad 40 0)), (1, .int (jI sv)), (2, .int (jI x)), (3, .int (jI nz)), (4, .int (jI r)), (5, .int (jI ((30 * sv) + r))), (6, .int (jI (120 + r))), (8, .int (jI k))]) hx hb dX9_differs_247 hl (by decide) rfl (fun ls hl => ?_)
                                    refine lv_iinc (v := jI (k + 1)) (lv' := [(8, .int (jI (k + 1))), (7, .int (jI 0)), (0, .ref (ad 40 0)), (1, .int (jI sv)), (2, .int (jI x)), (3, .int (jI nz)), (4, .int (jI r)), (5, .int (jI ((30 * sv) + r))), (6, .int (jI (120 + r)))]) hx hb dX9_differs_249 hl (k := 8) rfl (jI_add _ _) (by decide) rfl (fun ls hl => ?_)
                                    refine lv_goto (tgt := 171) hx hb dX9_differs_252 (by decide) ?_
                                    exact ih171 0 (k + 1) _ _ _ (by omega) (by omega) (by omega) hw hS (lv_sub hl [2, 3, 4, 5, 6, 7, 8, 1, 0] rfl)
                                  · refine lv_iconst (v := jI 1) hx hb dX9_differs_242 rfl ?_
                                    refine lv_goto (tgt := 247) hx hb dX9_differs_243 (by decide) ?_
                                    refine lv_istore (lv' := [(7, .int (jI 1)), (0, .ref (ad 40 0)), (1, .int (jI sv)), (2, .int (jI x)), (3, .int (jI nz)), (4, .int (jI r)), (5, .int (jI ((30 * sv) + r))), (6, .int (jI (120 + r))), (8, .int (jI k))]) hx hb dX9_differs_247 hl (by decide) rfl (fun ls hl => ?_)
                                    refine lv_iinc (v := jI (k + 1)) (lv' := [(8, .int (jI (k + 1))), (7, .int (jI 1)), (0, .ref (ad 40 0)), (1, .int (jI sv)), (2, .int (jI x)), (3, .int (jI nz)), (4, .int (jI r)), (5, .int (jI ((30 * sv) + r))), (6, .int (jI (120 + r)))]) hx hb dX9_differs_249 hl (k := 8) rfl (jI_add _ _) (by decide) rfl (fun ls hl => ?_)
                                    refine lv_goto (tgt := 171) hx hb dX9_differs_252 (by decide) ?_
                                    exact ih171 1 (k + 1) _ _ _ (by omega) (by omega) (by omega) hw hS (lv_sub hl [2, 3, 4, 5, 6, 7, 8, 1, 0] rfl)
                        exact lp171 (5 - 0 : Int).toNat.succ 1 0 _ _ _ (by omega) (by omega) (by omega) hw hS (lv_sub hl [4, 5, 6, 7, 8, 3, 2, 1, 0] rfl)
                  · refine lv_bipush (v := jI 100) hx hb dX9_differs_102 (by decide) ?_
                    refine lv_iload hx hb dX9_differs_104 (lv_at hl 4 rfl) ?_
                    refine x_imul hx hb dX9_differs_106 ?_
                    refine lv_bipush (v := jI 99) hx hb dX9_differs_107 (by decide) ?_
                    refine x_iadd hx hb dX9_differs_109 ?_
                    refine ret_i (mc := 0) (ms := 0) hx hb hr hlocks hw hS (by omega) (by omega) dX9_differs_110 ?_
                    exact ⟨X20, rfl, hRX20, hFX20, hMIX20, by omega⟩
          exact lp74 (30 - 0 : Int).toNat.succ (X20 70 0 4) 0 _ _ _ (by omega) (by omega) (by omega) hw hS (lv_sub hl [2, 3, 4, 1, 0] rfl)
        · refine lv_aload_n hx hb dX9_differs_55 rfl (lv_at hl 0 rfl) ?_
          refine x_geto hx hb hf9 hw (by omega) (by omega) sl_40_29 lk81 dX9_differs_56 ?_
          refine lv_iload_n hx hb dX9_differs_59 rfl (lv_at hl 1 rfl) ?_
          refine x_iald hx hb hK.1 hw (by omega) (by omega) ar_70 (len_E ar_70 (by decide)) (by omega) (by omega) (by omega) dX9_differs_60 ?_
          have f166 : 0 ≤ X20 70 0 sv ∧ X20 70 0 sv ≤ 30 := hRX20 70 0 sv
          refine lv_goto (tgt := 70) hx hb dX9_differs_61 (by decide) ?_
          refine lv_istore_n (lv' := [(3, .int (jI (X20 70 0 sv))), (0, .ref (ad 40 0)), (1, .int (jI sv)), (2, .int (jI x))]) hx hb dX9_differs_70 rfl hl (by decide) rfl (fun ls hl => ?_)
          refine lv_iconst (v := jI 0) hx hb dX9_differs_71 rfl ?_
          refine lv_istore (lv' := [(4, .int (jI 0)), (3, .int (jI (X20 70 0 sv))), (0, .ref (ad 40 0)), (1, .int (jI sv)), (2, .int (jI x))]) hx hb dX9_differs_72 hl (by decide) rfl (fun ls hl => ?_)
          have lp74 : ∀ (nn : Nat) (nz : Int) (r : Int) (H : Heap) (locs : List Loc) (ls : Array Slot), (30 - r) < (nn : Int) → (0 ≤ nz ∧ nz ≤ 30) → (0 ≤ r ∧ r ≤ 30) → wd D tc base (ad, cnt, X20, Y, ln) H → va_S (frA base) s.heap H locs → lv_has ls 12 [(0, .ref (ad 40 0)), (1, .int (jI sv)), (2, .int (jI x)), (3, .int (jI nz)), (4, .int (jI r))] → W p l e ({ frames := 2, cells := 0, slots := 0, locals := 53 } : Room) s m ([.ref (ad 40 0), .int (jI sv), .int (jI x)] : List Value).toArray below meth c H locs 0 0 (MQ below (QI D tc base (fun z u => ∃ X1 : Nat → Int → Int → Int, u = (ad, cnt, X1, Y, ln) ∧ Rng X1 ∧ Frm [4001, 7100, 7200, 7300, 7400, 7500, 8000, 7000, 8100, 7700, 7800, 7900, 7600, 4042, 4043, 4044] X X1 ∧ MInv X1 ∧ (-2147483648 ≤ z ∧ z ≤ 2147483647))) ([.ref (ad 40 0), .int (jI sv), .int (jI x)] : List Value).toArray s 0 0 (frA base)) (F0 m 74 ls []) := by
            intro nn
            induction nn with
            | zero => intro nz r H locs ls hm hnz hr0 hw hS hl; exfalso; omega
            | succ nn ih74 =>
              intro nz r H locs ls hm hnz hr0 hw hS hl
              refine lv_iload hx hb dX9_differs_74 (lv_at hl 4 rfl) ?_
              refine lv_iload_n hx hb dX9_differs_76 rfl (lv_at hl 3 rfl) ?_
              refine x_icmp_ge (tgt := 417) hx hb (by omega) (by omega) dX9_differs_77 (by decide) (fun c167 => ?_) (fun c167 => ?_)
              · refine lv_iconst (v := jI (-1)) hx hb dX9_differs_417 rfl ?_
                refine ret_i (mc := 0) (ms := 0) hx hb hr hlocks hw hS (by omega) (by omega) dX9_differs_418 ?_
                exact ⟨X20, rfl, hRX20, hFX20, hMIX20, by omega⟩
              · refine lv_iload hx hb dX9_differs_80 (lv_at hl 4 rfl) ?_
                refine lv_aload_n hx hb dX9_differs_82 rfl (lv_at hl 0 rfl) ?_
                refine x_geto hx hb hf9 hw (by omega) (by omega) sl_40_29 lk81 dX9_differs_83 ?_
                refine lv_iload_n hx hb dX9_differs_86 rfl (lv_at hl 1 rfl) ?_
                refine x_iald hx hb hK.1 hw (by omega) (by omega) ar_70 (len_E ar_70 (by decide)) (by omega) (by omega) (by omega) dX9_differs_87 ?_
                have f168 : 0 ≤ X20 70 0 sv ∧ X20 70 0 sv ≤ 30 := hRX20 70 0 sv
                refine x_icmp_ge (tgt := 102) hx hb (by omega) (by omega) dX9_differs_88 (by decide) (fun c169 => ?_) (fun c169 => ?_)
                · refine lv_bipush (v := jI 100) hx hb dX9_differs_102 (by decide) ?_
                  refine lv_iload hx hb dX9_differs_104 (lv_at hl 4 rfl) ?_
                  refine x_imul hx hb dX9_differs_106 ?_
                  refine lv_bipush (v := jI 99) hx hb dX9_differs_107 (by decide) ?_
                  refine x_iadd hx hb dX9_differs_109 ?_
                  refine ret_i (mc := 0) (ms := 0) hx hb hr hlocks hw hS (by omega) (by omega) dX9_differs_110 ?_
                  exact ⟨X20, rfl, hRX20, hFX20, hMIX20, by omega⟩
                · refine lv_iload hx hb dX9_differs_91 (lv_at hl 4 rfl) ?_
                  refine lv_aload_n hx hb dX9_differs_93 rfl (lv_at hl 0 rfl) ?_
                  refine x_geto hx hb hf9 hw (by omega) (by omega) sl_40_29 lk81 dX9_differs_94 ?_
                  refine lv_iconst (v := jI 4) hx hb dX9_differs_97 rfl ?_
                  refine x_iald hx hb hK.1 hw (by omega) (by omega) ar_70 (len_E ar_70 (by decide)) (by omega) (by omega) (by omega) dX9_differs_98 ?_
                  have f170 : 0 ≤ X20 70 0 4 ∧ X20 70 0 4 ≤ 30 := hRX20 70 0 4
                  refine x_icmp_lt (tgt := 111) hx hb (by omega) (by omega) dX9_differs_99 (by decide) (fun c171 => ?_) (fun c171 => ?_)
                  · refine lv_bipush (v := jI 30) hx hb dX9_differs_111 (by decide) ?_
                    refine lv_iload_n hx hb dX9_differs_113 rfl (lv_at hl 1 rfl) ?_
                    refine x_imul hx hb dX9_differs_114 ?_
                    refine lv_iload hx hb dX9_differs_115 (lv_at hl 4 rfl) ?_
                    refine x_iadd hx hb dX9_differs_117 ?_
                    refine lv_istore (lv' := [(5, .int (jI ((30 * sv) + r))), (0, .ref (ad 40 0)), (1, .int (jI sv)), (2, .int (jI x)), (3, .int (jI nz)), (4, .int (jI r))]) hx hb dX9_differs_118 hl (by decide) rfl (fun ls hl => ?_)
                    refine lv_bipush (v := jI 120) hx hb dX9_differs_120 (by decide) ?_
                    refine lv_iload hx hb dX9_differs_122 (lv_at hl 5 rfl) ?_
                    refine x_iadd hx hb dX9_differs_124 ?_
                    refine lv_istore (lv' := [(6, .int (jI (120 + r))), (5, .int (jI ((30 * sv) + r))), (0, .ref (ad 40 0)), (1, .int (jI sv)), (2, .int (jI x)), (3, .int (jI nz)), (4, .int (jI r))]) hx hb dX9_differs_125 hl (by decide) rfl (fun ls hl => ?_)
                    refine lv_aload_n hx hb dX9_differs_127 rfl (lv_at hl 2 rfl) ?_
                    refine x_geto hx hb hf9 hw (by omega) (by omega) sl_40_30 lk84 dX9_differs_128 ?_
                    refine lv_iload hx hb dX9_differs_131 (lv_at hl 1 rfl) ?_
                    refine x_iald hx hb hK.1 hw (by omega) (by omega) ar_71 (len_E ar_71 (by decide)) (by omega) (by omega) (by omega) dX9_differs_133 ?_
                    have f172 : 0 ≤ X20 71 0 ((30 * sv) + r) ∧ X20 71 0 ((30 * sv) + r) ≤ 7 := hRX20 71 0 ((30 * sv) + r)
                    refine lv_aload_n hx hb dX9_differs_134 rfl (lv_at hl 2 rfl) ?_
                    refine x_geto hx hb hf9 hw (by omega) (by omega) sl_40_30 lk84 dX9_differs_135 ?_
                    refine lv_iload hx hb dX9_differs_138 (lv_at hl 0 rfl) ?_
                    refine x_iald hx hb hK.1 hw (by omega) (by omega) ar_71 (len_E ar_71 (by decide)) (by omega) (by omega) (by omega) dX9_differs_140 ?_
                    have f173 : 0 ≤ X20 71 0 (120 + r) ∧ X20 71 0 (120 + r) ≤ 7 := hRX20 71 0 (120 + r)
                    refine x_icmp_ne (tgt := 165) hx hb (by omega) (by omega) dX9_differs_141 (by decide) (fun c174 => ?_) (fun c174 => ?_)
                    · refine lv_iconst (v := jI 0) hx hb dX9_differs_165 rfl ?_
                      refine lv_istore (lv' := [(7, .int (jI 0)), (6, .int (jI (120 + r))), (5, .int (jI ((30 * sv) + r))), (0, .ref (ad 40 0)), (1, .int (jI sv)), (2, .int (jI x)), (3, .int (jI nz)), (4, .int (jI r))]) hx hb dX9_differs_166 hl (by decide) rfl (fun ls hl => ?_)
                      refine lv_iconst (v := jI 0) hx hb dX9_differs_168 rfl ?_
                      refine lv_istore (lv' := [(8, .int (jI 0)), (7, .int (jI 0)), (6, .int (jI (120 + r))), (5, .int (jI ((30 * sv) + r))), (0, .ref (ad 40 0)), (1, .int (jI sv)), (2, .int (jI x)), (3, .int (jI nz)), (4, .int (jI r))]) hx hb dX9_differs_169 hl (by decide) rfl (fun ls hl => ?_)
                      have lp171 : ∀ (nn : Nat) (sm : Int) (k : Int) (H : Heap) (locs : List Loc) (ls : Array Slot), (5 - k) < (nn : Int) → (0 ≤ sm ∧ sm ≤ 1) → (0 ≤ k ∧ k ≤ 5) → wd D tc base (ad, cnt, X20, Y, ln) H → va_S (frA base) s.heap H locs → lv_has ls 12 [(0, .ref (ad 40 0)), (1, .int (jI sv)), (2, .int (jI x)), (3, .int (jI nz)), (4, .int (jI r)), (5, .int (jI ((30 * sv) + r))), (6, .int (jI (120 + r))), (7, .int (jI sm)), (8, .int (jI k))] → W p l e ({ frames := 2, cells := 0, slots := 0, locals := 53 } : Room) s m ([.ref (ad 40 0), .int (jI sv), .int (jI x)] : List Value).toArray below meth c H locs 0 0 (MQ below (QI D tc base (fun z u => ∃ X1 : Nat → Int → Int → Int, u = (ad, cnt, X1, Y, ln) ∧ Rng X1 ∧ Frm [4001, 7100, 7200, 7300, 7400, 7500, 8000, 7000, 8100, 7700, 7800, 7900, 7600, 4042, 4043, 4044] X X1 ∧ MInv X1 ∧ (-2147483648 ≤ z ∧ z ≤ 2147483647))) ([.ref (ad 40 0), .int (jI sv), .int (jI x)] : List Value).toArray s 0 0 (frA base)) (F0 m 171 ls []) := by
                        intro nn
                        induction nn with
                        | zero => intro sm k H locs ls hm hsm hk hw hS hl; exfalso; omega
                        | succ nn ih171 =>
                          intro sm k H locs ls hm hsm hk hw hS hl
                          refine lv_iload hx hb dX9_differs_171 (lv_at hl 7 rfl) ?_
                          refine x_if_eq (tgt := 255) hx hb (by omega) dX9_differs_173 (by decide) (fun c175 => ?_) (fun c175 => ?_)
                          · refine lv_iload hx hb dX9_differs_255 (lv_at hl 7 rfl) ?_
                            refine x_if_ne (tgt := 269) hx hb (by omega) dX9_differs_257 (by decide) (fun c176 => ?_) (fun c176 => ?_)
                            · refine lv_iconst (v := jI 0) hx hb dX9_differs_269 rfl ?_
                              refine lv_istore (lv' := [(8, .int (jI 0)), (0, .ref (ad 40 0)), (1, .int (jI sv)), (2, .int (jI x)), (3, .int (jI nz)), (4, .int (jI r)), (5, .int (jI ((30 * sv) + r))), (6, .int (jI (120 + r))), (7, .int (jI sm))]) hx hb dX9_differs_270 hl (by decide) rfl (fun ls hl => ?_)
                              have lp272 : ∀ (nn : Nat) (k : Int) (H : Heap) (locs : List Loc) (ls : Array Slot), (5 - k) < (nn : Int) → (0 ≤ k ∧ k ≤ 5) → wd D tc base (ad, cnt, X20, Y, ln) H → va_S (frA base) s.heap H locs → lv_has ls 12 [(0, .ref (ad 40 0)), (1, .int (jI sv)), (2, .int (jI x)), (3, .int (jI nz)), (4, .int (jI r)), (5, .int (jI ((30 * sv) + r))), (6, .int (jI (120 + r))), (8, .int (jI k))] → W p l e ({ frames := 2, cells := 0, slots := 0, locals := 53 } : Room) s m ([.ref (ad 40 0), .int (jI sv), .int (jI x)] : List Value).toArray below meth c H locs 0 0 (MQ below (QI D tc base (fun z u => ∃ X1 : Nat → Int → Int → Int, u = (ad, cnt, X1, Y, ln) ∧ Rng X1 ∧ Frm [4001, 7100, 7200, 7300, 7400, 7500, 8000, 7000, 8100, 7700, 7800, 7900, 7600, 4042, 4043, 4044] X X1 ∧ MInv X1 ∧ (-2147483648 ≤ z ∧ z ≤ 2147483647))) ([.ref (ad 40 0), .int (jI sv), .int (jI x)] : List Value).toArray s 0 0 (frA base)) (F0 m 272 ls []) := by
                                intro nn
                                induction nn with
                                | zero => intro k H locs ls hm hk hw hS hl; exfalso; omega
                                | succ nn ih272 =>
                                  intro k H locs ls hm hk hw hS hl
                                  refine lv_iload hx hb dX9_differs_272 (lv_at hl 7 rfl) ?_
                                  refine lv_aload_n hx hb dX9_differs_274 rfl (lv_at hl 0 rfl) ?_
                                  refine x_geto hx hb hf9 hw (by omega) (by omega) sl_40_31 lk87 dX9_differs_275 ?_
                                  refine lv_iload hx hb dX9_differs_278 (lv_at hl 5 rfl) ?_
                                  refine x_iald hx hb hK.1 hw (by omega) (by omega) ar_72 (len_E ar_72 (by decide)) (by omega) (by omega) (by omega) dX9_differs_280 ?_
                                  have f177 : 0 ≤ X20 72 0 ((30 * sv) + r) ∧ X20 72 0 ((30 * sv) + r) ≤ 5 := hRX20 72 0 ((30 * sv) + r)
                                  refine x_icmp_ge (tgt := 411) hx hb (by omega) (by omega) dX9_differs_281 (by decide) (fun c178 => ?_) (fun c178 => ?_)
                                  · refine lv_iinc (v := jI (r + 1)) (lv' := [(4, .int (jI (r + 1))), (0, .ref (ad 40 0)), (1, .int (jI sv)), (2, .int (jI x)), (3, .int (jI nz)), (5, .int (jI ((30 * sv) + r))), (6, .int (jI (120 + r))), (8, .int (jI k))]) hx hb dX9_differs_411 hl (k := 4) rfl (jI_add _ _) (by decide) rfl (fun ls hl => ?_)
                                    refine lv_goto (tgt := 74) hx hb dX9_differs_414 (by decide) ?_
                                    exact ih74 nz (r + 1) _ _ _ (by omega) (by omega) (by omega) hw hS (lv_sub hl [1, 2, 3, 4, 0] rfl)
                                  · refine lv_aload_n hx hb dX9_differs_284 rfl (lv_at hl 0 rfl) ?_
                                    refine x_geto hx hb hf9 hw (by omega) (by omega) sl_40_34 lk96 dX9_differs_285 ?_
                                    refine lv_iconst (v := jI 5) hx hb dX9_differs_288 rfl ?_
                                    refine lv_iload hx hb dX9_differs_289 (lv_at hl 5 rfl) ?_
                                    refine x_imul hx hb dX9_differs_291 ?_
                                    refine lv_iload hx hb dX9_differs_292 (lv_at hl 7 rfl) ?_
                                    refine x_iadd hx hb dX9_differs_294 ?_
                                    obtain ⟨hv1, hv2, hv3⟩ := (hMIX20.2.2.1 sv r (by omega) (by omega) (by omega) (by omega)).2 k (by omega) (by omega)
                                    refine x_lald hx hb hK.1 hw (by omega) (by omega) ar_75 (len_E ar_75 (by decide)) (by omega) (by omega) (by omega) dX9_differs_295 ?_
                                    have f179 : (-9223372036854775808) ≤ X20 75 0 ((5 * ((30 * sv) + r)) + k) ∧ X20 75 0 ((5 * ((30 * sv) + r)) + k) ≤ 9223372036854775807 := hRX20 75 0 ((5 * ((30 * sv) + r)) + k)
                                    refine lv_lstore (lv' := [(9, .long (jL (X20 75 0 ((5 * ((30 * sv) + r)) + k)))), (0, .ref (ad 40 0)), (1, .int (jI sv)), (2, .int (jI x)), (3, .int (jI nz)), (4, .int (jI r)), (5, .int (jI ((30 * sv) + r))), (6, .int (jI (120 + r))), (8, .int (jI k))]) hx hb dX9_differs_296 hl (by decide) rfl (fun ls hl => ?_)
                                    refine lv_lload hx hb dX9_differs_298 (lv_at hl 0 rfl) ?_
                                    refine lv_aload_n hx hb dX9_differs_300 rfl (lv_at hl 1 rfl) ?_
                                    refine x_geto hx hb hf9 hw (by omega) (by omega) sl_40_34 lk96 dX9_differs_301 ?_
                                    refine lv_iconst (v := jI 5) hx hb dX9_differs_304 rfl ?_
                                    refine lv_iload hx hb dX9_differs_305 (lv_at hl 7 rfl) ?_
                                    refine x_imul hx hb dX9_differs_307 ?_
                                    refine lv_iload hx hb dX9_differs_308 (lv_at hl 8 rfl) ?_
                                    refine x_iadd hx hb dX9_differs_310 ?_
                                    refine x_lald hx hb hK.1 hw (by omega) (by omega) ar_75 (len_E ar_75 (by decide)) (by omega) (by omega) (by omega) dX9_differs_311 ?_
                                    have f180 : (-9223372036854775808) ≤ X20 75 0 ((5 * (120 + r)) + k) ∧ X20 75 0 ((5 * (120 + r)) + k) ≤ 9223372036854775807 := hRX20 75 0 ((5 * (120 + r)) + k)
                                    refine x_lcmp hx hb (by omega) (by omega) dX9_differs_312 ?_
                                    obtain ⟨z181, ez181⟩ : ∃ y : Int, y = cmpZ (X20 75 0 ((5 * ((30 * sv) + r)) + k)) (X20 75 0 ((5 * (120 + r)) + k)) := ⟨_, rfl⟩
                                    rw [← ez181]
                                    have gz181 : (z181 < 0 ↔ ((X20 75 0 ((5 * ((30 * sv) + r)) + k)) : Int) < (X20 75 0 ((5 * (120 + r)) + k))) ∧ (z181 = 0 ↔ ((X20 75 0 ((5 * ((30 * sv) + r)) + k)) : Int) = (X20 75 0 ((5 * (120 + r)) + k))) ∧ -1 ≤ z181 ∧ z181 ≤ 1 := by rw [ez181]; exact ⟨cmpZ_lt, cmpZ_eq, (cmpZ_r _ _).1, (cmpZ_r _ _).2⟩
                                    clear ez181
                                    refine x_if_eq (tgt := 320) hx hb (by omega) dX9_differs_313 (by decide) (fun c182 => ?_) (fun c182 => ?_)
                                    · refine lv_iconst (v := jI 0) hx hb dX9_differs_320 rfl ?_
                                      refine lv_istore (lv' := [(11, .int (jI 0)), (9, .long (jL (X20 75 0 ((5 * ((30 * sv) + r)) + k)))), (0, .ref (ad 40 0)), (1, .int (jI sv)), (2, .int (jI x)), (3, .int (jI nz)), (4, .int (jI r)), (5, .int (jI ((30 * sv) + r))), (6, .int (jI (120 + r))), (8, .int (jI k))]) hx hb dX9_differs_321 hl (by decide) rfl (fun ls hl => ?_)
                                      refine lv_iload hx hb dX9_differs_323 (lv_at hl 0 rfl) ?_
                                      refine x_if_neF (tgt := 374) hx hb (by omega) (by decide) dX9_differs_325 (by decide) ?_
                                      refine lv_aload_n hx hb dX9_differs_328 rfl (lv_at hl 2 rfl) ?_
                                      refine x_geto hx hb hf9 hw (by omega) (by omega) sl_40_33 lk93 dX9_differs_329 ?_
                                      refine lv_iconst (v := jI 5) hx hb dX9_differs_332 rfl ?_
                                      refine lv_iload hx hb dX9_differs_333 (lv_at hl 7 rfl) ?_
                                      refine x_imul hx hb dX9_differs_335 ?_
                                      refine lv_iload hx hb dX9_differs_336 (lv_at hl 9 rfl) ?_
                                      refine x_iadd hx hb dX9_differs_338 ?_
                                      refine x_iald hx hb hK.1 hw (by omega) (by omega) ar_74 (len_E ar_74 (by decide)) (by omega) (by omega) (by omega) dX9_differs_339 ?_
                                      have f183 : 0 ≤ X20 74 0 ((5 * ((30 * sv) + r)) + k) ∧ X20 74 0 ((5 * ((30 * sv) + r)) + k) ≤ 5 := hRX20 74 0 ((5 * ((30 * sv) + r)) + k)
                                      refine lv_iconst (v := jI 2) hx hb dX9_differs_340 rfl ?_
                                      refine x_icmp_le (tgt := 378) hx hb (by omega) (by omega) dX9_differs_341 (by decide) (fun c184 => ?_) (fun c184 => ?_)
                                      · refine lv_iconst (v := jI 0) hx hb dX9_differs_378 rfl ?_
                                        refine lv_istore (lv' := [(11, .int (jI 0)), (9, .long (jL (X20 75 0 ((5 * ((30 * sv) + r)) + k)))), (0, .ref (ad 40 0)), (1, .int (jI sv)), (2, .int (jI x)), (3, .int (jI nz)), (4, .int (jI r)), (5, .int (jI ((30 * sv) + r))), (6, .int (jI (120 + r))), (8, .int (jI k))]) hx hb dX9_differs_379 hl (by decide) rfl (fun ls hl => ?_)
                                        refine lv_iload hx hb dX9_differs_381 (lv_at hl 0 rfl) ?_
                                        refine x_if_eqT (tgt := 405) hx hb (by omega) (by decide) dX9_differs_383 (by decide) ?_
                                        refine lv_iinc (v := jI (k + 1)) (lv' := [(8, .int (jI (k + 1))), (11, .int (jI 0)), (9, .long (jL (X20 75 0 ((5 * ((30 * sv) + r)) + k)))), (0, .ref (ad 40 0)), (1, .int (jI sv)), (2, .int (jI x)), (3, .int (jI nz)), (4, .int (jI r)), (5, .int (jI ((30 * sv) + r))), (6, .int (jI (120 + r)))]) hx hb dX9_differs_405 hl (k := 9) rfl (jI_add _ _) (by decide) rfl (fun ls hl => ?_)
                                        refine lv_goto (tgt := 272) hx hb dX9_differs_408 (by decide) ?_
                                        exact ih272 (k + 1) _ _ _ (by omega) (by omega) hw hS (lv_sub hl [3, 4, 5, 6, 7, 8, 9, 0] rfl)
                                      · refine lv_lload hx hb dX9_differs_344 (lv_at hl 1 rfl) ?_
                                        refine lv_lconst (v := jL 0) hx hb dX9_differs_346 (by decide) ?_
                                        refine x_lcmp hx hb (by omega) (by omega) dX9_differs_347 ?_
                                        obtain ⟨z185, ez185⟩ : ∃ y : Int, y = cmpZ (X20 75 0 ((5 * ((30 * sv) + r)) + k)) 0 := ⟨_, rfl⟩
                                        rw [← ez185]
                                        have gz185 : (z185 < 0 ↔ ((X20 75 0 ((5 * ((30 * sv) + r)) + k)) : Int) < 0) ∧ (z185 = 0 ↔ ((X20 75 0 ((5 * ((30 * sv) + r)) + k)) : Int) = 0) ∧ -1 ≤ z185 ∧ z185 ≤ 1 := by rw [ez185]; exact ⟨cmpZ_lt, cmpZ_eq, (cmpZ_r _ _).1, (cmpZ_r _ _).2⟩
                                        clear ez185
                                        refine x_if_lt (tgt := 378) hx hb (by omega) dX9_differs_348 (by decide) (fun c186 => ?_) (fun c186 => ?_)
                                        · refine lv_iconst (v := jI 0) hx hb dX9_differs_378 rfl ?_
                                          refine lv_istore (lv' := [(11, .int (jI 0)), (9, .long (jL (X20 75 0 ((5 * ((30 * sv) + r)) + k)))), (0, .ref (ad 40 0)), (1, .int (jI sv)), (2, .int (jI x)), (3, .int (jI nz)), (4, .int (jI r)), (5, .int (jI ((30 * sv) + r))), (6, .int (jI (120 + r))), (8, .int (jI k))]) hx hb dX9_differs_379 hl (by decide) rfl (fun ls hl => ?_)
                                          refine lv_iload hx hb dX9_differs_381 (lv_at hl 0 rfl) ?_
                                          refine x_if_eqT (tgt := 405) hx hb (by omega) (by decide) dX9_differs_383 (by decide) ?_
                                          refine lv_iinc (v := jI (k + 1)) (lv' := [(8, .int (jI (k + 1))), (11, .int (jI 0)), (9, .long (jL (X20 75 0 ((5 * ((30 * sv) + r)) + k)))), (0, .ref (ad 40 0)), (1, .int (jI sv)), (2, .int (jI x)), (3, .int (jI nz)), (4, .int (jI r)), (5, .int (jI ((30 * sv) + r))), (6, .int (jI (120 + r)))]) hx hb dX9_differs_405 hl (k := 9) rfl (jI_add _ _) (by decide) rfl (fun ls hl => ?_)
                                          refine lv_goto (tgt := 272) hx hb dX9_differs_408 (by decide) ?_
                                          exact ih272 (k + 1) _ _ _ (by omega) (by omega) hw hS (lv_sub hl [3, 4, 5, 6, 7, 8, 9, 0] rfl)
                                        · refine lv_aload_n hx hb dX9_differs_351 rfl (lv_at hl 2 rfl) ?_
                                          refine lv_sipush (v := jI 150) hx hb dX9_differs_352 (by decide) ?_
                                          refine lv_iload_n hx hb dX9_differs_355 rfl (lv_at hl 3 rfl) ?_
                                          refine x_imul hx hb dX9_differs_356 ?_
                                          refine lv_lload hx hb dX9_differs_357 (lv_at hl 1 rfl) ?_
                                          refine x_l2i hx hb dX9_differs_359 ?_
                                          refine x_iadd hx hb dX9_differs_360 ?_
                                          refine lv_sipush (v := jI 600) hx hb dX9_differs_361 (by decide) ?_
                                          refine lv_lload hx hb dX9_differs_364 (lv_at hl 1 rfl) ?_
                                          refine x_l2i hx hb dX9_differs_366 ?_
                                          refine x_iadd hx hb dX9_differs_367 ?_
                                          refine gos_i (run_V (As := [.int (jI ((150 * sv) + (X20 75 0 ((5 * ((30 * sv) + r)) + k)))), .int (jI (600 + (X20 75 0 ((5 * ((30 * sv) + r)) + k))))]) (rest := []) hx hb hml hown hts (c_X9_rowsDiffer l D tc base ad cnt X20 Y ln hRX20 hFx hMIX20 ((150 * sv) + (X20 75 0 ((5 * ((30 * sv) + r)) + k))) (600 + (X20 75 0 ((5 * ((30 * sv) + r)) + k))) (by omega) (by omega)) (cwV 2 hts gX9_differs_X9_rowsDiffer rfl rfl rfl (by decide +kernel) ⟨Nat.le_of_ble_eq_true rfl, Nat.le_of_ble_eq_true rfl⟩) hK hw (by omega) (by omega) sl_40_0 rfl rfl hl.1 rfl (Nat.le_of_ble_eq_true rfl) dX9_differs_368 ⟨Nat.le_of_ble_eq_true rfl, Nat.le_of_ble_eq_true rfl⟩) hS (fun z187 u188 H locs p189 hw hS => ?_)
                                          obtain ⟨eu188, p189⟩ := p189
                                          subst eu188
                                          refine x_if_eq (tgt := 378) hx hb (by omega) dX9_differs_371 (by decide) (fun c190 => ?_) (fun c190 => ?_)
                                          · refine lv_iconst (v := jI 0) hx hb dX9_differs_378 rfl ?_
                                            refine lv_istore (lv' := [(11, .int (jI 0)), (9, .long (jL (X20 75 0 ((5 * ((30 * sv) + r)) + k)))), (0, .ref (ad 40 0)), (1, .int (jI sv)), (2, .int (jI x)), (3, .int (jI nz)), (4, .int (jI r)), (5, .int (jI ((30 * sv) + r))), (6, .int (jI (120 + r))), (8, .int (jI k))]) hx hb dX9_differs_379 hl (by decide) rfl (fun ls hl => ?_)
                                            refine lv_iload hx hb dX9_differs_381 (lv_at hl 0 rfl) ?_
                                            refine x_if_eqT (tgt := 405) hx hb (by omega) (by decide) dX9_differs_383 (by decide) ?_
                                            refine lv_iinc (v := jI (k + 1)) (lv' := [(8, .int (jI (k + 1))), (11, .int (jI 0)), (9, .long (jL (X20 75 0 ((5 * ((30 * sv) + r)) + k)))), (0, .ref (ad 40 0)), (1, .int (jI sv)), (2, .int (jI x)), (3, .int (jI nz)), (4, .int (jI r)), (5, .int (jI ((30 * sv) + r))), (6, .int (jI (120 + r)))]) hx hb dX9_differs_405 hl (k := 9) rfl (jI_add _ _) (by decide) rfl (fun ls hl => ?_)
                                            refine lv_goto (tgt := 272) hx hb dX9_differs_408 (by decide) ?_
                                            exact ih272 (k + 1) _ _ _ (by omega) (by omega) hw hS (lv_sub hl [3, 4, 5, 6, 7, 8, 9, 0] rfl)
                                          · refine lv_iconst (v := jI 1) hx hb dX9_differs_374 rfl ?_
                                            refine lv_goto (tgt := 379) hx hb dX9_differs_375 (by decide) ?_
                                            refine lv_istore (lv' := [(11, .int (jI 1)), (9, .long (jL (X20 75 0 ((5 * ((30 * sv) + r)) + k)))), (0, .ref (ad 40 0)), (1, .int (jI sv)), (2, .int (jI x)), (3, .int (jI nz)), (4, .int (jI r)), (5, .int (jI ((30 * sv) + r))), (6, .int (jI (120 + r))), (8, .int (jI k))]) hx hb dX9_differs_379 hl (by decide) rfl (fun ls hl => ?_)
                                            refine lv_iload hx hb dX9_differs_381 (lv_at hl 0 rfl) ?_
                                            refine x_if_eqF (tgt := 405) hx hb (by omega) (by decide) dX9_differs_383 (by decide) ?_
                                            refine lv_bipush (v := jI 100) hx hb dX9_differs_386 (by decide) ?_
                                            refine lv_iload hx hb dX9_differs_388 (lv_at hl 6 rfl) ?_
                                            refine x_imul hx hb dX9_differs_390 ?_
                                            refine lv_aload_n hx hb dX9_differs_391 rfl (lv_at hl 2 rfl) ?_
                                            refine x_geto hx hb hf9 hw (by omega) (by omega) sl_40_32 lk90 dX9_differs_392 ?_
                                            refine lv_iconst (v := jI 5) hx hb dX9_differs_395 rfl ?_
                                            refine lv_iload hx hb dX9_differs_396 (lv_at hl 7 rfl) ?_
                                            refine x_imul hx hb dX9_differs_398 ?_
                                            refine lv_iload hx hb dX9_differs_399 (lv_at hl 9 rfl) ?_
                                            refine x_iadd hx hb dX9_differs_401 ?_
                                            refine x_iald hx hb hK.1 hw (by omega) (by omega) ar_73 (len_E ar_73 (by decide)) (by omega) (by omega) (by omega) dX9_differs_402 ?_
                                            have f191 : 0 ≤ X20 73 0 ((5 * ((30 * sv) + r)) + k) ∧ X20 73 0 ((5 * ((30 * sv) + r)) + k) ≤ 19 := hRX20 73 0 ((5 * ((30 * sv) + r)) + k)
                                            refine x_iadd hx hb dX9_differs_403 ?_
                                            refine ret_i (mc := 0) (ms := 0) hx hb hr hlocks hw hS (by omega) (by omega) dX9_differs_404 ?_
                                            exact ⟨X20, rfl, hRX20, hFX20, hMIX20, by omega⟩
                                    · refine lv_iconst (v := jI 1) hx hb dX9_differs_316 rfl ?_
                                      refine lv_goto (tgt := 321) hx hb dX9_differs_317 (by decide) ?_
                                      refine lv_istore (lv' := [(11, .int (jI 1)), (9, .long (jL (X20 75 0 ((5 * ((30 * sv) + r)) + k)))), (0, .ref (ad 40 0)), (1, .int (jI sv)), (2, .int (jI x)), (3, .int (jI nz)), (4, .int (jI r)), (5, .int (jI ((30 * sv) + r))), (6, .int (jI (120 + r))), (8, .int (jI k))]) hx hb dX9_differs_321 hl (by decide) rfl (fun ls hl => ?_)
                                      refine lv_iload hx hb dX9_differs_323 (lv_at hl 0 rfl) ?_
                                      refine x_if_neT (tgt := 374) hx hb (by omega) (by decide) dX9_differs_325 (by decide) ?_
                                      refine lv_iconst (v := jI 1) hx hb dX9_differs_374 rfl ?_
                                      refine lv_goto (tgt := 379) hx hb dX9_differs_375 (by decide) ?_
                                      refine lv_istore (lv' := [(11, .int (jI 1)), (9, .long (jL (X20 75 0 ((5 * ((30 * sv) + r)) + k)))), (0, .ref (ad 40 0)), (1, .int (jI sv)), (2, .int (jI x)), (3, .int (jI nz)), (4, .int (jI r)), (5, .int (jI ((30 * sv) + r))), (6, .int (jI (120 + r))), (8, .int (jI k))]) hx hb dX9_differs_379 hl (by decide) rfl (fun ls hl => ?_)
                                      refine lv_iload hx hb dX9_differs_381 (lv_at hl 0 rfl) ?_
                                      refine x_if_eqF (tgt := 405) hx hb (by omega) (by decide) dX9_differs_383 (by decide) ?_
                                      refine lv_bipush (v := jI 100) hx hb dX9_differs_386 (by decide) ?_
                                      refine lv_iload hx hb dX9_differs_388 (lv_at hl 6 rfl) ?_
                                      refine x_imul hx hb dX9_differs_390 ?_
                                      refine lv_aload_n hx hb dX9_differs_391 rfl (lv_at hl 2 rfl) ?_
                                      refine x_geto hx hb hf9 hw (by omega) (by omega) sl_40_32 lk90 dX9_differs_392 ?_
                                      refine lv_iconst (v := jI 5) hx hb dX9_differs_395 rfl ?_
                                      refine lv_iload hx hb dX9_differs_396 (lv_at hl 7 rfl) ?_
                                      refine x_imul hx hb dX9_differs_398 ?_
                                      refine lv_iload hx hb dX9_differs_399 (lv_at hl 9 rfl) ?_
                                      refine x_iadd hx hb dX9_differs_401 ?_
                                      refine x_iald hx hb hK.1 hw (by omega) (by omega) ar_73 (len_E ar_73 (by decide)) (by omega) (by omega) (by omega) dX9_differs_402 ?_
                                      have f192 : 0 ≤ X20 73 0 ((5 * ((30 * sv) + r)) + k) ∧ X20 73 0 ((5 * ((30 * sv) + r)) + k) ≤ 19 := hRX20 73 0 ((5 * ((30 * sv) + r)) + k)
                                      refine x_iadd hx hb dX9_differs_403 ?_
                                      refine ret_i (mc := 0) (ms := 0) hx hb hr hlocks hw hS (by omega) (by omega) dX9_differs_404 ?_
                                      exact ⟨X20, rfl, hRX20, hFX20, hMIX20, by omega⟩
                              exact lp272 (5 - 0 : Int).toNat.succ 0 _ _ _ (by omega) (by omega) hw hS (lv_sub hl [1, 2, 3, 4, 5, 6, 7, 0] rfl)
                            · refine lv_bipush (v := jI 100) hx hb dX9_differs_260 (by decide) ?_
                              refine lv_iload hx hb dX9_differs_262 (lv_at hl 4 rfl) ?_
                              refine x_imul hx hb dX9_differs_264 ?_
                              refine lv_bipush (v := jI 99) hx hb dX9_differs_265 (by decide) ?_
                              refine x_iadd hx hb dX9_differs_267 ?_
                              refine ret_i (mc := 0) (ms := 0) hx hb hr hlocks hw hS (by omega) (by omega) dX9_differs_268 ?_
                              exact ⟨X20, rfl, hRX20, hFX20, hMIX20, by omega⟩
                          · refine lv_iload hx hb dX9_differs_176 (lv_at hl 8 rfl) ?_
                            refine lv_aload_n hx hb dX9_differs_178 rfl (lv_at hl 0 rfl) ?_
                            refine x_geto hx hb hf9 hw (by omega) (by omega) sl_40_31 lk87 dX9_differs_179 ?_
                            refine lv_iload hx hb dX9_differs_182 (lv_at hl 5 rfl) ?_
                            refine x_iald hx hb hK.1 hw (by omega) (by omega) ar_72 (len_E ar_72 (by decide)) (by omega) (by omega) (by omega) dX9_differs_184 ?_
                            have f193 : 0 ≤ X20 72 0 ((30 * sv) + r) ∧ X20 72 0 ((30 * sv) + r) ≤ 5 := hRX20 72 0 ((30 * sv) + r)
                            refine x_icmp_ge (tgt := 255) hx hb (by omega) (by omega) dX9_differs_185 (by decide) (fun c194 => ?_) (fun c194 => ?_)
                            · refine lv_iload hx hb dX9_differs_255 (lv_at hl 7 rfl) ?_
                              refine x_if_ne (tgt := 269) hx hb (by omega) dX9_differs_257 (by decide) (fun c195 => ?_) (fun c195 => ?_)
                              · refine lv_iconst (v := jI 0) hx hb dX9_differs_269 rfl ?_
                                refine lv_istore (lv' := [(8, .int (jI 0)), (0, .ref (ad 40 0)), (1, .int (jI sv)), (2, .int (jI x)), (3, .int (jI nz)), (4, .int (jI r)), (5, .int (jI ((30 * sv) + r))), (6, .int (jI (120 + r))), (7, .int (jI sm))]) hx hb dX9_differs_270 hl (by decide) rfl (fun ls hl => ?_)
                                have lp272 : ∀ (nn : Nat) (k : Int) (H : Heap) (locs : List Loc) (ls : Array Slot), (5 - k) < (nn : Int) → (0 ≤ k ∧ k ≤ 5) → wd D tc base (ad, cnt, X20, Y, ln) H → va_S (frA base) s.heap H locs → lv_has ls 12 [(0, .ref (ad 40 0)), (1, .int (jI sv)), (2, .int (jI x)), (3, .int (jI nz)), (4, .int (jI r)), (5, .int (jI ((30 * sv) + r))), (6, .int (jI (120 + r))), (8, .int (jI k))] → W p l e ({ frames := 2, cells := 0, slots := 0, locals := 53 } : Room) s m ([.ref (ad 40 0), .int (jI sv), .int (jI x)] : List Value).toArray below meth c H locs 0 0 (MQ below (QI D tc base (fun z u => ∃ X1 : Nat → Int → Int → Int, u = (ad, cnt, X1, Y, ln) ∧ Rng X1 ∧ Frm [4001, 7100, 7200, 7300, 7400, 7500, 8000, 7000, 8100, 7700, 7800, 7900, 7600, 4042, 4043, 4044] X X1 ∧ MInv X1 ∧ (-2147483648 ≤ z ∧ z ≤ 2147483647))) ([.ref (ad 40 0), .int (jI sv), .int (jI x)] : List Value).toArray s 0 0 (frA base)) (F0 m 272 ls []) := by
                                  intro nn
                                  induction nn with
                                  | zero => intro k H locs ls hm hk hw hS hl; exfalso; omega
                                  | succ nn ih272 =>
                                    intro k H locs ls hm hk hw hS hl
                                    refine lv_iload hx hb dX9_differs_272 (lv_at hl 7 rfl) ?_
                                    refine lv_aload_n hx hb dX9_differs_274 rfl (lv_at hl 0 rfl) ?_
                                    refine x_geto hx hb hf9 hw (by omega) (by omega) sl_40_31 lk87 dX9_differs_275 ?_
                                    refine lv_iload hx hb dX9_differs_278 (lv_at hl 5 rfl) ?_
                                    refine x_iald hx hb hK.1 hw (by omega) (by omega) ar_72 (len_E ar_72 (by decide)) (by omega) (by omega) (by omega) dX9_differs_280 ?_
                                    have f196 : 0 ≤ X20 72 0 ((30 * sv) + r) ∧ X20 72 0 ((30 * sv) + r) ≤ 5 := hRX20 72 0 ((30 * sv) + r)
                                    refine x_icmp_ge (tgt := 411) hx hb (by omega) (by omega) dX9_differs_281 (by decide) (fun c197 => ?_) (fun c197 => ?_)
                                    · refine lv_iinc (v := jI (r + 1)) (lv' := [(4, .int (jI (r + 1))), (0, .ref (ad 40 0)), (1, .int (jI sv)), (2, .int (jI x)), (3, .int (jI nz)), (5, .int (jI ((30 * sv) + r))), (6, .int (jI (120 + r))), (8, .int (jI k))]) hx hb dX9_differs_411 hl (k := 4) rfl (jI_add _ _) (by decide) rfl (fun ls hl => ?_)
                                      refine lv_goto (tgt := 74) hx hb dX9_differs_414 (by decide) ?_
                                      exact ih74 nz (r + 1) _ _ _ (by omega) (by omega) (by omega) hw hS (lv_sub hl [1, 2, 3, 4, 0] rfl)
                                    · refine lv_aload_n hx hb dX9_differs_284 rfl (lv_at hl 0 rfl) ?_
                                      refine x_geto hx hb hf9 hw (by omega) (by omega) sl_40_34 lk96 dX9_differs_285 ?_
                                      refine lv_iconst (v := jI 5) hx hb dX9_differs_288 rfl ?_
                                      refine lv_iload hx hb dX9_differs_289 (lv_at hl 5 rfl) ?_
                                      refine x_imul hx hb dX9_differs_291 ?_
                                      refine lv_iload hx hb dX9_differs_292 (lv_at hl 7 rfl) ?_
                                      refine x_iadd hx hb dX9_differs_294 ?_
                                      obtain ⟨hv1, hv2, hv3⟩ := (hMIX20.2.2.1 sv r (by omega) (by omega) (by omega) (by omega)).2 k (by omega) (by omega)
                                      refine x_lald hx hb hK.1 hw (by omega) (by omega) ar_75 (len_E ar_75 (by decide)) (by omega) (by omega) (by omega) dX9_differs_295 ?_
                                      have f198 : (-9223372036854775808) ≤ X20 75 0 ((5 * ((30 * sv) + r)) + k) ∧ X20 75 0 ((5 * ((30 * sv) + r)) + k) ≤ 9223372036854775807 := hRX20 75 0 ((5 * ((30 * sv) + r)) + k)
                                      refine lv_lstore (lv' := [(9, .long (jL (X20 75 0 ((5 * ((30 * sv) + r)) + k)))), (0, .ref (ad 40 0)), (1, .int (jI sv)), (2, .int (jI x)), (3, .int (jI nz)), (4, .int (jI r)), (5, .int (jI ((30 * sv) + r))), (6, .int (jI (120 + r))), (8, .int (jI k))]) hx hb dX9_differs_296 hl (by decide) rfl (fun ls hl => ?_)
                                      refine lv_lload hx hb dX9_differs_298 (lv_at hl 0 rfl) ?_
                                      refine lv_aload_n hx hb dX9_differs_300 rfl (lv_at hl 1 rfl) ?_
                                      refine x_geto hx hb hf9 hw (by omega) (by omega) sl_40_34 lk96 dX9_differs_301 ?_
                                      refine lv_iconst (v := jI 5) hx hb dX9_differs_304 rfl ?_
                                      refine lv_iload hx hb dX9_differs_305 (lv_at hl 7 rfl) ?_
                                      refine x_imul hx hb dX9_differs_307 ?_
                                      refine lv_iload hx hb dX9_differs_308 (lv_at hl 8 rfl) ?_
                                      refine x_iadd hx hb dX9_differs_310 ?_
                                      refine x_lald hx hb hK.1 hw (by omega) (by omega) ar_75 (len_E ar_75 (by decide)) (by omega) (by omega) (by omega) dX9_differs_311 ?_
                                      have f199 : (-9223372036854775808) ≤ X20 75 0 ((5 * (120 + r)) + k) ∧ X20 75 0 ((5 * (120 + r)) + k) ≤ 9223372036854775807 := hRX20 75 0 ((5 * (120 + r)) + k)
                                      refine x_lcmp hx hb (by omega) (by omega) dX9_differs_312 ?_
                                      obtain ⟨z200, ez200⟩ : ∃ y : Int, y = cmpZ (X20 75 0 ((5 * ((30 * sv) + r)) + k)) (X20 75 0 ((5 * (120 + r)) + k)) := ⟨_, rfl⟩
                                      rw [← ez200]
                                      have gz200 : (z200 < 0 ↔ ((X20 75 0 ((5 * ((30 * sv) + r)) + k)) : Int) < (X20 75 0 ((5 * (120 + r)) + k))) ∧ (z200 = 0 ↔ ((X20 75 0 ((5 * ((30 * sv) + r)) + k)) : Int) = (X20 75 0 ((5 * (120 + r)) + k))) ∧ -1 ≤ z200 ∧ z200 ≤ 1 := by rw [ez200]; exact ⟨cmpZ_lt, cmpZ_eq, (cmpZ_r _ _).1, (cmpZ_r _ _).2⟩
                                      clear ez200
                                      refine x_if_eq (tgt := 320) hx hb (by omega) dX9_differs_313 (by decide) (fun c201 => ?_) (fun c201 => ?_)
                                      · refine lv_iconst (v := jI 0) hx hb dX9_differs_320 rfl ?_
                                        refine lv_istore (lv' := [(11, .int (jI 0)), (9, .long (jL (X20 75 0 ((5 * ((30 * sv) + r)) + k)))), (0, .ref (ad 40 0)), (1, .int (jI sv)), (2, .int (jI x)), (3, .int (jI nz)), (4, .int (jI r)), (5, .int (jI ((30 * sv) + r))), (6, .int (jI (120 + r))), (8, .int (jI k))]) hx hb dX9_differs_321 hl (by decide) rfl (fun ls hl => ?_)
                                        refine lv_iload hx hb dX9_differs_323 (lv_at hl 0 rfl) ?_
                                        refine x_if_neF (tgt := 374) hx hb (by omega) (by decide) dX9_differs_325 (by decide) ?_
                                        refine lv_aload_n hx hb dX9_differs_328 rfl (lv_at hl 2 rfl) ?_
                                        refine x_geto hx hb hf9 hw (by omega) (by omega) sl_40_33 lk93 dX9_differs_329 ?_
                                        refine lv_iconst (v := jI 5) hx hb dX9_differs_332 rfl ?_
                                        refine lv_iload hx hb dX9_differs_333 (lv_at hl 7 rfl) ?_
                                        refine x_imul hx hb dX9_differs_335 ?_
                                        refine lv_iload hx hb dX9_differs_336 (lv_at hl 9 rfl) ?_
                                        refine x_iadd hx hb dX9_differs_338 ?_
                                        refine x_iald hx hb hK.1 hw (by omega) (by omega) ar_74 (len_E ar_74 (by decide)) (by omega) (by omega) (by omega) dX9_differs_339 ?_
                                        have f202 : 0 ≤ X20 74 0 ((5 * ((30 * sv) + r)) + k) ∧ X20 74 0 ((5 * ((30 * sv) + r)) + k) ≤ 5 := hRX20 74 0 ((5 * ((30 * sv) + r)) + k)
                                        refine lv_iconst (v := jI 2) hx hb dX9_differs_340 rfl ?_
                                        refine x_icmp_le (tgt := 378) hx hb (by omega) (by omega) dX9_differs_341 (by decide) (fun c203 => ?_) (fun c203 => ?_)
                                        · refine lv_iconst (v := jI 0) hx hb dX9_differs_378 rfl ?_
                                          refine lv_istore (lv' := [(11, .int (jI 0)), (9, .long (jL (X20 75 0 ((5 * ((30 * sv) + r)) + k)))), (0, .ref (ad 40 0)), (1, .int (jI sv)), (2, .int (jI x)), (3, .int (jI nz)), (4, .int (jI r)), (5, .int (jI ((30 * sv) + r))), (6, .int (jI (120 + r))), (8, .int (jI k))]) hx hb dX9_differs_379 hl (by decide) rfl (fun ls hl => ?_)
                                          refine lv_iload hx hb dX9_differs_381 (lv_at hl 0 rfl) ?_
                                          refine x_if_eqT (tgt := 405) hx hb (by omega) (by decide) dX9_differs_383 (by decide) ?_
                                          refine lv_iinc (v := jI (k + 1)) (lv' := [(8, .int (jI (k + 1))), (11, .int (jI 0)), (9, .long (jL (X20 75 0 ((5 * ((30 * sv) + r)) + k)))), (0, .ref (ad 40 0)), (1, .int (jI sv)), (2, .int (jI x)), (3, .int (jI nz)), (4, .int (jI r)), (5, .int (jI ((30 * sv) + r))), (6, .int (jI (120 + r)))]) hx hb dX9_differs_405 hl (k := 9) rfl (jI_add _ _) (by decide) rfl (fun ls hl => ?_)
                                          refine lv_goto (tgt := 272) hx hb dX9_differs_408 (by decide) ?_
                                          exact ih272 (k + 1) _ _ _ (by omega) (by omega) hw hS (lv_sub hl [3, 4, 5, 6, 7, 8, 9, 0] rfl)
                                        · refine lv_lload hx hb dX9_differs_344 (lv_at hl 1 rfl) ?_
                                          refine lv_lconst (v := jL 0) hx hb dX9_differs_346 (by decide) ?_
                                          refine x_lcmp hx hb (by omega) (by omega) dX9_differs_347 ?_
                                          obtain ⟨z204, ez204⟩ : ∃ y : Int, y = cmpZ (X20 75 0 ((5 * ((30 * sv) + r)) + k)) 0 := ⟨_, rfl⟩
                                          rw [← ez204]
                                          have gz204 : (z204 < 0 ↔ ((X20 75 0 ((5 * ((30 * sv) + r)) + k)) : Int) < 0) ∧ (z204 = 0 ↔ ((X20 75 0 ((5 * ((30 * sv) + r)) + k)) : Int) = 0) ∧ -1 ≤ z204 ∧ z204 ≤ 1 := by rw [ez204]; exact ⟨cmpZ_lt, cmpZ_eq, (cmpZ_r _ _).1, (cmpZ_r _ _).2⟩
                                          clear ez204
                                          refine x_if_lt (tgt := 378) hx hb (by omega) dX9_differs_348 (by decide) (fun c205 => ?_) (fun c205 => ?_)
                                          · refine lv_iconst (v := jI 0) hx hb dX9_differs_378 rfl ?_
                                            refine lv_istore (lv' := [(11, .int (jI 0)), (9, .long (jL (X20 75 0 ((5 * ((30 * sv) + r)) + k)))), (0, .ref (ad 40 0)), (1, .int (jI sv)), (2, .int (jI x)), (3, .int (jI nz)), (4, .int (jI r)), (5, .int (jI ((30 * sv) + r))), (6, .int (jI (120 + r))), (8, .int (jI k))]) hx hb dX9_differs_379 hl (by decide) rfl (fun ls hl => ?_)
                                            refine lv_iload hx hb dX9_differs_381 (lv_at hl 0 rfl) ?_
                                            refine x_if_eqT (tgt := 405) hx hb (by omega) (by decide) dX9_differs_383 (by decide) ?_
                                            refine lv_iinc (v := jI (k + 1)) (lv' := [(8, .int (jI (k + 1))), (11, .int (jI 0)), (9, .long (jL (X20 75 0 ((5 * ((30 * sv) + r)) + k)))), (0, .ref (ad 40 0)), (1, .int (jI sv)), (2, .int (jI x)), (3, .int (jI nz)), (4, .int (jI r)), (5, .int (jI ((30 * sv) + r))), (6, .int (jI (120 + r)))]) hx hb dX9_differs_405 hl (k := 9) rfl (jI_add _ _) (by decide) rfl (fun ls hl => ?_)
                                            refine lv_goto (tgt := 272) hx hb dX9_differs_408 (by decide) ?_
                                            exact ih272 (k + 1) _ _ _ (by omega) (by omega) hw hS (lv_sub hl [3, 4, 5, 6, 7, 8, 9, 0] rfl)
                                          · refine lv_aload_n hx hb dX9_differs_351 rfl (lv_at hl 2 rfl) ?_
                                            refine lv_sipush (v := jI 150) hx hb dX9_differs_352 (by decide) ?_
                                            refine lv_iload_n hx hb dX9_differs_355 rfl (lv_at hl 3 rfl) ?_
                                            refine x_imul hx hb dX9_differs_356 ?_
                                            refine lv_lload hx hb dX9_differs_357 (lv_at hl 1 rfl) ?_
                                            refine x_l2i hx hb dX9_differs_359 ?_
                                            refine x_iadd hx hb dX9_differs_360 ?_
                                            refine lv_sipush (v := jI 600) hx hb dX9_differs_361 (by decide) ?_
                                            refine lv_lload hx hb dX9_differs_364 (lv_at hl 1 rfl) ?_
                                            refine x_l2i hx hb dX9_differs_366 ?_
                                            refine x_iadd hx hb dX9_differs_367 ?_
                                            refine gos_i (run_V (As := [.int (jI ((150 * sv) + (X20 75 0 ((5 * ((30 * sv) + r)) + k)))), .int (jI (600 + (X20 75 0 ((5 * ((30 * sv) + r)) + k))))]) (rest := []) hx hb hml hown hts (c_X9_rowsDiffer l D tc base ad cnt X20 Y ln hRX20 hFx hMIX20 ((150 * sv) + (X20 75 0 ((5 * ((30 * sv) + r)) + k))) (600 + (X20 75 0 ((5 * ((30 * sv) + r)) + k))) (by omega) (by omega)) (cwV 2 hts gX9_differs_X9_rowsDiffer rfl rfl rfl (by decide +kernel) ⟨Nat.le_of_ble_eq_true rfl, Nat.le_of_ble_eq_true rfl⟩) hK hw (by omega) (by omega) sl_40_0 rfl rfl hl.1 rfl (Nat.le_of_ble_eq_true rfl) dX9_differs_368 ⟨Nat.le_of_ble_eq_true rfl, Nat.le_of_ble_eq_true rfl⟩) hS (fun z206 u207 H locs p208 hw hS => ?_)
                                            obtain ⟨eu207, p208⟩ := p208
                                            subst eu207
                                            refine x_if_eq (tgt := 378) hx hb (by omega) dX9_differs_371 (by decide) (fun c209 => ?_) (fun c209 => ?_)
                                            · refine lv_iconst (v := jI 0) hx hb dX9_differs_378 rfl ?_
                                              refine lv_istore (lv' := [(11, .int (jI 0)), (9, .long (jL (X20 75 0 ((5 * ((30 * sv) + r)) + k)))), (0, .ref (ad 40 0)), (1, .int (jI sv)), (2, .int (jI x)), (3, .int (jI nz)), (4, .int (jI r)), (5, .int (jI ((30 * sv) + r))), (6, .int (jI (120 + r))), (8, .int (jI k))]) hx hb dX9_differs_379 hl (by decide) rfl (fun ls hl => ?_)
                                              refine lv_iload hx hb dX9_differs_381 (lv_at hl 0 rfl) ?_
                                              refine x_if_eqT (tgt := 405) hx hb (by omega) (by decide) dX9_differs_383 (by decide) ?_
                                              refine lv_iinc (v := jI (k + 1)) (lv' := [(8, .int (jI (k + 1))), (11, .int (jI 0)), (9, .long (jL (X20 75 0 ((5 * ((30 * sv) + r)) + k)))), (0, .ref (ad 40 0)), (1, .int (jI sv)), (2, .int (jI x)), (3, .int (jI nz)), (4, .int (jI r)), (5, .int (jI ((30 * sv) + r))), (6, .int (jI (120 + r)))]) hx hb dX9_differs_405 hl (k := 9) rfl (jI_add _ _) (by decide) rfl (fun ls hl => ?_)
                                              refine lv_goto (tgt := 272) hx hb dX9_differs_408 (by decide) ?_
                                              exact ih272 (k + 1) _ _ _ (by omega) (by omega) hw hS (lv_sub hl [3, 4, 5, 6, 7, 8, 9, 0] rfl)
                                            · refine lv_iconst (v := jI 1) hx hb dX9_differs_374 rfl ?_
                                              refine lv_goto (tgt := 379) hx hb dX9_differs_375 (by decide) ?_
                                              refine lv_istore (lv' := [(11, .int (jI 1)), (9, .long (jL (X20 75 0 ((5 * ((30 * sv) + r)) + k)))), (0, .ref (ad 40 0)), (1, .int (jI sv)), (2, .int (jI x)), (3, .int (jI nz)), (4, .int (jI r)), (5, .int (jI ((30 * sv) + r))), (6, .int (jI (120 + r))), (8, .int (jI k))]) hx hb dX9_differs_379 hl (by decide) rfl (fun ls hl => ?_)
                                              refine lv_iload hx hb dX9_differs_381 (lv_at hl 0 rfl) ?_
                                              refine x_if_eqF (tgt := 405) hx hb (by omega) (by decide) dX9_differs_383 (by decide) ?_
                                              refine lv_bipush (v := jI 100) hx hb dX9_differs_386 (by decide) ?_
                                              refine lv_iload hx hb dX9_differs_388 (lv_at hl 6 rfl) ?_
                                              refine x_imul hx hb dX9_differs_390 ?_
                                              refine lv_aload_n hx hb dX9_differs_391 rfl (lv_at hl 2 rfl) ?_
                                              refine x_geto hx hb hf9 hw (by omega) (by omega) sl_40_32 lk90 dX9_differs_392 ?_
                                              refine lv_iconst (v := jI 5) hx hb dX9_differs_395 rfl ?_
                                              refine lv_iload hx hb dX9_differs_396 (lv_at hl 7 rfl) ?_
                                              refine x_imul hx hb dX9_differs_398 ?_
                                              refine lv_iload hx hb dX9_differs_399 (lv_at hl 9 rfl) ?_
                                              refine x_iadd hx hb dX9_differs_401 ?_
                                              refine x_iald hx hb hK.1 hw (by omega) (by omega) ar_73 (len_E ar_73 (by decide)) (by omega) (by omega) (by omega) dX9_differs_402 ?_
                                              have f210 : 0 ≤ X20 73 0 ((5 * ((30 * sv) + r)) + k) ∧ X20 73 0 ((5 * ((30 * sv) + r)) + k) ≤ 19 := hRX20 73 0 ((5 * ((30 * sv) + r)) + k)
                                              refine x_iadd hx hb dX9_differs_403 ?_
                                              refine ret_i (mc := 0) (ms := 0) hx hb hr hlocks hw hS (by omega) (by omega) dX9_differs_404 ?_
                                              exact ⟨X20, rfl, hRX20, hFX20, hMIX20, by omega⟩
                                      · refine lv_iconst (v := jI 1) hx hb dX9_differs_316 rfl ?_
                                        refine lv_goto (tgt := 321) hx hb dX9_differs_317 (by decide) ?_
                                        refine lv_istore (lv' := [(11, .int (jI 1)), (9, .long (jL (X20 75 0 ((5 * ((30 * sv) + r)) + k)))), (0, .ref (ad 40 0)), (1, .int (jI sv)), (2, .int (jI x)), (3, .int (jI nz)), (4, .int (jI r)), (5, .int (jI ((30 * sv) + r))), (6, .int (jI (120 + r))), (8, .int (jI k))]) hx hb dX9_differs_321 hl (by decide) rfl (fun ls hl => ?_)
                                        refine lv_iload hx hb dX9_differs_323 (lv_at hl 0 rfl) ?_
                                        refine x_if_neT (tgt := 374) hx hb (by omega) (by decide) dX9_differs_325 (by decide) ?_
                                        refine lv_iconst (v := jI 1) hx hb dX9_differs_374 rfl ?_
                                        refine lv_goto (tgt := 379) hx hb dX9_differs_375 (by decide) ?_
                                        refine lv_istore (lv' := [(11, .int (jI 1)), (9, .long (jL (X20 75 0 ((5 * ((30 * sv) + r)) + k)))), (0, .ref (ad 40 0)), (1, .int (jI sv)), (2, .int (jI x)), (3, .int (jI nz)), (4, .int (jI r)), (5, .int (jI ((30 * sv) + r))), (6, .int (jI (120 + r))), (8, .int (jI k))]) hx hb dX9_differs_379 hl (by decide) rfl (fun ls hl => ?_)
                                        refine lv_iload hx hb dX9_differs_381 (lv_at hl 0 rfl) ?_
                                        refine x_if_eqF (tgt := 405) hx hb (by omega) (by decide) dX9_differs_383 (by decide) ?_
                                        refine lv_bipush (v := jI 100) hx hb dX9_differs_386 (by decide) ?_
                                        refine lv_iload hx hb dX9_differs_388 (lv_at hl 6 rfl) ?_
                                        refine x_imul hx hb dX9_differs_390 ?_
                                        refine lv_aload_n hx hb dX9_differs_391 rfl (lv_at hl 2 rfl) ?_
                                        refine x_geto hx hb hf9 hw (by omega) (by omega) sl_40_32 lk90 dX9_differs_392 ?_
                                        refine lv_iconst (v := jI 5) hx hb dX9_differs_395 rfl ?_
                                        refine lv_iload hx hb dX9_differs_396 (lv_at hl 7 rfl) ?_
                                        refine x_imul hx hb dX9_differs_398 ?_
                                        refine lv_iload hx hb dX9_differs_399 (lv_at hl 9 rfl) ?_
                                        refine x_iadd hx hb dX9_differs_401 ?_
                                        refine x_iald hx hb hK.1 hw (by omega) (by omega) ar_73 (len_E ar_73 (by decide)) (by omega) (by omega) (by omega) dX9_differs_402 ?_
                                        have f211 : 0 ≤ X20 73 0 ((5 * ((30 * sv) + r)) + k) ∧ X20 73 0 ((5 * ((30 * sv) + r)) + k) ≤ 19 := hRX20 73 0 ((5 * ((30 * sv) + r)) + k)
                                        refine x_iadd hx hb dX9_differs_403 ?_
                                        refine ret_i (mc := 0) (ms := 0) hx hb hr hlocks hw hS (by omega) (by omega) dX9_differs_404 ?_
                                        exact ⟨X20, rfl, hRX20, hFX20, hMIX20, by omega⟩
                                exact lp272 (5 - 0 : Int).toNat.succ 0 _ _ _ (by omega) (by omega) hw hS (lv_sub hl [1, 2, 3, 4, 5, 6, 7, 0] rfl)
                              · refine lv_bipush (v := jI 100) hx hb dX9_differs_260 (by decide) ?_
                                refine lv_iload hx hb dX9_differs_262 (lv_at hl 4 rfl) ?_
                                refine x_imul hx hb dX9_differs_264 ?_
                                refine lv_bipush (v := jI 99) hx hb dX9_differs_265 (by decide) ?_
                                refine x_iadd hx hb dX9_differs_267 ?_
                                refine ret_i (mc := 0) (ms := 0) hx hb hr hlocks hw hS (by omega) (by omega) dX9_differs_268 ?_
                                exact ⟨X20, rfl, hRX20, hFX20, hMIX20, by omega⟩
                            · refine lv_aload_n hx hb dX9_differs_188 rfl (lv_at hl 0 rfl) ?_
                              refine x_geto hx hb hf9 hw (by omega) (by omega) sl_40_32 lk90 dX9_differs_189 ?_
                              refine lv_iconst (v := jI 5) hx hb dX9_differs_192 rfl ?_
                              refine lv_iload hx hb dX9_differs_193 (lv_at hl 5 rfl) ?_
                              refine x_imul hx hb dX9_differs_195 ?_
                              refine lv_iload hx hb dX9_differs_196 (lv_at hl 8 rfl) ?_
                              refine x_iadd hx hb dX9_differs_198 ?_
                              refine x_iald hx hb hK.1 hw (by omega) (by omega) ar_73 (len_E ar_73 (by decide)) (by omega) (by omega) (by omega) dX9_differs_199 ?_
                              have f212 : 0 ≤ X20 73 0 ((5 * ((30 * sv) + r)) + k) ∧ X20 73 0 ((5 * ((30 * sv) + r)) + k) ≤ 19 := hRX20 73 0 ((5 * ((30 * sv) + r)) + k)
                              refine lv_aload_n hx hb dX9_differs_200 rfl (lv_at hl 0 rfl) ?_
                              refine x_geto hx hb hf9 hw (by omega) (by omega) sl_40_32 lk90 dX9_differs_201 ?_
                              refine lv_iconst (v := jI 5) hx hb dX9_differs_204 rfl ?_
                              refine lv_iload hx hb dX9_differs_205 (lv_at hl 6 rfl) ?_
                              refine x_imul hx hb dX9_differs_207 ?_
                              refine lv_iload hx hb dX9_differs_208 (lv_at hl 8 rfl) ?_
                              refine x_iadd hx hb dX9_differs_210 ?_
                              refine x_iald hx hb hK.1 hw (by omega) (by omega) ar_73 (len_E ar_73 (by decide)) (by omega) (by omega) (by omega) dX9_differs_211 ?_
                              have f213 : 0 ≤ X20 73 0 ((5 * (120 + r)) + k) ∧ X20 73 0 ((5 * (120 + r)) + k) ≤ 19 := hRX20 73 0 ((5 * (120 + r)) + k)
                              refine x_icmp_ne (tgt := 246) hx hb (by omega) (by omega) dX9_differs_212 (by decide) (fun c214 => ?_) (fun c214 => ?_)
                              · refine lv_iconst (v := jI 0) hx hb dX9_differs_246 rfl ?_
                                refine lv_istore (lv' := [(7, .int (jI 0)), (0, .ref (ad 40 0)), (1, .int (jI sv)), (2, .int (jI x)), (3, .int (jI nz)), (4, .int (jI r)), (5, .int (jI ((30 * sv) + r))), (6, .int (jI (120 + r))), (8, .int (jI k))]) hx hb dX9_differs_247 hl (by decide) rfl (fun ls hl => ?_)
                                refine lv_iinc (v := jI (k + 1)) (lv' := [(8, .int (jI (k + 1))), (7, .int (jI 0)), (0, .ref (ad 40 0)), (1, .int (jI sv)), (2, .int (jI x)), (3, .int (jI nz)), (4, .int (jI r)), (5, .int (jI ((30 * sv) + r))), (6, .int (jI (120 + r)))]) hx hb dX9_differs_249 hl (k := 8) rfl (jI_add _ _) (by decide) rfl (fun ls hl => ?_)
                                refine lv_goto (tgt := 171) hx hb dX9_differs_252 (by decide) ?_
                                exact ih171 0 (k + 1) _ _ _ (by omega) (by omega) (by omega) hw hS (lv_sub hl [2, 3, 4, 5, 6, 7, 8, 1, 0] rfl)
                              · refine lv_aload_n hx hb dX9_differs_215 rfl (lv_at hl 0 rfl) ?_
                                refine x_geto hx hb hf9 hw (by omega) (by omega) sl_40_33 lk93 dX9_differs_216 ?_
                                refine lv_iconst (v := jI 5) hx hb dX9_differs_219 rfl ?_
                                refine lv_iload hx hb dX9_differs_220 (lv_at hl 5 rfl) ?_
                                refine x_imul hx hb dX9_differs_222 ?_
                                refine lv_iload hx hb dX9_differs_223 (lv_at hl 8 rfl) ?_
                                refine x_iadd hx hb dX9_differs_225 ?_
                                refine x_iald hx hb hK.1 hw (by omega) (by omega) ar_74 (len_E ar_74 (by decide)) (by omega) (by omega) (by omega) dX9_differs_226 ?_
                                have f215 : 0 ≤ X20 74 0 ((5 * ((30 * sv) + r)) + k) ∧ X20 74 0 ((5 * ((30 * sv) + r)) + k) ≤ 5 := hRX20 74 0 ((5 * ((30 * sv) + r)) + k)
                                refine lv_aload_n hx hb dX9_differs_227 rfl (lv_at hl 0 rfl) ?_
                                refine x_geto hx hb hf9 hw (by omega) (by omega) sl_40_33 lk93 dX9_differs_228 ?_
                                refine lv_iconst (v := jI 5) hx hb dX9_differs_231 rfl ?_
                                refine lv_iload hx hb dX9_differs_232 (lv_at hl 6 rfl) ?_
                                refine x_imul hx hb dX9_differs_234 ?_
                                refine lv_iload hx hb dX9_differs_235 (lv_at hl 8 rfl) ?_
                                refine x_iadd hx hb dX9_differs_237 ?_
                                refine x_iald hx hb hK.1 hw (by omega) (by omega) ar_74 (len_E ar_74 (by decide)) (by omega) (by omega) (by omega) dX9_differs_238 ?_
                                have f216 : 0 ≤ X20 74 0 ((5 * (120 + r)) + k) ∧ X20 74 0 ((5 * (120 + r)) + k) ≤ 5 := hRX20 74 0 ((5 * (120 + r)) + k)
                                refine x_icmp_ne (tgt := 246) hx hb (by omega) (by omega) dX9_differs_239 (by decide) (fun c217 => ?_) (fun c217 => ?_)
                                · refine lv_iconst (v := jI 0) hx hb dX9_differs_246 rfl ?_
                                  refine lv_istore (lv' := [(7, .int (jI 0)), (0, .ref (ad 40 0)), (1, .int (jI sv)), (2, .int (jI x)), (3, .int (jI nz)), (4, .int (jI r)), (5, .int (jI ((30 * sv) + r))), (6, .int (jI (120 + r))), (8, .int (jI k))]) hx hb dX9_differs_247 hl (by decide) rfl (fun ls hl => ?_)
                                  refine lv_iinc (v := jI (k + 1)) (lv' := [(8, .int (jI (k + 1))), (7, .int (jI 0)), (0, .ref (ad 40 0)), (1, .int (jI sv)), (2, .int (jI x)), (3, .int (jI nz)), (4, .int (jI r)), (5, .int (jI ((30 * sv) + r))), (6, .int (jI (120 + r)))]) hx hb dX9_differs_249 hl (k := 8) rfl (jI_add _ _) (by decide) rfl (fun ls hl => ?_)
                                  refine lv_goto (tgt := 171) hx hb dX9_differs_252 (by decide) ?_
                                  exact ih171 0 (k + 1) _ _ _ (by omega) (by omega) (by omega) hw hS (lv_sub hl [2, 3, 4, 5, 6, 7, 8, 1, 0] rfl)
                                · refine lv_iconst (v := jI 1) hx hb dX9_differs_242 rfl ?_
                                  refine lv_goto (tgt := 247) hx hb dX9_differs_243 (by decide) ?_
                                  refine lv_istore (lv' := [(7, .int (jI 1)), (0, .ref (ad 40 0)), (1, .int (jI sv)), (2, .int (jI x)), (3, .int (jI nz)), (4, .int (jI r)), (5, .int (jI ((30 * sv) + r))), (6, .int (jI (120 + r))), (8, .int (jI k))]) hx hb dX9_differs_247 hl (by decide) rfl (fun ls hl => ?_)
                                  refine lv_iinc (v := jI (k + 1)) (lv' := [(8, .int (jI (k + 1))), (7, .int (jI 1)), (0, .ref (ad 40 0)), (1, .int (jI sv)), (2, .int (jI x)), (3, .int (jI nz)), (4, .int (jI r)), (5, .int (jI ((30 * sv) + r))), (6, .int (jI (120 + r)))]) hx hb dX9_differs_249 hl (k := 8) rfl (jI_add _ _) (by decide) rfl (fun ls hl => ?_)
                                  refine lv_goto (tgt := 171) hx hb dX9_differs_252 (by decide) ?_
                                  exact ih171 1 (k + 1) _ _ _ (by omega) (by omega) (by omega) hw hS (lv_sub hl [2, 3, 4, 5, 6, 7, 8, 1, 0] rfl)
                      exact lp171 (5 - 0 : Int).toNat.succ 0 0 _ _ _ (by omega) (by omega) (by omega) hw hS (lv_sub hl [4, 5, 6, 7, 8, 3, 2, 1, 0] rfl)
                    · refine lv_aload_n hx hb dX9_differs_144 rfl (lv_at hl 2 rfl) ?_
                      refine x_geto hx hb hf9 hw (by omega) (by omega) sl_40_31 lk87 dX9_differs_145 ?_
                      refine lv_iload hx hb dX9_differs_148 (lv_at hl 1 rfl) ?_
                      refine x_iald hx hb hK.1 hw (by omega) (by omega) ar_72 (len_E ar_72 (by decide)) (by omega) (by omega) (by omega) dX9_differs_150 ?_
                      have f218 : 0 ≤ X20 72 0 ((30 * sv) + r) ∧ X20 72 0 ((30 * sv) + r) ≤ 5 := hRX20 72 0 ((30 * sv) + r)
                      refine lv_aload_n hx hb dX9_differs_151 rfl (lv_at hl 2 rfl) ?_
                      refine x_geto hx hb hf9 hw (by omega) (by omega) sl_40_31 lk87 dX9_differs_152 ?_
                      refine lv_iload hx hb dX9_differs_155 (lv_at hl 0 rfl) ?_
                      refine x_iald hx hb hK.1 hw (by omega) (by omega) ar_72 (len_E ar_72 (by decide)) (by omega) (by omega) (by omega) dX9_differs_157 ?_
                      have f219 : 0 ≤ X20 72 0 (120 + r) ∧ X20 72 0 (120 + r) ≤ 5 := hRX20 72 0 (120 + r)
                      refine x_icmp_ne (tgt := 165) hx hb (by omega) (by omega) dX9_differs_158 (by decide) (fun c220 => ?_) (fun c220 => ?_)
                      · refine lv_iconst (v := jI 0) hx hb dX9_differs_165 rfl ?_
                        refine lv_istore (lv' := [(7, .int (jI 0)), (6, .int (jI (120 + r))), (5, .int (jI ((30 * sv) + r))), (0, .ref (ad 40 0)), (1, .int (jI sv)), (2, .int (jI x)), (3, .int (jI nz)), (4, .int (jI r))]) hx hb dX9_differs_166 hl (by decide) rfl (fun ls hl => ?_)
                        refine lv_iconst (v := jI 0) hx hb dX9_differs_168 rfl ?_
                        refine lv_istore (lv' := [(8, .int (jI 0)), (7, .int (jI 0)), (6, .int (jI (120 + r))), (5, .int (jI ((30 * sv) + r))), (0, .ref (ad 40 0)), (1, .int (jI sv)), (2, .int (jI x)), (3, .int (jI nz)), (4, .int (jI r))]) hx hb dX9_differs_169 hl (by decide) rfl (fun ls hl => ?_)
                        have lp171 : ∀ (nn : Nat) (sm : Int) (k : Int) (H : Heap) (locs : List Loc) (ls : Array Slot), (5 - k) < (nn : Int) → (0 ≤ sm ∧ sm ≤ 1) → (0 ≤ k ∧ k ≤ 5) → wd D tc base (ad, cnt, X20, Y, ln) H → va_S (frA base) s.heap H locs → lv_has ls 12 [(0, .ref (ad 40 0)), (1, .int (jI sv)), (2, .int (jI x)), (3, .int (jI nz)), (4, .int (jI r)), (5, .int (jI ((30 * sv) + r))), (6, .int (jI (120 + r))), (7, .int (jI sm)), (8, .int (jI k))] → W p l e ({ frames := 2, cells := 0, slots := 0, locals := 53 } : Room) s m ([.ref (ad 40 0), .int (jI sv), .int (jI x)] : List Value).toArray below meth c H locs 0 0 (MQ below (QI D tc base (fun z u => ∃ X1 : Nat → Int → Int → Int, u = (ad, cnt, X1, Y, ln) ∧ Rng X1 ∧ Frm [4001, 7100, 7200, 7300, 7400, 7500, 8000, 7000, 8100, 7700, 7800, 7900, 7600, 4042, 4043, 4044] X X1 ∧ MInv X1 ∧ (-2147483648 ≤ z ∧ z ≤ 2147483647))) ([.ref (ad 40 0), .int (jI sv), .int (jI x)] : List Value).toArray s 0 0 (frA base)) (F0 m 171 ls []) := by
                          intro nn
                          induction nn with
                          | zero => intro sm k H locs ls hm hsm hk hw hS hl; exfalso; omega
                          | succ nn ih171 =>
                            intro sm k H locs ls hm hsm hk hw hS hl
                            refine lv_iload hx hb dX9_differs_171 (lv_at hl 7 rfl) ?_
                            refine x_if_eq (tgt := 255) hx hb (by omega) dX9_differs_173 (by decide) (fun c221 => ?_) (fun c221 => ?_)
                            · refine lv_iload hx hb dX9_differs_255 (lv_at hl 7 rfl) ?_
                              refine x_if_ne (tgt := 269) hx hb (by omega) dX9_differs_257 (by decide) (fun c222 => ?_) (fun c222 => ?_)
                              · refine lv_iconst (v := jI 0) hx hb dX9_differs_269 rfl ?_
                                refine lv_istore (lv' := [(8, .int (jI 0)), (0, .ref (ad 40 0)), (1, .int (jI sv)), (2, .int (jI x)), (3, .int (jI nz)), (4, .int (jI r)), (5, .int (jI ((30 * sv) + r))), (6, .int (jI (120 + r))), (7, .int (jI sm))]) hx hb dX9_differs_270 hl (by decide) rfl (fun ls hl => ?_)
                                have lp272 : ∀ (nn : Nat) (k : Int) (H : Heap) (locs : List Loc) (ls : Array Slot), (5 - k) < (nn : Int) → (0 ≤ k ∧ k ≤ 5) → wd D tc base (ad, cnt, X20, Y, ln) H → va_S (frA base) s.heap H locs → lv_has ls 12 [(0, .ref (ad 40 0)), (1, .int (jI sv)), (2, .int (jI x)), (3, .int (jI nz)), (4, .int (jI r)), (5, .int (jI ((30 * sv) + r))), (6, .int (jI (120 + r))), (8, .int (jI k))] → W p l e ({ frames := 2, cells := 0, slots := 0, locals := 53 } : Room) s m ([.ref (ad 40 0), .int (jI sv), .int (jI x)] : List Value).toArray below meth c H locs 0 0 (MQ below (QI D tc base (fun z u => ∃ X1 : Nat → Int → Int → Int, u = (ad, cnt, X1, Y, ln) ∧ Rng X1 ∧ Frm [4001, 7100, 7200, 7300, 7400, 7500, 8000, 7000, 8100, 7700, 7800, 7900, 7600, 4042, 4043, 4044] X X1 ∧ MInv X1 ∧ (-2147483648 ≤ z ∧ z ≤ 2147483647))) ([.ref (ad 40 0), .int (jI sv), .int (jI x)] : List Value).toArray s 0 0 (frA base)) (F0 m 272 ls []) := by
                                  intro nn
                                  induction nn with
                                  | zero => intro k H locs ls hm hk hw hS hl; exfalso; omega
                                  | succ nn ih272 =>
                                    intro k H locs ls hm hk hw hS hl
                                    refine lv_iload hx hb dX9_differs_272 (lv_at hl 7 rfl) ?_
                                    refine lv_aload_n hx hb dX9_differs_274 rfl (lv_at hl 0 rfl) ?_
                                    refine x_geto hx hb hf9 hw (by omega) (by omega) sl_40_31 lk87 dX9_differs_275 ?_
                                    refine lv_iload hx hb dX9_differs_278 (lv_at hl 5 rfl) ?_
                                    refine x_iald hx hb hK.1 hw (by omega) (by omega) ar_72 (len_E ar_72 (by decide)) (by omega) (by omega) (by omega) dX9_differs_280 ?_
                                    have f223 : 0 ≤ X20 72 0 ((30 * sv) + r) ∧ X20 72 0 ((30 * sv) + r) ≤ 5 := hRX20 72 0 ((30 * sv) + r)
                                    refine x_icmp_ge (tgt := 411) hx hb (by omega) (by omega) dX9_differs_281 (by decide) (fun c224 => ?_) (fun c224 => ?_)
                                    · refine lv_iinc (v := jI (r + 1)) (lv' := [(4, .int (jI (r + 1))), (0, .ref (ad 40 0)), (1, .int (jI sv)), (2, .int (jI x)), (3, .int (jI nz)), (5, .int (jI ((30 * sv) + r))), (6, .int (jI (120 + r))), (8, .int (jI k))]) hx hb dX9_differs_411 hl (k := 4) rfl (jI_add _ _) (by decide) rfl (fun ls hl => ?_)
                                      refine lv_goto (tgt := 74) hx hb dX9_differs_414 (by decide) ?_
                                      exact ih74 nz (r + 1) _ _ _ (by omega) (by omega) (by omega) hw hS (lv_sub hl [1, 2, 3, 4, 0] rfl)
                                    · refine lv_aload_n hx hb dX9_differs_284 rfl (lv_at hl 0 rfl) ?_
                                      refine x_geto hx hb hf9 hw (by omega) (by omega) sl_40_34 lk96 dX9_differs_285 ?_
                                      refine lv_iconst (v := jI 5) hx hb dX9_differs_288 rfl ?_
                                      refine lv_iload hx hb dX9_differs_289 (lv_at hl 5 rfl) ?_
                                      refine x_imul hx hb dX9_differs_291 ?_
                                      refine lv_iload hx hb dX9_differs_292 (lv_at hl 7 rfl) ?_
                                      refine x_iadd hx hb dX9_differs_294 ?_
                                      obtain ⟨hv1, hv2, hv3⟩ := (hMIX20.2.2.1 sv r (by omega) (by omega) (by omega) (by omega)).2 k (by omega) (by omega)
                                      refine x_lald hx hb hK.1 hw (by omega) (by omega) ar_75 (len_E ar_75 (by decide)) (by omega) (by omega) (by omega) dX9_differs_295 ?_
                                      have f225 : (-9223372036854775808) ≤ X20 75 0 ((5 * ((30 * sv) + r)) + k) ∧ X20 75 0 ((5 * ((30 * sv) + r)) + k) ≤ 9223372036854775807 := hRX20 75 0 ((5 * ((30 * sv) + r)) + k)
                                      refine lv_lstore (lv' := [(9, .long (jL (X20 75 0 ((5 * ((30 * sv) + r)) + k)))), (0, .ref (ad 40 0)), (1, .int (jI sv)), (2, .int (jI x)), (3, .int (jI nz)), (4, .int (jI r)), (5, .int (jI ((30 * sv) + r))), (6, .int (jI (120 + r))), (8, .int (jI k))]) hx hb dX9_differs_296 hl (by decide) rfl (fun ls hl => ?_)
                                      refine lv_lload hx hb dX9_differs_298 (lv_at hl 0 rfl) ?_
                                      refine lv_aload_n hx hb dX9_differs_300 rfl (lv_at hl 1 rfl) ?_
                                      refine x_geto hx hb hf9 hw (by omega) (by omega) sl_40_34 lk96 dX9_differs_301 ?_
                                      refine lv_iconst (v := jI 5) hx hb dX9_differs_304 rfl ?_
                                      refine lv_iload hx hb dX9_differs_305 (lv_at hl 7 rfl) ?_
                                      refine x_imul hx hb dX9_differs_307 ?_
                                      refine lv_iload hx hb dX9_differs_308 (lv_at hl 8 rfl) ?_
                                      refine x_iadd hx hb dX9_differs_310 ?_
                                      refine x_lald hx hb hK.1 hw (by omega) (by omega) ar_75 (len_E ar_75 (by decide)) (by omega) (by omega) (by omega) dX9_differs_311 ?_
                                      have f226 : (-9223372036854775808) ≤ X20 75 0 ((5 * (120 + r)) + k) ∧ X20 75 0 ((5 * (120 + r)) + k) ≤ 9223372036854775807 := hRX20 75 0 ((5 * (120 + r)) + k)
                                      refine x_lcmp hx hb (by omega) (by omega) dX9_differs_312 ?_
                                      obtain ⟨z227, ez227⟩ : ∃ y : Int, y = cmpZ (X20 75 0 ((5 * ((30 * sv) + r)) + k)) (X20 75 0 ((5 * (120 + r)) + k)) := ⟨_, rfl⟩
                                      rw [← ez227]
                                      have gz227 : (z227 < 0 ↔ ((X20 75 0 ((5 * ((30 * sv) + r)) + k)) : Int) < (X20 75 0 ((5 * (120 + r)) + k))) ∧ (z227 = 0 ↔ ((X20 75 0 ((5 * ((30 * sv) + r)) + k)) : Int) = (X20 75 0 ((5 * (120 + r)) + k))) ∧ -1 ≤ z227 ∧ z227 ≤ 1 := by rw [ez227]; exact ⟨cmpZ_lt, cmpZ_eq, (cmpZ_r _ _).1, (cmpZ_r _ _).2⟩
                                      clear ez227
                                      refine x_if_eq (tgt := 320) hx hb (by omega) dX9_differs_313 (by decide) (fun c228 => ?_) (fun c228 => ?_)
                                      · refine lv_iconst (v := jI 0) hx hb dX9_differs_320 rfl ?_
                                        refine lv_istore (lv' := [(11, .int (jI 0)), (9, .long (jL (X20 75 0 ((5 * ((30 * sv) + r)) + k)))), (0, .ref (ad 40 0)), (1, .int (jI sv)), (2, .int (jI x)), (3, .int (jI nz)), (4, .int (jI r)), (5, .int (jI ((30 * sv) + r))), (6, .int (jI (120 + r))), (8, .int (jI k))]) hx hb dX9_differs_321 hl (by decide) rfl (fun ls hl => ?_)
                                        refine lv_iload hx hb dX9_differs_323 (lv_at hl 0 rfl) ?_
                                        refine x_if_neF (tgt := 374) hx hb (by omega) (by decide) dX9_differs_325 (by decide) ?_
                                        refine lv_aload_n hx hb dX9_differs_328 rfl (lv_at hl 2 rfl) ?_
                                        refine x_geto hx hb hf9 hw (by omega) (by omega) sl_40_33 lk93 dX9_differs_329 ?_
                                        refine lv_iconst (v := jI 5) hx hb dX9_differs_332 rfl ?_
                                        refine lv_iload hx hb dX9_differs_333 (lv_at hl 7 rfl) ?_
                                        refine x_imul hx hb dX9_differs_335 ?_
                                        refine lv_iload hx hb dX9_differs_336 (lv_at hl 9 rfl) ?_
                                        refine x_iadd hx hb dX9_differs_338 ?_
                                        refine x_iald hx hb hK.1 hw (by omega) (by omega) ar_74 (len_E ar_74 (by decide)) (by omega) (by omega) (by omega) dX9_differs_339 ?_
                                        have f229 : 0 ≤ X20 74 0 ((5 * ((30 * sv) + r)) + k) ∧ X20 74 0 ((5 * ((30 * sv) + r)) + k) ≤ 5 := hRX20 74 0 ((5 * ((30 * sv) + r)) + k)
                                        refine lv_iconst (v := jI 2) hx hb dX9_differs_340 rfl ?_
                                        refine x_icmp_le (tgt := 378) hx hb (by omega) (by omega) dX9_differs_341 (by decide) (fun c230 => ?_) (fun c230 => ?_)
                                        · refine lv_iconst (v := jI 0) hx hb dX9_differs_378 rfl ?_
                                          refine lv_istore (lv' := [(11, .int (jI 0)), (9, .long (jL (X20 75 0 ((5 * ((30 * sv) + r)) + k)))), (0, .ref (ad 40 0)), (1, .int (jI sv)), (2, .int (jI x)), (3, .int (jI nz)), (4, .int (jI r)), (5, .int (jI ((30 * sv) + r))), (6, .int (jI (120 + r))), (8, .int (jI k))]) hx hb dX9_differs_379 hl (by decide) rfl (fun ls hl => ?_)
                                          refine lv_iload hx hb dX9_differs_381 (lv_at hl 0 rfl) ?_
                                          refine x_if_eqT (tgt := 405) hx hb (by omega) (by decide) dX9_differs_383 (by decide) ?_
                                          refine lv_iinc (v := jI (k + 1)) (lv' := [(8, .int (jI (k + 1))), (11, .int (jI 0)), (9, .long (jL (X20 75 0 ((5 * ((30 * sv) + r)) + k)))), (0, .ref (ad 40 0)), (1, .int (jI sv)), (2, .int (jI x)), (3, .int (jI nz)), (4, .int (jI r)), (5, .int (jI ((30 * sv) + r))), (6, .int (jI (120 + r)))]) hx hb dX9_differs_405 hl (k := 9) rfl (jI_add _ _) (by decide) rfl (fun ls hl => ?_)
                                          refine lv_goto (tgt := 272) hx hb dX9_differs_408 (by decide) ?_
                                          exact ih272 (k + 1) _ _ _ (by omega) (by omega) hw hS (lv_sub hl [3, 4, 5, 6, 7, 8, 9, 0] rfl)
                                        · refine lv_lload hx hb dX9_differs_344 (lv_at hl 1 rfl) ?_
                                          refine lv_lconst (v := jL 0) hx hb dX9_differs_346 (by decide) ?_
                                          refine x_lcmp hx hb (by omega) (by omega) dX9_differs_347 ?_
                                          obtain ⟨z231, ez231⟩ : ∃ y : Int, y = cmpZ (X20 75 0 ((5 * ((30 * sv) + r)) + k)) 0 := ⟨_, rfl⟩
                                          rw [← ez231]
                                          have gz231 : (z231 < 0 ↔ ((X20 75 0 ((5 * ((30 * sv) + r)) + k)) : Int) < 0) ∧ (z231 = 0 ↔ ((X20 75 0 ((5 * ((30 * sv) + r)) + k)) : Int) = 0) ∧ -1 ≤ z231 ∧ z231 ≤ 1 := by rw [ez231]; exact ⟨cmpZ_lt, cmpZ_eq, (cmpZ_r _ _).1, (cmpZ_r _ _).2⟩
                                          clear ez231
                                          refine x_if_lt (tgt := 378) hx hb (by omega) dX9_differs_348 (by decide) (fun c232 => ?_) (fun c232 => ?_)
                                          · refine lv_iconst (v := jI 0) hx hb dX9_differs_378 rfl ?_
                                            refine lv_istore (lv' := [(11, .int (jI 0)), (9, .long (jL (X20 75 0 ((5 * ((30 * sv) + r)) + k)))), (0, .ref (ad 40 0)), (1, .int (jI sv)), (2, .int (jI x)), (3, .int (jI nz)), (4, .int (jI r)), (5, .int (jI ((30 * sv) + r))), (6, .int (jI (120 + r))), (8, .int (jI k))]) hx hb dX9_differs_379 hl (by decide) rfl (fun ls hl => ?_)
                                            refine lv_iload hx hb dX9_differs_381 (lv_at hl 0 rfl) ?_
                                            refine x_if_eqT (tgt := 405) hx hb (by omega) (by decide) dX9_differs_383 (by decide) ?_
                                            refine lv_iinc (v := jI (k + 1)) (lv' := [(8, .int (jI (k + 1))), (11, .int (jI 0)), (9, .long (jL (X20 75 0 ((5 * ((30 * sv) + r)) + k)))), (0, .ref (ad 40 0)), (1, .int (jI sv)), (2, .int (jI x)), (3, .int (jI nz)), (4, .int (jI r)), (5, .int (jI ((30 * sv) + r))), (6, .int (jI (120 + r)))]) hx hb dX9_differs_405 hl (k := 9) rfl (jI_add _ _) (by decide) rfl (fun ls hl => ?_)
                                            refine lv_goto (tgt := 272) hx hb dX9_differs_408 (by decide) ?_
                                            exact ih272 (k + 1) _ _ _ (by omega) (by omega) hw hS (lv_sub hl [3, 4, 5, 6, 7, 8, 9, 0] rfl)
                                          · refine lv_aload_n hx hb dX9_differs_351 rfl (lv_at hl 2 rfl) ?_
                                            refine lv_sipush (v := jI 150) hx hb dX9_differs_352 (by decide) ?_
                                            refine lv_iload_n hx hb dX9_differs_355 rfl (lv_at hl 3 rfl) ?_
                                            refine x_imul hx hb dX9_differs_356 ?_
                                            refine lv_lload hx hb dX9_differs_357 (lv_at hl 1 rfl) ?_
                                            refine x_l2i hx hb dX9_differs_359 ?_
                                            refine x_iadd hx hb dX9_differs_360 ?_
                                            refine lv_sipush (v := jI 600) hx hb dX9_differs_361 (by decide) ?_
                                            refine lv_lload hx hb dX9_differs_364 (lv_at hl 1 rfl) ?_
                                            refine x_l2i hx hb dX9_differs_366 ?_
                                            refine x_iadd hx hb dX9_differs_367 ?_
                                            refine gos_i (run_V (As := [.int (jI ((150 * sv) + (X20 75 0 ((5 * ((30 * sv) + r)) + k)))), .int (jI (600 + (X20 75 0 ((5 * ((30 * sv) + r)) + k))))]) (rest := []) hx hb hml hown hts (c_X9_rowsDiffer l D tc base ad cnt X20 Y ln hRX20 hFx hMIX20 ((150 * sv) + (X20 75 0 ((5 * ((30 * sv) + r)) + k))) (600 + (X20 75 0 ((5 * ((30 * sv) + r)) + k))) (by omega) (by omega)) (cwV 2 hts gX9_differs_X9_rowsDiffer rfl rfl rfl (by decide +kernel) ⟨Nat.le_of_ble_eq_true rfl, Nat.le_of_ble_eq_true rfl⟩) hK hw (by omega) (by omega) sl_40_0 rfl rfl hl.1 rfl (Nat.le_of_ble_eq_true rfl) dX9_differs_368 ⟨Nat.le_of_ble_eq_true rfl, Nat.le_of_ble_eq_true rfl⟩) hS (fun z233 u234 H locs p235 hw hS => ?_)
                                            obtain ⟨eu234, p235⟩ := p235
                                            subst eu234
                                            refine x_if_eq (tgt := 378) hx hb (by omega) dX9_differs_371 (by decide) (fun c236 => ?_) (fun c236 => ?_)
                                            · refine lv_iconst (v := jI 0) hx hb dX9_differs_378 rfl ?_
                                              refine lv_istore (lv' := [(11, .int (jI 0)), (9, .long (jL (X20 75 0 ((5 * ((30 * sv) + r)) + k)))), (0, .ref (ad 40 0)), (1, .int (jI sv)), (2, .int (jI x)), (3, .int (jI nz)), (4, .int (jI r)), (5, .int (jI ((30 * sv) + r))), (6, .int (jI (120 + r))), (8, .int (jI k))]) hx hb dX9_differs_379 hl (by decide) rfl (fun ls hl => ?_)
                                              refine lv_iload hx hb dX9_differs_381 (lv_at hl 0 rfl) ?_
                                              refine x_if_eqT (tgt := 405) hx hb (by omega) (by decide) dX9_differs_383 (by decide) ?_
                                              refine lv_iinc (v := jI (k + 1)) (lv' := [(8, .int (jI (k + 1))), (11, .int (jI 0)), (9, .long (jL (X20 75 0 ((5 * ((30 * sv) + r)) + k)))), (0, .ref (ad 40 0)), (1, .int (jI sv)), (2, .int (jI x)), (3, .int (jI nz)), (4, .int (jI r)), (5, .int (jI ((30 * sv) + r))), (6, .int (jI (120 + r)))]) hx hb dX9_differs_405 hl (k := 9) rfl (jI_add _ _) (by decide) rfl (fun ls hl => ?_)
                                              refine lv_goto (tgt := 272) hx hb dX9_differs_408 (by decide) ?_
                                              exact ih272 (k + 1) _ _ _ (by omega) (by omega) hw hS (lv_sub hl [3, 4, 5, 6, 7, 8, 9, 0] rfl)
                                            · refine lv_iconst (v := jI 1) hx hb dX9_differs_374 rfl ?_
                                              refine lv_goto (tgt := 379) hx hb dX9_differs_375 (by decide) ?_
                                              refine lv_istore (lv' := [(11, .int (jI 1)), (9, .long (jL (X20 75 0 ((5 * ((30 * sv) + r)) + k)))), (0, .ref (ad 40 0)), (1, .int (jI sv)), (2, .int (jI x)), (3, .int (jI nz)), (4, .int (jI r)), (5, .int (jI ((30 * sv) + r))), (6, .int (jI (120 + r))), (8, .int (jI k))]) hx hb dX9_differs_379 hl (by decide) rfl (fun ls hl => ?_)
                                              refine lv_iload hx hb dX9_differs_381 (lv_at hl 0 rfl) ?_
                                              refine x_if_eqF (tgt := 405) hx hb (by omega) (by decide) dX9_differs_383 (by decide) ?_
                                              refine lv_bipush (v := jI 100) hx hb dX9_differs_386 (by decide) ?_
                                              refine lv_iload hx hb dX9_differs_388 (lv_at hl 6 rfl) ?_
                                              refine x_imul hx hb dX9_differs_390 ?_
                                              refine lv_aload_n hx hb dX9_differs_391 rfl (lv_at hl 2 rfl) ?_
                                              refine x_geto hx hb hf9 hw (by omega) (by omega) sl_40_32 lk90 dX9_differs_392 ?_
                                              refine lv_iconst (v := jI 5) hx hb dX9_differs_395 rfl ?_
                                              refine lv_iload hx hb dX9_differs_396 (lv_at hl 7 rfl) ?_
                                              refine x_imul hx hb dX9_differs_398 ?_
                                              refine lv_iload hx hb dX9_differs_399 (lv_at hl 9 rfl) ?_
                                              refine x_iadd hx hb dX9_differs_401 ?_
                                              refine x_iald hx hb hK.1 hw (by omega) (by omega) ar_73 (len_E ar_73 (by decide)) (by omega) (by omega) (by omega) dX9_differs_402 ?_
                                              have f237 : 0 ≤ X20 73 0 ((5 * ((30 * sv) + r)) + k) ∧ X20 73 0 ((5 * ((30 * sv) + r)) + k) ≤ 19 := hRX20 73 0 ((5 * ((30 * sv) + r)) + k)
                                              refine x_iadd hx hb dX9_differs_403 ?_
                                              refine ret_i (mc := 0) (ms := 0) hx hb hr hlocks hw hS (by omega) (by omega) dX9_differs_404 ?_
                                              exact ⟨X20, rfl, hRX20, hFX20, hMIX20, by omega⟩
                                      · refine lv_iconst (v := jI 1) hx hb dX9_differs_316 rfl ?_
                                        refine lv_goto (tgt := 321) hx hb dX9_differs_317 (by decide) ?_
                                        refine lv_istore (lv' := [(11, .int (jI 1)), (9, .long (jL (X20 75 0 ((5 * ((30 * sv) + r)) + k)))), (0, .ref (ad 40 0)), (1, .int (jI sv)), (2, .int (jI x)), (3, .int (jI nz)), (4, .int (jI r)), (5, .int (jI ((30 * sv) + r))), (6, .int (jI (120 + r))), (8, .int (jI k))]) hx hb dX9_differs_321 hl (by decide) rfl (fun ls hl => ?_)
                                        refine lv_iload hx hb dX9_differs_323 (lv_at hl 0 rfl) ?_
                                        refine x_if_neT (tgt := 374) hx hb (by omega) (by decide) dX9_differs_325 (by decide) ?_
                                        refine lv_iconst (v := jI 1) hx hb dX9_differs_374 rfl ?_
                                        refine lv_goto (tgt := 379) hx hb dX9_differs_375 (by decide) ?_
                                        refine lv_istore (lv' := [(11, .int (jI 1)), (9, .long (jL (X20 75 0 ((5 * ((30 * sv) + r)) + k)))), (0, .ref (ad 40 0)), (1, .int (jI sv)), (2, .int (jI x)), (3, .int (jI nz)), (4, .int (jI r)), (5, .int (jI ((30 * sv) + r))), (6, .int (jI (120 + r))), (8, .int (jI k))]) hx hb dX9_differs_379 hl (by decide) rfl (fun ls hl => ?_)
                                        refine lv_iload hx hb dX9_differs_381 (lv_at hl 0 rfl) ?_
                                        refine x_if_eqF (tgt := 405) hx hb (by omega) (by decide) dX9_differs_383 (by decide) ?_
                                        refine lv_bipush (v := jI 100) hx hb dX9_differs_386 (by decide) ?_
                                        refine lv_iload hx hb dX9_differs_388 (lv_at hl 6 rfl) ?_
                                        refine x_imul hx hb dX9_differs_390 ?_
                                        refine lv_aload_n hx hb dX9_differs_391 rfl (lv_at hl 2 rfl) ?_
                                        refine x_geto hx hb hf9 hw (by omega) (by omega) sl_40_32 lk90 dX9_differs_392 ?_
                                        refine lv_iconst (v := jI 5) hx hb dX9_differs_395 rfl ?_
                                        refine lv_iload hx hb dX9_differs_396 (lv_at hl 7 rfl) ?_
                                        refine x_imul hx hb dX9_differs_398 ?_
                                        refine lv_iload hx hb dX9_differs_399 (lv_at hl 9 rfl) ?_
                                        refine x_iadd hx hb dX9_differs_401 ?_
                                        refine x_iald hx hb hK.1 hw (by omega) (by omega) ar_73 (len_E ar_73 (by decide)) (by omega) (by omega) (by omega) dX9_differs_402 ?_
                                        have f238 : 0 ≤ X20 73 0 ((5 * ((30 * sv) + r)) + k) ∧ X20 73 0 ((5 * ((30 * sv) + r)) + k) ≤ 19 := hRX20 73 0 ((5 * ((30 * sv) + r)) + k)
                                        refine x_iadd hx hb dX9_differs_403 ?_
                                        refine ret_i (mc := 0) (ms := 0) hx hb hr hlocks hw hS (by omega) (by omega) dX9_differs_404 ?_
                                        exact ⟨X20, rfl, hRX20, hFX20, hMIX20, by omega⟩
                                exact lp272 (5 - 0 : Int).toNat.succ 0 _ _ _ (by omega) (by omega) hw hS (lv_sub hl [1, 2, 3, 4, 5, 6, 7, 0] rfl)
                              · refine lv_bipush (v := jI 100) hx hb dX9_differs_260 (by decide) ?_
                                refine lv_iload hx hb dX9_differs_262 (lv_at hl 4 rfl) ?_
                                refine x_imul hx hb dX9_differs_264 ?_
                                refine lv_bipush (v := jI 99) hx hb dX9_differs_265 (by decide) ?_
                                refine x_iadd hx hb dX9_differs_267 ?_
                                refine ret_i (mc := 0) (ms := 0) hx hb hr hlocks hw hS (by omega) (by omega) dX9_differs_268 ?_
                                exact ⟨X20, rfl, hRX20, hFX20, hMIX20, by omega⟩
                            · refine lv_iload hx hb dX9_differs_176 (lv_at hl 8 rfl) ?_
                              refine lv_aload_n hx hb dX9_differs_178 rfl (lv_at hl 0 rfl) ?_
                              refine x_geto hx hb hf9 hw (by omega) (by omega) sl_40_31 lk87 dX9_differs_179 ?_
                              refine lv_iload hx hb dX9_differs_182 (lv_at hl 5 rfl) ?_
                              refine x_iald hx hb hK.1 hw (by omega) (by omega) ar_72 (len_E ar_72 (by decide)) (by omega) (by omega) (by omega) dX9_differs_184 ?_
                              have f239 : 0 ≤ X20 72 0 ((30 * sv) + r) ∧ X20 72 0 ((30 * sv) + r) ≤ 5 := hRX20 72 0 ((30 * sv) + r)
                              refine x_icmp_ge (tgt := 255) hx hb (by omega) (by omega) dX9_differs_185 (by decide) (fun c240 => ?_) (fun c240 => ?_)
                              · refine lv_iload hx hb dX9_differs_255 (lv_at hl 7 rfl) ?_
                                refine x_if_ne (tgt := 269) hx hb (by omega) dX9_differs_257 (by decide) (fun c241 => ?_) (fun c241 => ?_)
                                · refine lv_iconst (v := jI 0) hx hb dX9_differs_269 rfl ?_
                                  refine lv_istore (lv' := [(8, .int (jI 0)), (0, .ref (ad 40 0)), (1, .int (jI sv)), (2, .int (jI x)), (3, .int (jI nz)), (4, .int (jI r)), (5, .int (jI ((30 * sv) + r))), (6, .int (jI (120 + r))), (7, .int (jI sm))]) hx hb dX9_differs_270 hl (by decide) rfl (fun ls hl => ?_)
                                  have lp272 : ∀ (nn : Nat) (k : Int) (H : Heap) (locs : List Loc) (ls : Array Slot), (5 - k) < (nn : Int) → (0 ≤ k ∧ k ≤ 5) → wd D tc base (ad, cnt, X20, Y, ln) H → va_S (frA base) s.heap H locs → lv_has ls 12 [(0, .ref (ad 40 0)), (1, .int (jI sv)), (2, .int (jI x)), (3, .int (jI nz)), (4, .int (jI r)), (5, .int (jI ((30 * sv) + r))), (6, .int (jI (120 + r))), (8, .int (jI k))] → W p l e ({ frames := 2, cells := 0, slots := 0, locals := 53 } : Room) s m ([.ref (ad 40 0), .int (jI sv), .int (jI x)] : List Value).toArray below meth c H locs 0 0 (MQ below (QI D tc base (fun z u => ∃ X1 : Nat → Int → Int → Int, u = (ad, cnt, X1, Y, ln) ∧ Rng X1 ∧ Frm [4001, 7100, 7200, 7300, 7400, 7500, 8000, 7000, 8100, 7700, 7800, 7900, 7600, 4042, 4043, 4044] X X1 ∧ MInv X1 ∧ (-2147483648 ≤ z ∧ z ≤ 2147483647))) ([.ref (ad 40 0), .int (jI sv), .int (jI x)] : List Value).toArray s 0 0 (frA base)) (F0 m 272 ls []) := by
                                    intro nn
                                    induction nn with
                                    | zero => intro k H locs ls hm hk hw hS hl; exfalso; omega
                                    | succ nn ih272 =>
                                      intro k H locs ls hm hk hw hS hl
                                      refine lv_iload hx hb dX9_differs_272 (lv_at hl 7 rfl) ?_
                                      refine lv_aload_n hx hb dX9_differs_274 rfl (lv_at hl 0 rfl) ?_
                                      refine x_geto hx hb hf9 hw (by omega) (by omega) sl_40_31 lk87 dX9_differs_275 ?_
                                      refine lv_iload hx hb dX9_differs_278 (lv_at hl 5 rfl) ?_
                                      refine x_iald hx hb hK.1 hw (by omega) (by omega) ar_72 (len_E ar_72 (by decide)) (by omega) (by omega) (by omega) dX9_differs_280 ?_
                                      have f242 : 0 ≤ X20 72 0 ((30 * sv) + r) ∧ X20 72 0 ((30 * sv) + r) ≤ 5 := hRX20 72 0 ((30 * sv) + r)
                                      refine x_icmp_ge (tgt := 411) hx hb (by omega) (by omega) dX9_differs_281 (by decide) (fun c243 => ?_) (fun c243 => ?_)
                                      · refine lv_iinc (v := jI (r + 1)) (lv' := [(4, .int (jI (r + 1))), (0, .ref (ad 40 0)), (1, .int (jI sv)), (2, .int (jI x)), (3, .int (jI nz)), (5, .int (jI ((30 * sv) + r))), (6, .int (jI (120 + r))), (8, .int (jI k))]) hx hb dX9_differs_411 hl (k := 4) rfl (jI_add _ _) (by decide) rfl (fun ls hl => ?_)
                                        refine lv_goto (tgt := 74) hx hb dX9_differs_414 (by decide) ?_
                                        exact ih74 nz (r + 1) _ _ _ (by omega) (by omega) (by omega) hw hS (lv_sub hl [1, 2, 3, 4, 0] rfl)
                                      · refine lv_aload_n hx hb dX9_differs_284 rfl (lv_at hl 0 rfl) ?_
                                        refine x_geto hx hb hf9 hw (by omega) (by omega) sl_40_34 lk96 dX9_differs_285 ?_
                                        refine lv_iconst (v := jI 5) hx hb dX9_differs_288 rfl ?_
                                        refine lv_iload hx hb dX9_differs_289 (lv_at hl 5 rfl) ?_
                                        refine x_imul hx hb dX9_differs_291 ?_
                                        refine lv_iload hx hb dX9_differs_292 (lv_at hl 7 rfl) ?_
                                        refine x_iadd hx hb dX9_differs_294 ?_
                                        obtain ⟨hv1, hv2, hv3⟩ := (hMIX20.2.2.1 sv r (by omega) (by omega) (by omega) (by omega)).2 k (by omega) (by omega)
                                        refine x_lald hx hb hK.1 hw (by omega) (by omega) ar_75 (len_E ar_75 (by decide)) (by omega) (by omega) (by omega) dX9_differs_295 ?_
                                        have f244 : (-9223372036854775808) ≤ X20 75 0 ((5 * ((30 * sv) + r)) + k) ∧ X20 75 0 ((5 * ((30 * sv) + r)) + k) ≤ 9223372036854775807 := hRX20 75 0 ((5 * ((30 * sv) + r)) + k)
                                        refine lv_lstore (lv' := [(9, .long (jL (X20 75 0 ((5 * ((30 * sv) + r)) + k)))), (0, .ref (ad 40 0)), (1, .int (jI sv)), (2, .int (jI x)), (3, .int (jI nz)), (4, .int (jI r)), (5, .int (jI ((30 * sv) + r))), (6, .int (jI (120 + r))), (8, .int (jI k))]) hx hb dX9_differs_296 hl (by decide) rfl (fun ls hl => ?_)
                                        refine lv_lload hx hb dX9_differs_298 (lv_at hl 0 rfl) ?_
                                        refine lv_aload_n hx hb dX9_differs_300 rfl (lv_at hl 1 rfl) ?_
                                        refine x_geto hx hb hf9 hw (by omega) (by omega) sl_40_34 lk96 dX9_differs_301 ?_
                                        refine lv_iconst (v := jI 5) hx hb dX9_differs_304 rfl ?_
                                        refine lv_iload hx hb dX9_differs_305 (lv_at hl 7 rfl) ?_
                                        refine x_imul hx hb dX9_differs_307 ?_
                                        refine lv_iload hx hb dX9_differs_308 (lv_at hl 8 rfl) ?_
                                        refine x_iadd hx hb dX9_differs_310 ?_
                                        refine x_lald hx hb hK.1 hw (by omega) (by omega) ar_75 (len_E ar_75 (by decide)) (by omega) (by omega) (by omega) dX9_differs_311 ?_
                                        have f245 : (-9223372036854775808) ≤ X20 75 0 ((5 * (120 + r)) + k) ∧ X20 75 0 ((5 * (120 + r)) + k) ≤ 9223372036854775807 := hRX20 75 0 ((5 * (120 + r)) + k)
                                        refine x_lcmp hx hb (by omega) (by omega) dX9_differs_312 ?_
                                        obtain ⟨z246, ez246⟩ : ∃ y : Int, y = cmpZ (X20 75 0 ((5 * ((30 * sv) + r)) + k)) (X20 75 0 ((5 * (120 + r)) + k)) := ⟨_, rfl⟩
                                        rw [← ez246]
                                        have gz246 : (z246 < 0 ↔ ((X20 75 0 ((5 * ((30 * sv) + r)) + k)) : Int) < (X20 75 0 ((5 * (120 + r)) + k))) ∧ (z246 = 0 ↔ ((X20 75 0 ((5 * ((30 * sv) + r)) + k)) : Int) = (X20 75 0 ((5 * (120 + r)) + k))) ∧ -1 ≤ z246 ∧ z246 ≤ 1 := by rw [ez246]; exact ⟨cmpZ_lt, cmpZ_eq, (cmpZ_r _ _).1, (cmpZ_r _ _).2⟩
                                        clear ez246
                                        refine x_if_eq (tgt := 320) hx hb (by omega) dX9_differs_313 (by decide) (fun c247 => ?_) (fun c247 => ?_)
                                        · refine lv_iconst (v := jI 0) hx hb dX9_differs_320 rfl ?_
                                          refine lv_istore (lv' := [(11, .int (jI 0)), (9, .long (jL (X20 75 0 ((5 * ((30 * sv) + r)) + k)))), (0, .ref (ad 40 0)), (1, .int (jI sv)), (2, .int (jI x)), (3, .int (jI nz)), (4, .int (jI r)), (5, .int (jI ((30 * sv) + r))), (6, .int (jI (120 + r))), (8, .int (jI k))]) hx hb dX9_differs_321 hl (by decide) rfl (fun ls hl => ?_)
                                          refine lv_iload hx hb dX9_differs_323 (lv_at hl 0 rfl) ?_
                                          refine x_if_neF (tgt := 374) hx hb (by omega) (by decide) dX9_differs_325 (by decide) ?_
                                          refine lv_aload_n hx hb dX9_differs_328 rfl (lv_at hl 2 rfl) ?_
                                          refine x_geto hx hb hf9 hw (by omega) (by omega) sl_40_33 lk93 dX9_differs_329 ?_
                                          refine lv_iconst (v := jI 5) hx hb dX9_differs_332 rfl ?_
                                          refine lv_iload hx hb dX9_differs_333 (lv_at hl 7 rfl) ?_
                                          refine x_imul hx hb dX9_differs_335 ?_
                                          refine lv_iload hx hb dX9_differs_336 (lv_at hl 9 rfl) ?_
                                          refine x_iadd hx hb dX9_differs_338 ?_
                                          refine x_iald hx hb hK.1 hw (by omega) (by omega) ar_74 (len_E ar_74 (by decide)) (by omega) (by omega) (by omega) dX9_differs_339 ?_
                                          have f248 : 0 ≤ X20 74 0 ((5 * ((30 * sv) + r)) + k) ∧ X20 74 0 ((5 * ((30 * sv) + r)) + k) ≤ 5 := hRX20 74 0 ((5 * ((30 * sv) + r)) + k)
                                          refine lv_iconst (v := jI 2) hx hb dX9_differs_340 rfl ?_
                                          refine x_icmp_le (tgt := 378) hx hb (by omega) (by omega) dX9_differs_341 (by decide) (fun c249 => ?_) (fun c249 => ?_)
                                          · refine lv_iconst (v := jI 0) hx hb dX9_differs_378 rfl ?_
                                            refine lv_istore (lv' := [(11, .int (jI 0)), (9, .long (jL (X20 75 0 ((5 * ((30 * sv) + r)) + k)))), (0, .ref (ad 40 0)), (1, .int (jI sv)), (2, .int (jI x)), (3, .int (jI nz)), (4, .int (jI r)), (5, .int (jI ((30 * sv) + r))), (6, .int (jI (120 + r))), (8, .int (jI k))]) hx hb dX9_differs_379 hl (by decide) rfl (fun ls hl => ?_)
                                            refine lv_iload hx hb dX9_differs_381 (lv_at hl 0 rfl) ?_
                                            refine x_if_eqT (tgt := 405) hx hb (by omega) (by decide) dX9_differs_383 (by decide) ?_
                                            refine lv_iinc (v := jI (k + 1)) (lv' := [(8, .int (jI (k + 1))), (11, .int (jI 0)), (9, .long (jL (X20 75 0 ((5 * ((30 * sv) + r)) + k)))), (0, .ref (ad 40 0)), (1, .int (jI sv)), (2, .int (jI x)), (3, .int (jI nz)), (4, .int (jI r)), (5, .int (jI ((30 * sv) + r))), (6, .int (jI (120 + r)))]) hx hb dX9_differs_405 hl (k := 9) rfl (jI_add _ _) (by decide) rfl (fun ls hl => ?_)
                                            refine lv_goto (tgt := 272) hx hb dX9_differs_408 (by decide) ?_
                                            exact ih272 (k + 1) _ _ _ (by omega) (by omega) hw hS (lv_sub hl [3, 4, 5, 6, 7, 8, 9, 0] rfl)
                                          · refine lv_lload hx hb dX9_differs_344 (lv_at hl 1 rfl) ?_
                                            refine lv_lconst (v := jL 0) hx hb dX9_differs_346 (by decide) ?_
                                            refine x_lcmp hx hb (by omega) (by omega) dX9_differs_347 ?_
                                            obtain ⟨z250, ez250⟩ : ∃ y : Int, y = cmpZ (X20 75 0 ((5 * ((30 * sv) + r)) + k)) 0 := ⟨_, rfl⟩
                                            rw [← ez250]
                                            have gz250 : (z250 < 0 ↔ ((X20 75 0 ((5 * ((30 * sv) + r)) + k)) : Int) < 0) ∧ (z250 = 0 ↔ ((X20 75 0 ((5 * ((30 * sv) + r)) + k)) : Int) = 0) ∧ -1 ≤ z250 ∧ z250 ≤ 1 := by rw [ez250]; exact ⟨cmpZ_lt, cmpZ_eq, (cmpZ_r _ _).1, (cmpZ_r _ _).2⟩
                                            clear ez250
                                            refine x_if_lt (tgt := 378) hx hb (by omega) dX9_differs_348 (by decide) (fun c251 => ?_) (fun c251 => ?_)
                                            · refine lv_iconst (v := jI 0) hx hb dX9_differs_378 rfl ?_
                                              refine lv_istore (lv' := [(11, .int (jI 0)), (9, .long (jL (X20 75 0 ((5 * ((30 * sv) + r)) + k)))), (0, .ref (ad 40 0)), (1, .int (jI sv)), (2, .int (jI x)), (3, .int (jI nz)), (4, .int (jI r)), (5, .int (jI ((30 * sv) + r))), (6, .int (jI (120 + r))), (8, .int (jI k))]) hx hb dX9_differs_379 hl (by decide) rfl (fun ls hl => ?_)
                                              refine lv_iload hx hb dX9_differs_381 (lv_at hl 0 rfl) ?_
                                              refine x_if_eqT (tgt := 405) hx hb (by omega) (by decide) dX9_differs_383 (by decide) ?_
                                              refine lv_iinc (v := jI (k + 1)) (lv' := [(8, .int (jI (k + 1))), (11, .int (jI 0)), (9, .long (jL (X20 75 0 ((5 * ((30 * sv) + r)) + k)))), (0, .ref (ad 40 0)), (1, .int (jI sv)), (2, .int (jI x)), (3, .int (jI nz)), (4, .int (jI r)), (5, .int (jI ((30 * sv) + r))), (6, .int (jI (120 + r)))]) hx hb dX9_differs_405 hl (k := 9) rfl (jI_add _ _) (by decide) rfl (fun ls hl => ?_)
                                              refine lv_goto (tgt := 272) hx hb dX9_differs_408 (by decide) ?_
                                              exact ih272 (k + 1) _ _ _ (by omega) (by omega) hw hS (lv_sub hl [3, 4, 5, 6, 7, 8, 9, 0] rfl)
                                            · refine lv_aload_n hx hb dX9_differs_351 rfl (lv_at hl 2 rfl) ?_
                                              refine lv_sipush (v := jI 150) hx hb dX9_differs_352 (by decide) ?_
                                              refine lv_iload_n hx hb dX9_differs_355 rfl (lv_at hl 3 rfl) ?_
                                              refine x_imul hx hb dX9_differs_356 ?_
                                              refine lv_lload hx hb dX9_differs_357 (lv_at hl 1 rfl) ?_
                                              refine x_l2i hx hb dX9_differs_359 ?_
                                              refine x_iadd hx hb dX9_differs_360 ?_
                                              refine lv_sipush (v := jI 600) hx hb dX9_differs_361 (by decide) ?_
                                              refine lv_lload hx hb dX9_differs_364 (lv_at hl 1 rfl) ?_
                                              refine x_l2i hx hb dX9_differs_366 ?_
                                              refine x_iadd hx hb dX9_differs_367 ?_
                                              refine gos_i (run_V (As := [.int (jI ((150 * sv) + (X20 75 0 ((5 * ((30 * sv) + r)) + k)))), .int (jI (600 + (X20 75 0 ((5 * ((30 * sv) + r)) + k))))]) (rest := []) hx hb hml hown hts (c_X9_rowsDiffer l D tc base ad cnt X20 Y ln hRX20 hFx hMIX20 ((150 * sv) + (X20 75 0 ((5 * ((30 * sv) + r)) + k))) (600 + (X20 75 0 ((5 * ((30 * sv) + r)) + k))) (by omega) (by omega)) (cwV 2 hts gX9_differs_X9_rowsDiffer rfl rfl rfl (by decide +kernel) ⟨Nat.le_of_ble_eq_true rfl, Nat.le_of_ble_eq_true rfl⟩) hK hw (by omega) (by omega) sl_40_0 rfl rfl hl.1 rfl (Nat.le_of_ble_eq_true rfl) dX9_differs_368 ⟨Nat.le_of_ble_eq_true rfl, Nat.le_of_ble_eq_true rfl⟩) hS (fun z252 u253 H locs p254 hw hS => ?_)
                                              obtain ⟨eu253, p254⟩ := p254
                                              subst eu253
                                              refine x_if_eq (tgt := 378) hx hb (by omega) dX9_differs_371 (by decide) (fun c255 => ?_) (fun c255 => ?_)
                                              · refine lv_iconst (v := jI 0) hx hb dX9_differs_378 rfl ?_
                                                refine lv_istore (lv' := [(11, .int (jI 0)), (9, .long (jL (X20 75 0 ((5 * ((30 * sv) + r)) + k)))), (0, .ref (ad 40 0)), (1, .int (jI sv)), (2, .int (jI x)), (3, .int (jI nz)), (4, .int (jI r)), (5, .int (jI ((30 * sv) + r))), (6, .int (jI (120 + r))), (8, .int (jI k))]) hx hb dX9_differs_379 hl (by decide) rfl (fun ls hl => ?_)
                                                refine lv_iload hx hb dX9_differs_381 (lv_at hl 0 rfl) ?_
                                                refine x_if_eqT (tgt := 405) hx hb (by omega) (by decide) dX9_differs_383 (by decide) ?_
                                                refine lv_iinc (v := jI (k + 1)) (lv' := [(8, .int (jI (k + 1))), (11, .int (jI 0)), (9, .long (jL (X20 75 0 ((5 * ((30 * sv) + r)) + k)))), (0, .ref (ad 40 0)), (1, .int (jI sv)), (2, .int (jI x)), (3, .int (jI nz)), (4, .int (jI r)), (5, .int (jI ((30 * sv) + r))), (6, .int (jI (120 + r)))]) hx hb dX9_differs_405 hl (k := 9) rfl (jI_add _ _) (by decide) rfl (fun ls hl => ?_)
                                                refine lv_goto (tgt := 272) hx hb dX9_differs_408 (by decide) ?_
                                                exact ih272 (k + 1) _ _ _ (by omega) (by omega) hw hS (lv_sub hl [3, 4, 5, 6, 7, 8, 9, 0] rfl)
                                              · refine lv_iconst (v := jI 1) hx hb dX9_differs_374 rfl ?_
                                                refine lv_goto (tgt := 379) hx hb dX9_differs_375 (by decide) ?_
                                                refine lv_istore (lv' := [(11, .int (jI 1)), (9, .long (jL (X20 75 0 ((5 * ((30 * sv) + r)) + k)))), (0, .ref (ad 40 0)), (1, .int (jI sv)), (2, .int (jI x)), (3, .int (jI nz)), (4, .int (jI r)), (5, .int (jI ((30 * sv) + r))), (6, .int (jI (120 + r))), (8, .int (jI k))]) hx hb dX9_differs_379 hl (by decide) rfl (fun ls hl => ?_)
                                                refine lv_iload hx hb dX9_differs_381 (lv_at hl 0 rfl) ?_
                                                refine x_if_eqF (tgt := 405) hx hb (by omega) (by decide) dX9_differs_383 (by decide) ?_
                                                refine lv_bipush (v := jI 100) hx hb dX9_differs_386 (by decide) ?_
                                                refine lv_iload hx hb dX9_differs_388 (lv_at hl 6 rfl) ?_
                                                refine x_imul hx hb dX9_differs_390 ?_
                                                refine lv_aload_n hx hb dX9_differs_391 rfl (lv_at hl 2 rfl) ?_
                                                refine x_geto hx hb hf9 hw (by omega) (by omega) sl_40_32 lk90 dX9_differs_392 ?_
                                                refine lv_iconst (v := jI 5) hx hb dX9_differs_395 rfl ?_
                                                refine lv_iload hx hb dX9_differs_396 (lv_at hl 7 rfl) ?_
                                                refine x_imul hx hb dX9_differs_398 ?_
                                                refine lv_iload hx hb dX9_differs_399 (lv_at hl 9 rfl) ?_
                                                refine x_iadd hx hb dX9_differs_401 ?_
                                                refine x_iald hx hb hK.1 hw (by omega) (by omega) ar_73 (len_E ar_73 (by decide)) (by omega) (by omega) (by omega) dX9_differs_402 ?_
                                                have f256 : 0 ≤ X20 73 0 ((5 * ((30 * sv) + r)) + k) ∧ X20 73 0 ((5 * ((30 * sv) + r)) + k) ≤ 19 := hRX20 73 0 ((5 * ((30 * sv) + r)) + k)
                                                refine x_iadd hx hb dX9_differs_403 ?_
                                                refine ret_i (mc := 0) (ms := 0) hx hb hr hlocks hw hS (by omega) (by omega) dX9_differs_404 ?_
                                                exact ⟨X20, rfl, hRX20, hFX20, hMIX20, by omega⟩
                                        · refine lv_iconst (v := jI 1) hx hb dX9_differs_316 rfl ?_
                                          refine lv_goto (tgt := 321) hx hb dX9_differs_317 (by decide) ?_
                                          refine lv_istore (lv' := [(11, .int (jI 1)), (9, .long (jL (X20 75 0 ((5 * ((30 * sv) + r)) + k)))), (0, .ref (ad 40 0)), (1, .int (jI sv)), (2, .int (jI x)), (3, .int (jI nz)), (4, .int (jI r)), (5, .int (jI ((30 * sv) + r))), (6, .int (jI (120 + r))), (8, .int (jI k))]) hx hb dX9_differs_321 hl (by decide) rfl (fun ls hl => ?_)
                                          refine lv_iload hx hb dX9_differs_323 (lv_at hl 0 rfl) ?_
                                          refine x_if_neT (tgt := 374) hx hb (by omega) (by decide) dX9_differs_325 (by decide) ?_
                                          refine lv_iconst (v := jI 1) hx hb dX9_differs_374 rfl ?_
                                          refine lv_goto (tgt := 379) hx hb dX9_differs_375 (by decide) ?_
                                          refine lv_istore (lv' := [(11, .int (jI 1)), (9, .long (jL (X20 75 0 ((5 * ((30 * sv) + r)) + k)))), (0, .ref (ad 40 0)), (1, .int (jI sv)), (2, .int (jI x)), (3, .int (jI nz)), (4, .int (jI r)), (5, .int (jI ((30 * sv) + r))), (6, .int (jI (120 + r))), (8, .int (jI k))]) hx hb dX9_differs_379 hl (by decide) rfl (fun ls hl => ?_)
                                          refine lv_iload hx hb dX9_differs_381 (lv_at hl 0 rfl) ?_
                                          refine x_if_eqF (tgt := 405) hx hb (by omega) (by decide) dX9_differs_383 (by decide) ?_
                                          refine lv_bipush (v := jI 100) hx hb dX9_differs_386 (by decide) ?_
                                          refine lv_iload hx hb dX9_differs_388 (lv_at hl 6 rfl) ?_
                                          refine x_imul hx hb dX9_differs_390 ?_
                                          refine lv_aload_n hx hb dX9_differs_391 rfl (lv_at hl 2 rfl) ?_
                                          refine x_geto hx hb hf9 hw (by omega) (by omega) sl_40_32 lk90 dX9_differs_392 ?_
                                          refine lv_iconst (v := jI 5) hx hb dX9_differs_395 rfl ?_
                                          refine lv_iload hx hb dX9_differs_396 (lv_at hl 7 rfl) ?_
                                          refine x_imul hx hb dX9_differs_398 ?_
                                          refine lv_iload hx hb dX9_differs_399 (lv_at hl 9 rfl) ?_
                                          refine x_iadd hx hb dX9_differs_401 ?_
                                          refine x_iald hx hb hK.1 hw (by omega) (by omega) ar_73 (len_E ar_73 (by decide)) (by omega) (by omega) (by omega) dX9_differs_402 ?_
                                          have f257 : 0 ≤ X20 73 0 ((5 * ((30 * sv) + r)) + k) ∧ X20 73 0 ((5 * ((30 * sv) + r)) + k) ≤ 19 := hRX20 73 0 ((5 * ((30 * sv) + r)) + k)
                                          refine x_iadd hx hb dX9_differs_403 ?_
                                          refine ret_i (mc := 0) (ms := 0) hx hb hr hlocks hw hS (by omega) (by omega) dX9_differs_404 ?_
                                          exact ⟨X20, rfl, hRX20, hFX20, hMIX20, by omega⟩
                                  exact lp272 (5 - 0 : Int).toNat.succ 0 _ _ _ (by omega) (by omega) hw hS (lv_sub hl [1, 2, 3, 4, 5, 6, 7, 0] rfl)
                                · refine lv_bipush (v := jI 100) hx hb dX9_differs_260 (by decide) ?_
                                  refine lv_iload hx hb dX9_differs_262 (lv_at hl 4 rfl) ?_
                                  refine x_imul hx hb dX9_differs_264 ?_
                                  refine lv_bipush (v := jI 99) hx hb dX9_differs_265 (by decide) ?_
                                  refine x_iadd hx hb dX9_differs_267 ?_
                                  refine ret_i (mc := 0) (ms := 0) hx hb hr hlocks hw hS (by omega) (by omega) dX9_differs_268 ?_
                                  exact ⟨X20, rfl, hRX20, hFX20, hMIX20, by omega⟩
                              · refine lv_aload_n hx hb dX9_differs_188 rfl (lv_at hl 0 rfl) ?_
                                refine x_geto hx hb hf9 hw (by omega) (by omega) sl_40_32 lk90 dX9_differs_189 ?_
                                refine lv_iconst (v := jI 5) hx hb dX9_differs_192 rfl ?_
                                refine lv_iload hx hb dX9_differs_193 (lv_at hl 5 rfl) ?_
                                refine x_imul hx hb dX9_differs_195 ?_
                                refine lv_iload hx hb dX9_differs_196 (lv_at hl 8 rfl) ?_
                                refine x_iadd hx hb dX9_differs_198 ?_
                                refine x_iald hx hb hK.1 hw (by omega) (by omega) ar_73 (len_E ar_73 (by decide)) (by omega) (by omega) (by omega) dX9_differs_199 ?_
                                have f258 : 0 ≤ X20 73 0 ((5 * ((30 * sv) + r)) + k) ∧ X20 73 0 ((5 * ((30 * sv) + r)) + k) ≤ 19 := hRX20 73 0 ((5 * ((30 * sv) + r)) + k)
                                refine lv_aload_n hx hb dX9_differs_200 rfl (lv_at hl 0 rfl) ?_
                                refine x_geto hx hb hf9 hw (by omega) (by omega) sl_40_32 lk90 dX9_differs_201 ?_
                                refine lv_iconst (v := jI 5) hx hb dX9_differs_204 rfl ?_
                                refine lv_iload hx hb dX9_differs_205 (lv_at hl 6 rfl) ?_
                                refine x_imul hx hb dX9_differs_207 ?_
                                refine lv_iload hx hb dX9_differs_208 (lv_at hl 8 rfl) ?_
                                refine x_iadd hx hb dX9_differs_210 ?_
                                refine x_iald hx hb hK.1 hw (by omega) (by omega) ar_73 (len_E ar_73 (by decide)) (by omega) (by omega) (by omega) dX9_differs_211 ?_
                                have f259 : 0 ≤ X20 73 0 ((5 * (120 + r)) + k) ∧ X20 73 0 ((5 * (120 + r)) + k) ≤ 19 := hRX20 73 0 ((5 * (120 + r)) + k)
                                refine x_icmp_ne (tgt := 246) hx hb (by omega) (by omega) dX9_differs_212 (by decide) (fun c260 => ?_) (fun c260 => ?_)
                                · refine lv_iconst (v := jI 0) hx hb dX9_differs_246 rfl ?_
                                  refine lv_istore (lv' := [(7, .int (jI 0)), (0, .ref (ad 40 0)), (1, .int (jI sv)), (2, .int (jI x)), (3, .int (jI nz)), (4, .int (jI r)), (5, .int (jI ((30 * sv) + r))), (6, .int (jI (120 + r))), (8, .int (jI k))]) hx hb dX9_differs_247 hl (by decide) rfl (fun ls hl => ?_)
                                  refine lv_iinc (v := jI (k + 1)) (lv' := [(8, .int (jI (k + 1))), (7, .int (jI 0)), (0, .ref (ad 40 0)), (1, .int (jI sv)), (2, .int (jI x)), (3, .int (jI nz)), (4, .int (jI r)), (5, .int (jI ((30 * sv) + r))), (6, .int (jI (120 + r)))]) hx hb dX9_differs_249 hl (k := 8) rfl (jI_add _ _) (by decide) rfl (fun ls hl => ?_)
                                  refine lv_goto (tgt := 171) hx hb dX9_differs_252 (by decide) ?_
                                  exact ih171 0 (k + 1) _ _ _ (by omega) (by omega) (by omega) hw hS (lv_sub hl [2, 3, 4, 5, 6, 7, 8, 1, 0] rfl)
                                · refine lv_aload_n hx hb dX9_differs_215 rfl (lv_at hl 0 rfl) ?_
                                  refine x_geto hx hb hf9 hw (by omega) (by omega) sl_40_33 lk93 dX9_differs_216 ?_
                                  refine lv_iconst (v := jI 5) hx hb dX9_differs_219 rfl ?_
                                  refine lv_iload hx hb dX9_differs_220 (lv_at hl 5 rfl) ?_
                                  refine x_imul hx hb dX9_differs_222 ?_
                                  refine lv_iload hx hb dX9_differs_223 (lv_at hl 8 rfl) ?_
                                  refine x_iadd hx hb dX9_differs_225 ?_
                                  refine x_iald hx hb hK.1 hw (by omega) (by omega) ar_74 (len_E ar_74 (by decide)) (by omega) (by omega) (by omega) dX9_differs_226 ?_
                                  have f261 : 0 ≤ X20 74 0 ((5 * ((30 * sv) + r)) + k) ∧ X20 74 0 ((5 * ((30 * sv) + r)) + k) ≤ 5 := hRX20 74 0 ((5 * ((30 * sv) + r)) + k)
                                  refine lv_aload_n hx hb dX9_differs_227 rfl (lv_at hl 0 rfl) ?_
                                  refine x_geto hx hb hf9 hw (by omega) (by omega) sl_40_33 lk93 dX9_differs_228 ?_
                                  refine lv_iconst (v := jI 5) hx hb dX9_differs_231 rfl ?_
                                  refine lv_iload hx hb dX9_differs_232 (lv_at hl 6 rfl) ?_
                                  refine x_imul hx hb dX9_differs_234 ?_
                                  refine lv_iload hx hb dX9_differs_235 (lv_at hl 8 rfl) ?_
                                  refine x_iadd hx hb dX9_differs_237 ?_
                                  refine x_iald hx hb hK.1 hw (by omega) (by omega) ar_74 (len_E ar_74 (by decide)) (by omega) (by omega) (by omega) dX9_differs_238 ?_
                                  have f262 : 0 ≤ X20 74 0 ((5 * (120 + r)) + k) ∧ X20 74 0 ((5 * (120 + r)) + k) ≤ 5 := hRX20 74 0 ((5 * (120 + r)) + k)
                                  refine x_icmp_ne (tgt := 246) hx hb (by omega) (by omega) dX9_differs_239 (by decide) (fun c263 => ?_) (fun c263 => ?_)
                                  · refine lv_iconst (v := jI 0) hx hb dX9_differs_246 rfl ?_
                                    refine lv_istore (lv' := [(7, .int (jI 0)), (0, .ref (ad 40 0)), (1, .int (jI sv)), (2, .int (jI x)), (3, .int (jI nz)), (4, .int (jI r)), (5, .int (jI ((30 * sv) + r))), (6, .int (jI (120 + r))), (8, .int (jI k))]) hx hb dX9_differs_247 hl (by decide) rfl (fun ls hl => ?_)
                                    refine lv_iinc (v := jI (k + 1)) (lv' := [(8, .int (jI (k + 1))), (7, .int (jI 0)), (0, .ref (ad 40 0)), (1, .int (jI sv)), (2, .int (jI x)), (3, .int (jI nz)), (4, .int (jI r)), (5, .int (jI ((30 * sv) + r))), (6, .int (jI (120 + r)))]) hx hb dX9_differs_249 hl (k := 8) rfl (jI_add _ _) (by decide) rfl (fun ls hl => ?_)
                                    refine lv_goto (tgt := 171) hx hb dX9_differs_252 (by decide) ?_
                                    exact ih171 0 (k + 1) _ _ _ (by omega) (by omega) (by omega) hw hS (lv_sub hl [2, 3, 4, 5, 6, 7, 8, 1, 0] rfl)
                                  · refine lv_iconst (v := jI 1) hx hb dX9_differs_242 rfl ?_
                                    refine lv_goto (tgt := 247) hx hb dX9_differs_243 (by decide) ?_
                                    refine lv_istore (lv' := [(7, .int (jI 1)), (0, .ref (ad 40 0)), (1, .int (jI sv)), (2, .int (jI x)), (3, .int (jI nz)), (4, .int (jI r)), (5, .int (jI ((30 * sv) + r))), (6, .int (jI (120 + r))), (8, .int (jI k))]) hx hb dX9_differs_247 hl (by decide) rfl (fun ls hl => ?_)
                                    refine lv_iinc (v := jI (k + 1)) (lv' := [(8, .int (jI (k + 1))), (7, .int (jI 1)), (0, .ref (ad 40 0)), (1, .int (jI sv)), (2, .int (jI x)), (3, .int (jI nz)), (4, .int (jI r)), (5, .int (jI ((30 * sv) + r))), (6, .int (jI (120 + r)))]) hx hb dX9_differs_249 hl (k := 8) rfl (jI_add _ _) (by decide) rfl (fun ls hl => ?_)
                                    refine lv_goto (tgt := 171) hx hb dX9_differs_252 (by decide) ?_
                                    exact ih171 1 (k + 1) _ _ _ (by omega) (by omega) (by omega) hw hS (lv_sub hl [2, 3, 4, 5, 6, 7, 8, 1, 0] rfl)
                        exact lp171 (5 - 0 : Int).toNat.succ 0 0 _ _ _ (by omega) (by omega) (by omega) hw hS (lv_sub hl [4, 5, 6, 7, 8, 3, 2, 1, 0] rfl)
                      · refine lv_iconst (v := jI 1) hx hb dX9_differs_161 rfl ?_
                        refine lv_goto (tgt := 166) hx hb dX9_differs_162 (by decide) ?_
                        refine lv_istore (lv' := [(7, .int (jI 1)), (6, .int (jI (120 + r))), (5, .int (jI ((30 * sv) + r))), (0, .ref (ad 40 0)), (1, .int (jI sv)), (2, .int (jI x)), (3, .int (jI nz)), (4, .int (jI r))]) hx hb dX9_differs_166 hl (by decide) rfl (fun ls hl => ?_)
                        refine lv_iconst (v := jI 0) hx hb dX9_differs_168 rfl ?_
                        refine lv_istore (lv' := [(8, .int (jI 0)), (7, .int (jI 1)), (6, .int (jI (120 + r))), (5, .int (jI ((30 * sv) + r))), (0, .ref (ad 40 0)), (1, .int (jI sv)), (2, .int (jI x)), (3, .int (jI nz)), (4, .int (jI r))]) hx hb dX9_differs_169 hl (by decide) rfl (fun ls hl => ?_)
                        have lp171 : ∀ (nn : Nat) (sm : Int) (k : Int) (H : Heap) (locs : List Loc) (ls : Array Slot), (5 - k) < (nn : Int) → (0 ≤ sm ∧ sm ≤ 1) → (0 ≤ k ∧ k ≤ 5) → wd D tc base (ad, cnt, X20, Y, ln) H → va_S (frA base) s.heap H locs → lv_has ls 12 [(0, .ref (ad 40 0)), (1, .int (jI sv)), (2, .int (jI x)), (3, .int (jI nz)), (4, .int (jI r)), (5, .int (jI ((30 * sv) + r))), (6, .int (jI (120 + r))), (7, .int (jI sm)), (8, .int (jI k))] → W p l e ({ frames := 2, cells := 0, slots := 0, locals := 53 } : Room) s m ([.ref (ad 40 0), .int (jI sv), .int (jI x)] : List Value).toArray below meth c H locs 0 0 (MQ below (QI D tc base (fun z u => ∃ X1 : Nat → Int → Int → Int, u = (ad, cnt, X1, Y, ln) ∧ Rng X1 ∧ Frm [4001, 7100, 7200, 7300, 7400, 7500, 8000, 7000, 8100, 7700, 7800, 7900, 7600, 4042, 4043, 4044] X X1 ∧ MInv X1 ∧ (-2147483648 ≤ z ∧ z ≤ 2147483647))) ([.ref (ad 40 0), .int (jI sv), .int (jI x)] : List Value).toArray s 0 0 (frA base)) (F0 m 171 ls []) := by
                          intro nn
                          induction nn with
                          | zero => intro sm k H locs ls hm hsm hk hw hS hl; exfalso; omega
                          | succ nn ih171 =>
                            intro sm k H locs ls hm hsm hk hw hS hl
                            refine lv_iload hx hb dX9_differs_171 (lv_at hl 7 rfl) ?_
                            refine x_if_eq (tgt := 255) hx hb (by omega) dX9_differs_173 (by decide) (fun c264 => ?_) (fun c264 => ?_)
                            · refine lv_iload hx hb dX9_differs_255 (lv_at hl 7 rfl) ?_
                              refine x_if_ne (tgt := 269) hx hb (by omega) dX9_differs_257 (by decide) (fun c265 => ?_) (fun c265 => ?_)
                              · refine lv_iconst (v := jI 0) hx hb dX9_differs_269 rfl ?_
                                refine lv_istore (lv' := [(8, .int (jI 0)), (0, .ref (ad 40 0)), (1, .int (jI sv)), (2, .int (jI x)), (3, .int (jI nz)), (4, .int (jI r)), (5, .int (jI ((30 * sv) + r))), (6, .int (jI (120 + r))), (7, .int (jI sm))]) hx hb dX9_differs_270 hl (by decide) rfl (fun ls hl => ?_)
                                have lp272 : ∀ (nn : Nat) (k : Int) (H : Heap) (locs : List Loc) (ls : Array Slot), (5 - k) < (nn : Int) → (0 ≤ k ∧ k ≤ 5) → wd D tc base (ad, cnt, X20, Y, ln) H → va_S (frA base) s.heap H locs → lv_has ls 12 [(0, .ref (ad 40 0)), (1, .int (jI sv)), (2, .int (jI x)), (3, .int (jI nz)), (4, .int (jI r)), (5, .int (jI ((30 * sv) + r))), (6, .int (jI (120 + r))), (8, .int (jI k))] → W p l e ({ frames := 2, cells := 0, slots := 0, locals := 53 } : Room) s m ([.ref (ad 40 0), .int (jI sv), .int (jI x)] : List Value).toArray below meth c H locs 0 0 (MQ below (QI D tc base (fun z u => ∃ X1 : Nat → Int → Int → Int, u = (ad, cnt, X1, Y, ln) ∧ Rng X1 ∧ Frm [4001, 7100, 7200, 7300, 7400, 7500, 8000, 7000, 8100, 7700, 7800, 7900, 7600, 4042, 4043, 4044] X X1 ∧ MInv X1 ∧ (-2147483648 ≤ z ∧ z ≤ 2147483647))) ([.ref (ad 40 0), .int (jI sv), .int (jI x)] : List Value).toArray s 0 0 (frA base)) (F0 m 272 ls []) := by
                                  intro nn
                                  induction nn with
                                  | zero => intro k H locs ls hm hk hw hS hl; exfalso; omega
                                  | succ nn ih272 =>
                                    intro k H locs ls hm hk hw hS hl
                                    refine lv_iload hx hb dX9_differs_272 (lv_at hl 7 rfl) ?_
                                    refine lv_aload_n hx hb dX9_differs_274 rfl (lv_at hl 0 rfl) ?_
                                    refine x_geto hx hb hf9 hw (by omega) (by omega) sl_40_31 lk87 dX9_differs_275 ?_
                                    refine lv_iload hx hb dX9_differs_278 (lv_at hl 5 rfl) ?_
                                    refine x_iald hx hb hK.1 hw (by omega) (by omega) ar_72 (len_E ar_72 (by decide)) (by omega) (by omega) (by omega) dX9_differs_280 ?_
                                    have f266 : 0 ≤ X20 72 0 ((30 * sv) + r) ∧ X20 72 0 ((30 * sv) + r) ≤ 5 := hRX20 72 0 ((30 * sv) + r)
                                    refine x_icmp_ge (tgt := 411) hx hb (by omega) (by omega) dX9_differs_281 (by decide) (fun c267 => ?_) (fun c267 => ?_)
                                    · refine lv_iinc (v := jI (r + 1)) (lv' := [(4, .int (jI (r + 1))), (0, .ref (ad 40 0)), (1, .int (jI sv)), (2, .int (jI x)), (3, .int (jI nz)), (5, .int (jI ((30 * sv) + r))), (6, .int (jI (120 + r))), (8, .int (jI k))]) hx hb dX9_differs_411 hl (k := 4) rfl (jI_add _ _) (by decide) rfl (fun ls hl => ?_)
                                      refine lv_goto (tgt := 74) hx hb dX9_differs_414 (by decide) ?_
                                      exact ih74 nz (r + 1) _ _ _ (by omega) (by omega) (by omega) hw hS (lv_sub hl [1, 2, 3, 4, 0] rfl)
                                    · refine lv_aload_n hx hb dX9_differs_284 rfl (lv_at hl 0 rfl) ?_
                                      refine x_geto hx hb hf9 hw (by omega) (by omega) sl_40_34 lk96 dX9_differs_285 ?_
                                      refine lv_iconst (v := jI 5) hx hb dX9_differs_288 rfl ?_
                                      refine lv_iload hx hb dX9_differs_289 (lv_at hl 5 rfl) ?_
                                      refine x_imul hx hb dX9_differs_291 ?_
                                      refine lv_iload hx hb dX9_differs_292 (lv_at hl 7 rfl) ?_
                                      refine x_iadd hx hb dX9_differs_294 ?_
                                      obtain ⟨hv1, hv2, hv3⟩ := (hMIX20.2.2.1 sv r (by omega) (by omega) (by omega) (by omega)).2 k (by omega) (by omega)
                                      refine x_lald hx hb hK.1 hw (by omega) (by omega) ar_75 (len_E ar_75 (by decide)) (by omega) (by omega) (by omega) dX9_differs_295 ?_
                                      have f268 : (-9223372036854775808) ≤ X20 75 0 ((5 * ((30 * sv) + r)) + k) ∧ X20 75 0 ((5 * ((30 * sv) + r)) + k) ≤ 9223372036854775807 := hRX20 75 0 ((5 * ((30 * sv) + r)) + k)
                                      refine lv_lstore (lv' := [(9, .long (jL (X20 75 0 ((5 * ((30 * sv) + r)) + k)))), (0, .ref (ad 40 0)), (1, .int (jI sv)), (2, .int (jI x)), (3, .int (jI nz)), (4, .int (jI r)), (5, .int (jI ((30 * sv) + r))), (6, .int (jI (120 + r))), (8, .int (jI k))]) hx hb dX9_differs_296 hl (by decide) rfl (fun ls hl => ?_)
                                      refine lv_lload hx hb dX9_differs_298 (lv_at hl 0 rfl) ?_
                                      refine lv_aload_n hx hb dX9_differs_300 rfl (lv_at hl 1 rfl) ?_
                                      refine x_geto hx hb hf9 hw (by omega) (by omega) sl_40_34 lk96 dX9_differs_301 ?_
                                      refine lv_iconst (v := jI 5) hx hb dX9_differs_304 rfl ?_
                                      refine lv_iload hx hb dX9_differs_305 (lv_at hl 7 rfl) ?_
                                      refine x_imul hx hb dX9_differs_307 ?_
                                      refine lv_iload hx hb dX9_differs_308 (lv_at hl 8 rfl) ?_
                                      refine x_iadd hx hb dX9_differs_310 ?_
                                      refine x_lald hx hb hK.1 hw (by omega) (by omega) ar_75 (len_E ar_75 (by decide)) (by omega) (by omega) (by omega) dX9_differs_311 ?_
                                      have f269 : (-9223372036854775808) ≤ X20 75 0 ((5 * (120 + r)) + k) ∧ X20 75 0 ((5 * (120 + r)) + k) ≤ 9223372036854775807 := hRX20 75 0 ((5 * (120 + r)) + k)
                                      refine x_lcmp hx hb (by omega) (by omega) dX9_differs_312 ?_
                                      obtain ⟨z270, ez270⟩ : ∃ y : Int, y = cmpZ (X20 75 0 ((5 * ((30 * sv) + r)) + k)) (X20 75 0 ((5 * (120 + r)) + k)) := ⟨_, rfl⟩
                                      rw [← ez270]
                                      have gz270 : (z270 < 0 ↔ ((X20 75 0 ((5 * ((30 * sv) + r)) + k)) : Int) < (X20 75 0 ((5 * (120 + r)) + k))) ∧ (z270 = 0 ↔ ((X20 75 0 ((5 * ((30 * sv) + r)) + k)) : Int) = (X20 75 0 ((5 * (120 + r)) + k))) ∧ -1 ≤ z270 ∧ z270 ≤ 1 := by rw [ez270]; exact ⟨cmpZ_lt, cmpZ_eq, (cmpZ_r _ _).1, (cmpZ_r _ _).2⟩
                                      clear ez270
                                      refine x_if_eq (tgt := 320) hx hb (by omega) dX9_differs_313 (by decide) (fun c271 => ?_) (fun c271 => ?_)
                                      · refine lv_iconst (v := jI 0) hx hb dX9_differs_320 rfl ?_
                                        refine lv_istore (lv' := [(11, .int (jI 0)), (9, .long (jL (X20 75 0 ((5 * ((30 * sv) + r)) + k)))), (0, .ref (ad 40 0)), (1, .int (jI sv)), (2, .int (jI x)), (3, .int (jI nz)), (4, .int (jI r)), (5, .int (jI ((30 * sv) + r))), (6, .int (jI (120 + r))), (8, .int (jI k))]) hx hb dX9_differs_321 hl (by decide) rfl (fun ls hl => ?_)
                                        refine lv_iload hx hb dX9_differs_323 (lv_at hl 0 rfl) ?_
                                        refine x_if_neF (tgt := 374) hx hb (by omega) (by decide) dX9_differs_325 (by decide) ?_
                                        refine lv_aload_n hx hb dX9_differs_328 rfl (lv_at hl 2 rfl) ?_
                                        refine x_geto hx hb hf9 hw (by omega) (by omega) sl_40_33 lk93 dX9_differs_329 ?_
                                        refine lv_iconst (v := jI 5) hx hb dX9_differs_332 rfl ?_
                                        refine lv_iload hx hb dX9_differs_333 (lv_at hl 7 rfl) ?_
                                        refine x_imul hx hb dX9_differs_335 ?_
                                        refine lv_iload hx hb dX9_differs_336 (lv_at hl 9 rfl) ?_
                                        refine x_iadd hx hb dX9_differs_338 ?_
                                        refine x_iald hx hb hK.1 hw (by omega) (by omega) ar_74 (len_E ar_74 (by decide)) (by omega) (by omega) (by omega) dX9_differs_339 ?_
                                        have f272 : 0 ≤ X20 74 0 ((5 * ((30 * sv) + r)) + k) ∧ X20 74 0 ((5 * ((30 * sv) + r)) + k) ≤ 5 := hRX20 74 0 ((5 * ((30 * sv) + r)) + k)
                                        refine lv_iconst (v := jI 2) hx hb dX9_differs_340 rfl ?_
                                        refine x_icmp_le (tgt := 378) hx hb (by omega) (by omega) dX9_differs_341 (by decide) (fun c273 => ?_) (fun c273 => ?_)
                                        · refine lv_iconst (v := jI 0) hx hb dX9_differs_378 rfl ?_
                                          refine lv_istore (lv' := [(11, .int (jI 0)), (9, .long (jL (X20 75 0 ((5 * ((30 * sv) + r)) + k)))), (0, .ref (ad 40 0)), (1, .int (jI sv)), (2, .int (jI x)), (3, .int (jI nz)), (4, .int (jI r)), (5, .int (jI ((30 * sv) + r))), (6, .int (jI (120 + r))), (8, .int (jI k))]) hx hb dX9_differs_379 hl (by decide) rfl (fun ls hl => ?_)
                                          refine lv_iload hx hb dX9_differs_381 (lv_at hl 0 rfl) ?_
                                          refine x_if_eqT (tgt := 405) hx hb (by omega) (by decide) dX9_differs_383 (by decide) ?_
                                          refine lv_iinc (v := jI (k + 1)) (lv' := [(8, .int (jI (k + 1))), (11, .int (jI 0)), (9, .long (jL (X20 75 0 ((5 * ((30 * sv) + r)) + k)))), (0, .ref (ad 40 0)), (1, .int (jI sv)), (2, .int (jI x)), (3, .int (jI nz)), (4, .int (jI r)), (5, .int (jI ((30 * sv) + r))), (6, .int (jI (120 + r)))]) hx hb dX9_differs_405 hl (k := 9) rfl (jI_add _ _) (by decide) rfl (fun ls hl => ?_)
                                          refine lv_goto (tgt := 272) hx hb dX9_differs_408 (by decide) ?_
                                          exact ih272 (k + 1) _ _ _ (by omega) (by omega) hw hS (lv_sub hl [3, 4, 5, 6, 7, 8, 9, 0] rfl)
                                        · refine lv_lload hx hb dX9_differs_344 (lv_at hl 1 rfl) ?_
                                          refine lv_lconst (v := jL 0) hx hb dX9_differs_346 (by decide) ?_
                                          refine x_lcmp hx hb (by omega) (by omega) dX9_differs_347 ?_
                                          obtain ⟨z274, ez274⟩ : ∃ y : Int, y = cmpZ (X20 75 0 ((5 * ((30 * sv) + r)) + k)) 0 := ⟨_, rfl⟩
                                          rw [← ez274]
                                          have gz274 : (z274 < 0 ↔ ((X20 75 0 ((5 * ((30 * sv) + r)) + k)) : Int) < 0) ∧ (z274 = 0 ↔ ((X20 75 0 ((5 * ((30 * sv) + r)) + k)) : Int) = 0) ∧ -1 ≤ z274 ∧ z274 ≤ 1 := by rw [ez274]; exact ⟨cmpZ_lt, cmpZ_eq, (cmpZ_r _ _).1, (cmpZ_r _ _).2⟩
                                          clear ez274
                                          refine x_if_lt (tgt := 378) hx hb (by omega) dX9_differs_348 (by decide) (fun c275 => ?_) (fun c275 => ?_)
                                          · refine lv_iconst (v := jI 0) hx hb dX9_differs_378 rfl ?_
                                            refine lv_istore (lv' := [(11, .int (jI 0)), (9, .long (jL (X20 75 0 ((5 * ((30 * sv) + r)) + k)))), (0, .ref (ad 40 0)), (1, .int (jI sv)), (2, .int (jI x)), (3, .int (jI nz)), (4, .int (jI r)), (5, .int (jI ((30 * sv) + r))), (6, .int (jI (120 + r))), (8, .int (jI k))]) hx hb dX9_differs_379 hl (by decide) rfl (fun ls hl => ?_)
                                            refine lv_iload hx hb dX9_differs_381 (lv_at hl 0 rfl) ?_
                                            refine x_if_eqT (tgt := 405) hx hb (by omega) (by decide) dX9_differs_383 (by decide) ?_
                                            refine lv_iinc (v := jI (k + 1)) (lv' := [(8, .int (jI (k + 1))), (11, .int (jI 0)), (9, .long (jL (X20 75 0 ((5 * ((30 * sv) + r)) + k)))), (0, .ref (ad 40 0)), (1, .int (jI sv)), (2, .int (jI x)), (3, .int (jI nz)), (4, .int (jI r)), (5, .int (jI ((30 * sv) + r))), (6, .int (jI (120 + r)))]) hx hb dX9_differs_405 hl (k := 9) rfl (jI_add _ _) (by decide) rfl (fun ls hl => ?_)
                                            refine lv_goto (tgt := 272) hx hb dX9_differs_408 (by decide) ?_
                                            exact ih272 (k + 1) _ _ _ (by omega) (by omega) hw hS (lv_sub hl [3, 4, 5, 6, 7, 8, 9, 0] rfl)
                                          · refine lv_aload_n hx hb dX9_differs_351 rfl (lv_at hl 2 rfl) ?_
                                            refine lv_sipush (v := jI 150) hx hb dX9_differs_352 (by decide) ?_
                                            refine lv_iload_n hx hb dX9_differs_355 rfl (lv_at hl 3 rfl) ?_
                                            refine x_imul hx hb dX9_differs_356 ?_
                                            refine lv_lload hx hb dX9_differs_357 (lv_at hl 1 rfl) ?_
                                            refine x_l2i hx hb dX9_differs_359 ?_
                                            refine x_iadd hx hb dX9_differs_360 ?_
                                            refine lv_sipush (v := jI 600) hx hb dX9_differs_361 (by decide) ?_
                                            refine lv_lload hx hb dX9_differs_364 (lv_at hl 1 rfl) ?_
                                            refine x_l2i hx hb dX9_differs_366 ?_
                                            refine x_iadd hx hb dX9_differs_367 ?_
                                            refine gos_i (run_V (As := [.int (jI ((150 * sv) + (X20 75 0 ((5 * ((30 * sv) + r)) + k)))), .int (jI (600 + (X20 75 0 ((5 * ((30 * sv) + r)) + k))))]) (rest := []) hx hb hml hown hts (c_X9_rowsDiffer l D tc base ad cnt X20 Y ln hRX20 hFx hMIX20 ((150 * sv) + (X20 75 0 ((5 * ((30 * sv) + r)) + k))) (600 + (X20 75 0 ((5 * ((30 * sv) + r)) + k))) (by omega) (by omega)) (cwV 2 hts gX9_differs_X9_rowsDiffer rfl rfl rfl (by decide +kernel) ⟨Nat.le_of_ble_eq_true rfl, Nat.le_of_ble_eq_true rfl⟩) hK hw (by omega) (by omega) sl_40_0 rfl rfl hl.1 rfl (Nat.le_of_ble_eq_true rfl) dX9_differs_368 ⟨Nat.le_of_ble_eq_true rfl, Nat.le_of_ble_eq_true rfl⟩) hS (fun z276 u277 H locs p278 hw hS => ?_)
                                            obtain ⟨eu277, p278⟩ := p278
                                            subst eu277
                                            refine x_if_eq (tgt := 378) hx hb (by omega) dX9_differs_371 (by decide) (fun c279 => ?_) (fun c279 => ?_)
                                            · refine lv_iconst (v := jI 0) hx hb dX9_differs_378 rfl ?_
                                              refine lv_istore (lv' := [(11, .int (jI 0)), (9, .long (jL (X20 75 0 ((5 * ((30 * sv) + r)) + k)))), (0, .ref (ad 40 0)), (1, .int (jI sv)), (2, .int (jI x)), (3, .int (jI nz)), (4, .int (jI r)), (5, .int (jI ((30 * sv) + r))), (6, .int (jI (120 + r))), (8, .int (jI k))]) hx hb dX9_differs_379 hl (by decide) rfl (fun ls hl => ?_)
                                              refine lv_iload hx hb dX9_differs_381 (lv_at hl 0 rfl) ?_
                                              refine x_if_eqT (tgt := 405) hx hb (by omega) (by decide) dX9_differs_383 (by decide) ?_
                                              refine lv_iinc (v := jI (k + 1)) (lv' := [(8, .int (jI (k + 1))), (11, .int (jI 0)), (9, .long (jL (X20 75 0 ((5 * ((30 * sv) + r)) + k)))), (0, .ref (ad 40 0)), (1, .int (jI sv)), (2, .int (jI x)), (3, .int (jI nz)), (4, .int (jI r)), (5, .int (jI ((30 * sv) + r))), (6, .int (jI (120 + r)))]) hx hb dX9_differs_405 hl (k := 9) rfl (jI_add _ _) (by decide) rfl (fun ls hl => ?_)
                                              refine lv_goto (tgt := 272) hx hb dX9_differs_408 (by decide) ?_
                                              exact ih272 (k + 1) _ _ _ (by omega) (by omega) hw hS (lv_sub hl [3, 4, 5, 6, 7, 8, 9, 0] rfl)
                                            · refine lv_iconst (v := jI 1) hx hb dX9_differs_374 rfl ?_
                                              refine lv_goto (tgt := 379) hx hb dX9_differs_375 (by decide) ?_
                                              refine lv_istore (lv' := [(11, .int (jI 1)), (9, .long (jL (X20 75 0 ((5 * ((30 * sv) + r)) + k)))), (0, .ref (ad 40 0)), (1, .int (jI sv)), (2, .int (jI x)), (3, .int (jI nz)), (4, .int (jI r)), (5, .int (jI ((30 * sv) + r))), (6, .int (jI (120 + r))), (8, .int (jI k))]) hx hb dX9_differs_379 hl (by decide) rfl (fun ls hl => ?_)
                                              refine lv_iload hx hb dX9_differs_381 (lv_at hl 0 rfl) ?_
                                              refine x_if_eqF (tgt := 405) hx hb (by omega) (by decide) dX9_differs_383 (by decide) ?_
                                              refine lv_bipush (v := jI 100) hx hb dX9_differs_386 (by decide) ?_
                                              refine lv_iload hx hb dX9_differs_388 (lv_at hl 6 rfl) ?_
                                              refine x_imul hx hb dX9_differs_390 ?_
                                              refine lv_aload_n hx hb dX9_differs_391 rfl (lv_at hl 2 rfl) ?_
                                              refine x_geto hx hb hf9 hw (by omega) (by omega) sl_40_32 lk90 dX9_differs_392 ?_
                                              refine lv_iconst (v := jI 5) hx hb dX9_differs_395 rfl ?_
                                              refine lv_iload hx hb dX9_differs_396 (lv_at hl 7 rfl) ?_
                                              refine x_imul hx hb dX9_differs_398 ?_
                                              refine lv_iload hx hb dX9_differs_399 (lv_at hl 9 rfl) ?_
                                              refine x_iadd hx hb dX9_differs_401 ?_
                                              refine x_iald hx hb hK.1 hw (by omega) (by omega) ar_73 (len_E ar_73 (by decide)) (by omega) (by omega) (by omega) dX9_differs_402 ?_
                                              have f280 : 0 ≤ X20 73 0 ((5 * ((30 * sv) + r)) + k) ∧ X20 73 0 ((5 * ((30 * sv) + r)) + k) ≤ 19 := hRX20 73 0 ((5 * ((30 * sv) + r)) + k)
                                              refine x_iadd hx hb dX9_differs_403 ?_
                                              refine ret_i (mc := 0) (ms := 0) hx hb hr hlocks hw hS (by omega) (by omega) dX9_differs_404 ?_
                                              exact ⟨X20, rfl, hRX20, hFX20, hMIX20, by omega⟩
                                      · refine lv_iconst (v := jI 1) hx hb dX9_differs_316 rfl ?_
                                        refine lv_goto (tgt := 321) hx hb dX9_differs_317 (by decide) ?_
                                        refine lv_istore (lv' := [(11, .int (jI 1)), (9, .long (jL (X20 75 0 ((5 * ((30 * sv) + r)) + k)))), (0, .ref (ad 40 0)), (1, .int (jI sv)), (2, .int (jI x)), (3, .int (jI nz)), (4, .int (jI r)), (5, .int (jI ((30 * sv) + r))), (6, .int (jI (120 + r))), (8, .int (jI k))]) hx hb dX9_differs_321 hl (by decide) rfl (fun ls hl => ?_)
                                        refine lv_iload hx hb dX9_differs_323 (lv_at hl 0 rfl) ?_
                                        refine x_if_neT (tgt := 374) hx hb (by omega) (by decide) dX9_differs_325 (by decide) ?_
                                        refine lv_iconst (v := jI 1) hx hb dX9_differs_374 rfl ?_
                                        refine lv_goto (tgt := 379) hx hb dX9_differs_375 (by decide) ?_
                                        refine lv_istore (lv' := [(11, .int (jI 1)), (9, .long (jL (X20 75 0 ((5 * ((30 * sv) + r)) + k)))), (0, .ref (ad 40 0)), (1, .int (jI sv)), (2, .int (jI x)), (3, .int (jI nz)), (4, .int (jI r)), (5, .int (jI ((30 * sv) + r))), (6, .int (jI (120 + r))), (8, .int (jI k))]) hx hb dX9_differs_379 hl (by decide) rfl (fun ls hl => ?_)
                                        refine lv_iload hx hb dX9_differs_381 (lv_at hl 0 rfl) ?_
                                        refine x_if_eqF (tgt := 405) hx hb (by omega) (by decide) dX9_differs_383 (by decide) ?_
                                        refine lv_bipush (v := jI 100) hx hb dX9_differs_386 (by decide) ?_
                                        refine lv_iload hx hb dX9_differs_388 (lv_at hl 6 rfl) ?_
                                        refine x_imul hx hb dX9_differs_390 ?_
                                        refine lv_aload_n hx hb dX9_differs_391 rfl (lv_at hl 2 rfl) ?_
                                        refine x_geto hx hb hf9 hw (by omega) (by omega) sl_40_32 lk90 dX9_differs_392 ?_
                                        refine lv_iconst (v := jI 5) hx hb dX9_differs_395 rfl ?_
                                        refine lv_iload hx hb dX9_differs_396 (lv_at hl 7 rfl) ?_
                                        refine x_imul hx hb dX9_differs_398 ?_
                                        refine lv_iload hx hb dX9_differs_399 (lv_at hl 9 rfl) ?_
                                        refine x_iadd hx hb dX9_differs_401 ?_
                                        refine x_iald hx hb hK.1 hw (by omega) (by omega) ar_73 (len_E ar_73 (by decide)) (by omega) (by omega) (by omega) dX9_differs_402 ?_
                                        have f281 : 0 ≤ X20 73 0 ((5 * ((30 * sv) + r)) + k) ∧ X20 73 0 ((5 * ((30 * sv) + r)) + k) ≤ 19 := hRX20 73 0 ((5 * ((30 * sv) + r)) + k)
                                        refine x_iadd hx hb dX9_differs_403 ?_
                                        refine ret_i (mc := 0) (ms := 0) hx hb hr hlocks hw hS (by omega) (by omega) dX9_differs_404 ?_
                                        exact ⟨X20, rfl, hRX20, hFX20, hMIX20, by omega⟩
                                exact lp272 (5 - 0 : Int).toNat.succ 0 _ _ _ (by omega) (by omega) hw hS (lv_sub hl [1, 2, 3, 4, 5, 6, 7, 0] rfl)
                              · refine lv_bipush (v := jI 100) hx hb dX9_differs_260 (by decide) ?_
                                refine lv_iload hx hb dX9_differs_262 (lv_at hl 4 rfl) ?_
                                refine x_imul hx hb dX9_differs_264 ?_
                                refine lv_bipush (v := jI 99) hx hb dX9_differs_265 (by decide) ?_
                                refine x_iadd hx hb dX9_differs_267 ?_
                                refine ret_i (mc := 0) (ms := 0) hx hb hr hlocks hw hS (by omega) (by omega) dX9_differs_268 ?_
                                exact ⟨X20, rfl, hRX20, hFX20, hMIX20, by omega⟩
                            · refine lv_iload hx hb dX9_differs_176 (lv_at hl 8 rfl) ?_
                              refine lv_aload_n hx hb dX9_differs_178 rfl (lv_at hl 0 rfl) ?_
                              refine x_geto hx hb hf9 hw (by omega) (by omega) sl_40_31 lk87 dX9_differs_179 ?_
                              refine lv_iload hx hb dX9_differs_182 (lv_at hl 5 rfl) ?_
                              refine x_iald hx hb hK.1 hw (by omega) (by omega) ar_72 (len_E ar_72 (by decide)) (by omega) (by omega) (by omega) dX9_differs_184 ?_
                              have f282 : 0 ≤ X20 72 0 ((30 * sv) + r) ∧ X20 72 0 ((30 * sv) + r) ≤ 5 := hRX20 72 0 ((30 * sv) + r)
                              refine x_icmp_ge (tgt := 255) hx hb (by omega) (by omega) dX9_differs_185 (by decide) (fun c283 => ?_) (fun c283 => ?_)
                              · refine lv_iload hx hb dX9_differs_255 (lv_at hl 7 rfl) ?_
                                refine x_if_ne (tgt := 269) hx hb (by omega) dX9_differs_257 (by decide) (fun c284 => ?_) (fun c284 => ?_)
                                · refine lv_iconst (v := jI 0) hx hb dX9_differs_269 rfl ?_
                                  refine lv_istore (lv' := [(8, .int (jI 0)), (0, .ref (ad 40 0)), (1, .int (jI sv)), (2, .int (jI x)), (3, .int (jI nz)), (4, .int (jI r)), (5, .int (jI ((30 * sv) + r))), (6, .int (jI (120 + r))), (7, .int (jI sm))]) hx hb dX9_differs_270 hl (by decide) rfl (fun ls hl => ?_)
                                  have lp272 : ∀ (nn : Nat) (k : Int) (H : Heap) (locs : List Loc) (ls : Array Slot), (5 - k) < (nn : Int) → (0 ≤ k ∧ k ≤ 5) → wd D tc base (ad, cnt, X20, Y, ln) H → va_S (frA base) s.heap H locs → lv_has ls 12 [(0, .ref (ad 40 0)), (1, .int (jI sv)), (2, .int (jI x)), (3, .int (jI nz)), (4, .int (jI r)), (5, .int (jI ((30 * sv) + r))), (6, .int (jI (120 + r))), (8, .int (jI k))] → W p l e ({ frames := 2, cells := 0, slots := 0, locals := 53 } : Room) s m ([.ref (ad 40 0), .int (jI sv), .int (jI x)] : List Value).toArray below meth c H locs 0 0 (MQ below (QI D tc base (fun z u => ∃ X1 : Nat → Int → Int → Int, u = (ad, cnt, X1, Y, ln) ∧ Rng X1 ∧ Frm [4001, 7100, 7200, 7300, 7400, 7500, 8000, 7000, 8100, 7700, 7800, 7900, 7600, 4042, 4043, 4044] X X1 ∧ MInv X1 ∧ (-2147483648 ≤ z ∧ z ≤ 2147483647))) ([.ref (ad 40 0), .int (jI sv), .int (jI x)] : List Value).toArray s 0 0 (frA base)) (F0 m 272 ls []) := by
                                    intro nn
                                    induction nn with
                                    | zero => intro k H locs ls hm hk hw hS hl; exfalso; omega
                                    | succ nn ih272 =>
                                      intro k H locs ls hm hk hw hS hl
                                      refine lv_iload hx hb dX9_differs_272 (lv_at hl 7 rfl) ?_
                                      refine lv_aload_n hx hb dX9_differs_274 rfl (lv_at hl 0 rfl) ?_
                                      refine x_geto hx hb hf9 hw (by omega) (by omega) sl_40_31 lk87 dX9_differs_275 ?_
                                      refine lv_iload hx hb dX9_differs_278 (lv_at hl 5 rfl) ?_
                                      refine x_iald hx hb hK.1 hw (by omega) (by omega) ar_72 (len_E ar_72 (by decide)) (by omega) (by omega) (by omega) dX9_differs_280 ?_
                                      have f285 : 0 ≤ X20 72 0 ((30 * sv) + r) ∧ X20 72 0 ((30 * sv) + r) ≤ 5 := hRX20 72 0 ((30 * sv) + r)
                                      refine x_icmp_ge (tgt := 411) hx hb (by omega) (by omega) dX9_differs_281 (by decide) (fun c286 => ?_) (fun c286 => ?_)
                                      · refine lv_iinc (v := jI (r + 1)) (lv' := [(4, .int (jI (r + 1))), (0, .ref (ad 40 0)), (1, .int (jI sv)), (2, .int (jI x)), (3, .int (jI nz)), (5, .int (jI ((30 * sv) + r))), (6, .int (jI (120 + r))), (8, .int (jI k))]) hx hb dX9_differs_411 hl (k := 4) rfl (jI_add _ _) (by decide) rfl (fun ls hl => ?_)
                                        refine lv_goto (tgt := 74) hx hb dX9_differs_414 (by decide) ?_
                                        exact ih74 nz (r + 1) _ _ _ (by omega) (by omega) (by omega) hw hS (lv_sub hl [1, 2, 3, 4, 0] rfl)
                                      · refine lv_aload_n hx hb dX9_differs_284 rfl (lv_at hl 0 rfl) ?_
                                        refine x_geto hx hb hf9 hw (by omega) (by omega) sl_40_34 lk96 dX9_differs_285 ?_
                                        refine lv_iconst (v := jI 5) hx hb dX9_differs_288 rfl ?_
                                        refine lv_iload hx hb dX9_differs_289 (lv_at hl 5 rfl) ?_
                                        refine x_imul hx hb dX9_differs_291 ?_
                                        refine lv_iload hx hb dX9_differs_292 (lv_at hl 7 rfl) ?_
                                        refine x_iadd hx hb dX9_differs_294 ?_
                                        obtain ⟨hv1, hv2, hv3⟩ := (hMIX20.2.2.1 sv r (by omega) (by omega) (by omega) (by omega)).2 k (by omega) (by omega)
                                        refine x_lald hx hb hK.1 hw (by omega) (by omega) ar_75 (len_E ar_75 (by decide)) (by omega) (by omega) (by omega) dX9_differs_295 ?_
                                        have f287 : (-9223372036854775808) ≤ X20 75 0 ((5 * ((30 * sv) + r)) + k) ∧ X20 75 0 ((5 * ((30 * sv) + r)) + k) ≤ 9223372036854775807 := hRX20 75 0 ((5 * ((30 * sv) + r)) + k)
                                        refine lv_lstore (lv' := [(9, .long (jL (X20 75 0 ((5 * ((30 * sv) + r)) + k)))), (0, .ref (ad 40 0)), (1, .int (jI sv)), (2, .int (jI x)), (3, .int (jI nz)), (4, .int (jI r)), (5, .int (jI ((30 * sv) + r))), (6, .int (jI (120 + r))), (8, .int (jI k))]) hx hb dX9_differs_296 hl (by decide) rfl (fun ls hl => ?_)
                                        refine lv_lload hx hb dX9_differs_298 (lv_at hl 0 rfl) ?_
                                        refine lv_aload_n hx hb dX9_differs_300 rfl (lv_at hl 1 rfl) ?_
                                        refine x_geto hx hb hf9 hw (by omega) (by omega) sl_40_34 lk96 dX9_differs_301 ?_
                                        refine lv_iconst (v := jI 5) hx hb dX9_differs_304 rfl ?_
                                        refine lv_iload hx hb dX9_differs_305 (lv_at hl 7 rfl) ?_
                                        refine x_imul hx hb dX9_differs_307 ?_
                                        refine lv_iload hx hb dX9_differs_308 (lv_at hl 8 rfl) ?_
                                        refine x_iadd hx hb dX9_differs_310 ?_
                                        refine x_lald hx hb hK.1 hw (by omega) (by omega) ar_75 (len_E ar_75 (by decide)) (by omega) (by omega) (by omega) dX9_differs_311 ?_
                                        have f288 : (-9223372036854775808) ≤ X20 75 0 ((5 * (120 + r)) + k) ∧ X20 75 0 ((5 * (120 + r)) + k) ≤ 9223372036854775807 := hRX20 75 0 ((5 * (120 + r)) + k)
                                        refine x_lcmp hx hb (by omega) (by omega) dX9_differs_312 ?_
                                        obtain ⟨z289, ez289⟩ : ∃ y : Int, y = cmpZ (X20 75 0 ((5 * ((30 * sv) + r)) + k)) (X20 75 0 ((5 * (120 + r)) + k)) := ⟨_, rfl⟩
                                        rw [← ez289]
                                        have gz289 : (z289 < 0 ↔ ((X20 75 0 ((5 * ((30 * sv) + r)) + k)) : Int) < (X20 75 0 ((5 * (120 + r)) + k))) ∧ (z289 = 0 ↔ ((X20 75 0 ((5 * ((30 * sv) + r)) + k)) : Int) = (X20 75 0 ((5 * (120 + r)) + k))) ∧ -1 ≤ z289 ∧ z289 ≤ 1 := by rw [ez289]; exact ⟨cmpZ_lt, cmpZ_eq, (cmpZ_r _ _).1, (cmpZ_r _ _).2⟩
                                        clear ez289
                                        refine x_if_eq (tgt := 320) hx hb (by omega) dX9_differs_313 (by decide) (fun c290 => ?_) (fun c290 => ?_)
                                        · refine lv_iconst (v := jI 0) hx hb dX9_differs_320 rfl ?_
                                          refine lv_istore (lv' := [(11, .int (jI 0)), (9, .long (jL (X20 75 0 ((5 * ((30 * sv) + r)) + k)))), (0, .ref (ad 40 0)), (1, .int (jI sv)), (2, .int (jI x)), (3, .int (jI nz)), (4, .int (jI r)), (5, .int (jI ((30 * sv) + r))), (6, .int (jI (120 + r))), (8, .int (jI k))]) hx hb dX9_differs_321 hl (by decide) rfl (fun ls hl => ?_)
                                          refine lv_iload hx hb dX9_differs_323 (lv_at hl 0 rfl) ?_
                                          refine x_if_neF (tgt := 374) hx hb (by omega) (by decide) dX9_differs_325 (by decide) ?_
                                          refine lv_aload_n hx hb dX9_differs_328 rfl (lv_at hl 2 rfl) ?_
                                          refine x_geto hx hb hf9 hw (by omega) (by omega) sl_40_33 lk93 dX9_differs_329 ?_
                                          refine lv_iconst (v := jI 5) hx hb dX9_differs_332 rfl ?_
                                          refine lv_iload hx hb dX9_differs_333 (lv_at hl 7 rfl) ?_
                                          refine x_imul hx hb dX9_differs_335 ?_
                                          refine lv_iload hx hb dX9_differs_336 (lv_at hl 9 rfl) ?_
                                          refine x_iadd hx hb dX9_differs_338 ?_
                                          refine x_iald hx hb hK.1 hw (by omega) (by omega) ar_74 (len_E ar_74 (by decide)) (by omega) (by omega) (by omega) dX9_differs_339 ?_
                                          have f291 : 0 ≤ X20 74 0 ((5 * ((30 * sv) + r)) + k) ∧ X20 74 0 ((5 * ((30 * sv) + r)) + k) ≤ 5 := hRX20 74 0 ((5 * ((30 * sv) + r)) + k)
                                          refine lv_iconst (v := jI 2) hx hb dX9_differs_340 rfl ?_
                                          refine x_icmp_le (tgt := 378) hx hb (by omega) (by omega) dX9_differs_341 (by decide) (fun c292 => ?_) (fun c292 => ?_)
                                          · refine lv_iconst (v := jI 0) hx hb dX9_differs_378 rfl ?_
                                            refine lv_istore (lv' := [(11, .int (jI 0)), (9, .long (jL (X20 75 0 ((5 * ((30 * sv) + r)) + k)))), (0, .ref (ad 40 0)), (1, .int (jI sv)), (2, .int (jI x)), (3, .int (jI nz)), (4, .int (jI r)), (5, .int (jI ((30 * sv) + r))), (6, .int (jI (120 + r))), (8, .int (jI k))]) hx hb dX9_differs_379 hl (by decide) rfl (fun ls hl => ?_)
                                            refine lv_iload hx hb dX9_differs_381 (lv_at hl 0 rfl) ?_
                                            refine x_if_eqT (tgt := 405) hx hb (by omega) (by decide) dX9_differs_383 (by decide) ?_
                                            refine lv_iinc (v := jI (k + 1)) (lv' := [(8, .int (jI (k + 1))), (11, .int (jI 0)), (9, .long (jL (X20 75 0 ((5 * ((30 * sv) + r)) + k)))), (0, .ref (ad 40 0)), (1, .int (jI sv)), (2, .int (jI x)), (3, .int (jI nz)), (4, .int (jI r)), (5, .int (jI ((30 * sv) + r))), (6, .int (jI (120 + r)))]) hx hb dX9_differs_405 hl (k := 9) rfl (jI_add _ _) (by decide) rfl (fun ls hl => ?_)
                                            refine lv_goto (tgt := 272) hx hb dX9_differs_408 (by decide) ?_
                                            exact ih272 (k + 1) _ _ _ (by omega) (by omega) hw hS (lv_sub hl [3, 4, 5, 6, 7, 8, 9, 0] rfl)
                                          · refine lv_lload hx hb dX9_differs_344 (lv_at hl 1 rfl) ?_
                                            refine lv_lconst (v := jL 0) hx hb dX9_differs_346 (by decide) ?_
                                            refine x_lcmp hx hb (by omega) (by omega) dX9_differs_347 ?_
                                            obtain ⟨z293, ez293⟩ : ∃ y : Int, y = cmpZ (X20 75 0 ((5 * ((30 * sv) + r)) + k)) 0 := ⟨_, rfl⟩
                                            rw [← ez293]
                                            have gz293 : (z293 < 0 ↔ ((X20 75 0 ((5 * ((30 * sv) + r)) + k)) : Int) < 0) ∧ (z293 = 0 ↔ ((X20 75 0 ((5 * ((30 * sv) + r)) + k)) : Int) = 0) ∧ -1 ≤ z293 ∧ z293 ≤ 1 := by rw [ez293]; exact ⟨cmpZ_lt, cmpZ_eq, (cmpZ_r _ _).1, (cmpZ_r _ _).2⟩
                                            clear ez293
                                            refine x_if_lt (tgt := 378) hx hb (by omega) dX9_differs_348 (by decide) (fun c294 => ?_) (fun c294 => ?_)
                                            · refine lv_iconst (v := jI 0) hx hb dX9_differs_378 rfl ?_
                                              refine lv_istore (lv' := [(11, .int (jI 0)), (9, .long (jL (X20 75 0 ((5 * ((30 * sv) + r)) + k)))), (0, .ref (ad 40 0)), (1, .int (jI sv)), (2, .int (jI x)), (3, .int (jI nz)), (4, .int (jI r)), (5, .int (jI ((30 * sv) + r))), (6, .int (jI (120 + r))), (8, .int (jI k))]) hx hb dX9_differs_379 hl (by decide) rfl (fun ls hl => ?_)
                                              refine lv_iload hx hb dX9_differs_381 (lv_at hl 0 rfl) ?_
                                              refine x_if_eqT (tgt := 405) hx hb (by omega) (by decide) dX9_differs_383 (by decide) ?_
                                              refine lv_iinc (v := jI (k + 1)) (lv' := [(8, .int (jI (k + 1))), (11, .int (jI 0)), (9, .long (jL (X20 75 0 ((5 * ((30 * sv) + r)) + k)))), (0, .ref (ad 40 0)), (1, .int (jI sv)), (2, .int (jI x)), (3, .int (jI nz)), (4, .int (jI r)), (5, .int (jI ((30 * sv) + r))), (6, .int (jI (120 + r)))]) hx hb dX9_differs_405 hl (k := 9) rfl (jI_add _ _) (by decide) rfl (fun ls hl => ?_)
                                              refine lv_goto (tgt := 272) hx hb dX9_differs_408 (by decide) ?_
                                              exact ih272 (k + 1) _ _ _ (by omega) (by omega) hw hS (lv_sub hl [3, 4, 5, 6, 7, 8, 9, 0] rfl)
                                            · refine lv_aload_n hx hb dX9_differs_351 rfl (lv_at hl 2 rfl) ?_
                                              refine lv_sipush (v := jI 150) hx hb dX9_differs_352 (by decide) ?_
                                              refine lv_iload_n hx hb dX9_differs_355 rfl (lv_at hl 3 rfl) ?_
                                              refine x_imul hx hb dX9_differs_356 ?_
                                              refine lv_lload hx hb dX9_differs_357 (lv_at hl 1 rfl) ?_
                                              refine x_l2i hx hb dX9_differs_359 ?_
                                              refine x_iadd hx hb dX9_differs_360 ?_
                                              refine lv_sipush (v := jI 600) hx hb dX9_differs_361 (by decide) ?_
                                              refine lv_lload hx hb dX9_differs_364 (lv_at hl 1 rfl) ?_
                                              refine x_l2i hx hb dX9_differs_366 ?_
                                              refine x_iadd hx hb dX9_differs_367 ?_
                                              refine gos_i (run_V (As := [.int (jI ((150 * sv) + (X20 75 0 ((5 * ((30 * sv) + r)) + k)))), .int (jI (600 + (X20 75 0 ((5 * ((30 * sv) + r)) + k))))]) (rest := []) hx hb hml hown hts (c_X9_rowsDiffer l D tc base ad cnt X20 Y ln hRX20 hFx hMIX20 ((150 * sv) + (X20 75 0 ((5 * ((30 * sv) + r)) + k))) (600 + (X20 75 0 ((5 * ((30 * sv) + r)) + k))) (by omega) (by omega)) (cwV 2 hts gX9_differs_X9_rowsDiffer rfl rfl rfl (by decide +kernel) ⟨Nat.le_of_ble_eq_true rfl, Nat.le_of_ble_eq_true rfl⟩) hK hw (by omega) (by omega) sl_40_0 rfl rfl hl.1 rfl (Nat.le_of_ble_eq_true rfl) dX9_differs_368 ⟨Nat.le_of_ble_eq_true rfl, Nat.le_of_ble_eq_true rfl⟩) hS (fun z295 u296 H locs p297 hw hS => ?_)
                                              obtain ⟨eu296, p297⟩ := p297
                                              subst eu296
                                              refine x_if_eq (tgt := 378) hx hb (by omega) dX9_differs_371 (by decide) (fun c298 => ?_) (fun c298 => ?_)
                                              · refine lv_iconst (v := jI 0) hx hb dX9_differs_378 rfl ?_
                                                refine lv_istore (lv' := [(11, .int (jI 0)), (9, .long (jL (X20 75 0 ((5 * ((30 * sv) + r)) + k)))), (0, .ref (ad 40 0)), (1, .int (jI sv)), (2, .int (jI x)), (3, .int (jI nz)), (4, .int (jI r)), (5, .int (jI ((30 * sv) + r))), (6, .int (jI (120 + r))), (8, .int (jI k))]) hx hb dX9_differs_379 hl (by decide) rfl (fun ls hl => ?_)
                                                refine lv_iload hx hb dX9_differs_381 (lv_at hl 0 rfl) ?_
                                                refine x_if_eqT (tgt := 405) hx hb (by omega) (by decide) dX9_differs_383 (by decide) ?_
                                                refine lv_iinc (v := jI (k + 1)) (lv' := [(8, .int (jI (k + 1))), (11, .int (jI 0)), (9, .long (jL (X20 75 0 ((5 * ((30 * sv) + r)) + k)))), (0, .ref (ad 40 0)), (1, .int (jI sv)), (2, .int (jI x)), (3, .int (jI nz)), (4, .int (jI r)), (5, .int (jI ((30 * sv) + r))), (6, .int (jI (120 + r)))]) hx hb dX9_differs_405 hl (k := 9) rfl (jI_add _ _) (by decide) rfl (fun ls hl => ?_)
                                                refine lv_goto (tgt := 272) hx hb dX9_differs_408 (by decide) ?_
                                                exact ih272 (k + 1) _ _ _ (by omega) (by omega) hw hS (lv_sub hl [3, 4, 5, 6, 7, 8, 9, 0] rfl)
                                              · refine lv_iconst (v := jI 1) hx hb dX9_differs_374 rfl ?_
                                                refine lv_goto (tgt := 379) hx hb dX9_differs_375 (by decide) ?_
                                                refine lv_istore (lv' := [(11, .int (jI 1)), (9, .long (jL (X20 75 0 ((5 * ((30 * sv) + r)) + k)))), (0, .ref (ad 40 0)), (1, .int (jI sv)), (2, .int (jI x)), (3, .int (jI nz)), (4, .int (jI r)), (5, .int (jI ((30 * sv) + r))), (6, .int (jI (120 + r))), (8, .int (jI k))]) hx hb dX9_differs_379 hl (by decide) rfl (fun ls hl => ?_)
                                                refine lv_iload hx hb dX9_differs_381 (lv_at hl 0 rfl) ?_
                                                refine x_if_eqF (tgt := 405) hx hb (by omega) (by decide) dX9_differs_383 (by decide) ?_
                                                refine lv_bipush (v := jI 100) hx hb dX9_differs_386 (by decide) ?_
                                                refine lv_iload hx hb dX9_differs_388 (lv_at hl 6 rfl) ?_
                                                refine x_imul hx hb dX9_differs_390 ?_
                                                refine lv_aload_n hx hb dX9_differs_391 rfl (lv_at hl 2 rfl) ?_
                                                refine x_geto hx hb hf9 hw (by omega) (by omega) sl_40_32 lk90 dX9_differs_392 ?_
                                                refine lv_iconst (v := jI 5) hx hb dX9_differs_395 rfl ?_
                                                refine lv_iload hx hb dX9_differs_396 (lv_at hl 7 rfl) ?_
                                                refine x_imul hx hb dX9_differs_398 ?_
                                                refine lv_iload hx hb dX9_differs_399 (lv_at hl 9 rfl) ?_
                                                refine x_iadd hx hb dX9_differs_401 ?_
                                                refine x_iald hx hb hK.1 hw (by omega) (by omega) ar_73 (len_E ar_73 (by decide)) (by omega) (by omega) (by omega) dX9_differs_402 ?_
                                                have f299 : 0 ≤ X20 73 0 ((5 * ((30 * sv) + r)) + k) ∧ X20 73 0 ((5 * ((30 * sv) + r)) + k) ≤ 19 := hRX20 73 0 ((5 * ((30 * sv) + r)) + k)
                                                refine x_iadd hx hb dX9_differs_403 ?_
                                                refine ret_i (mc := 0) (ms := 0) hx hb hr hlocks hw hS (by omega) (by omega) dX9_differs_404 ?_
                                                exact ⟨X20, rfl, hRX20, hFX20, hMIX20, by omega⟩
                                        · refine lv_iconst (v := jI 1) hx hb dX9_differs_316 rfl ?_
                                          refine lv_goto (tgt := 321) hx hb dX9_differs_317 (by decide) ?_
                                          refine lv_istore (lv' := [(11, .int (jI 1)), (9, .long (jL (X20 75 0 ((5 * ((30 * sv) + r)) + k)))), (0, .ref (ad 40 0)), (1, .int (jI sv)), (2, .int (jI x)), (3, .int (jI nz)), (4, .int (jI r)), (5, .int (jI ((30 * sv) + r))), (6, .int (jI (120 + r))), (8, .int (jI k))]) hx hb dX9_differs_321 hl (by decide) rfl (fun ls hl => ?_)
                                          refine lv_iload hx hb dX9_differs_323 (lv_at hl 0 rfl) ?_
                                          refine x_if_neT (tgt := 374) hx hb (by omega) (by decide) dX9_differs_325 (by decide) ?_
                                          refine lv_iconst (v := jI 1) hx hb dX9_differs_374 rfl ?_
                                          refine lv_goto (tgt := 379) hx hb dX9_differs_375 (by decide) ?_
                                          refine lv_istore (lv' := [(11, .int (jI 1)), (9, .long (jL (X20 75 0 ((5 * ((30 * sv) + r)) + k)))), (0, .ref (ad 40 0)), (1, .int (jI sv)), (2, .int (jI x)), (3, .int (jI nz)), (4, .int (jI r)), (5, .int (jI ((30 * sv) + r))), (6, .int (jI (120 + r))), (8, .int (jI k))]) hx hb dX9_differs_379 hl (by decide) rfl (fun ls hl => ?_)
                                          refine lv_iload hx hb dX9_differs_381 (lv_at hl 0 rfl) ?_
                                          refine x_if_eqF (tgt := 405) hx hb (by omega) (by decide) dX9_differs_383 (by decide) ?_
                                          refine lv_bipush (v := jI 100) hx hb dX9_differs_386 (by decide) ?_
                                          refine lv_iload hx hb dX9_differs_388 (lv_at hl 6 rfl) ?_
                                          refine x_imul hx hb dX9_differs_390 ?_
                                          refine lv_aload_n hx hb dX9_differs_391 rfl (lv_at hl 2 rfl) ?_
                                          refine x_geto hx hb hf9 hw (by omega) (by omega) sl_40_32 lk90 dX9_differs_392 ?_
                                          refine lv_iconst (v := jI 5) hx hb dX9_differs_395 rfl ?_
                                          refine lv_iload hx hb dX9_differs_396 (lv_at hl 7 rfl) ?_
                                          refine x_imul hx hb dX9_differs_398 ?_
                                          refine lv_iload hx hb dX9_differs_399 (lv_at hl 9 rfl) ?_
                                          refine x_iadd hx hb dX9_differs_401 ?_
                                          refine x_iald hx hb hK.1 hw (by omega) (by omega) ar_73 (len_E ar_73 (by decide)) (by omega) (by omega) (by omega) dX9_differs_402 ?_
                                          have f300 : 0 ≤ X20 73 0 ((5 * ((30 * sv) + r)) + k) ∧ X20 73 0 ((5 * ((30 * sv) + r)) + k) ≤ 19 := hRX20 73 0 ((5 * ((30 * sv) + r)) + k)
                                          refine x_iadd hx hb dX9_differs_403 ?_
                                          refine ret_i (mc := 0) (ms := 0) hx hb hr hlocks hw hS (by omega) (by omega) dX9_differs_404 ?_
                                          exact ⟨X20, rfl, hRX20, hFX20, hMIX20, by omega⟩
                                  exact lp272 (5 - 0 : Int).toNat.succ 0 _ _ _ (by omega) (by omega) hw hS (lv_sub hl [1, 2, 3, 4, 5, 6, 7, 0] rfl)
                                · refine lv_bipush (v := jI 100) hx hb dX9_differs_260 (by decide) ?_
                                  refine lv_iload hx hb dX9_differs_262 (lv_at hl 4 rfl) ?_
                                  refine x_imul hx hb dX9_differs_264 ?_
                                  refine lv_bipush (v := jI 99) hx hb dX9_differs_265 (by decide) ?_
                                  refine x_iadd hx hb dX9_differs_267 ?_
                                  refine ret_i (mc := 0) (ms := 0) hx hb hr hlocks hw hS (by omega) (by omega) dX9_differs_268 ?_
                                  exact ⟨X20, rfl, hRX20, hFX20, hMIX20, by omega⟩
                              · refine lv_aload_n hx hb dX9_differs_188 rfl (lv_at hl 0 rfl) ?_
                                refine x_geto hx hb hf9 hw (by omega) (by omega) sl_40_32 lk90 dX9_differs_189 ?_
                                refine lv_iconst (v := jI 5) hx hb dX9_differs_192 rfl ?_
                                refine lv_iload hx hb dX9_differs_193 (lv_at hl 5 rfl) ?_
                                refine x_imul hx hb dX9_differs_195 ?_
                                refine lv_iload hx hb dX9_differs_196 (lv_at hl 8 rfl) ?_
                                refine x_iadd hx hb dX9_differs_198 ?_
                                refine x_iald hx hb hK.1 hw (by omega) (by omega) ar_73 (len_E ar_73 (by decide)) (by omega) (by omega) (by omega) dX9_differs_199 ?_
                                have f301 : 0 ≤ X20 73 0 ((5 * ((30 * sv) + r)) + k) ∧ X20 73 0 ((5 * ((30 * sv) + r)) + k) ≤ 19 := hRX20 73 0 ((5 * ((30 * sv) + r)) + k)
                                refine lv_aload_n hx hb dX9_differs_200 rfl (lv_at hl 0 rfl) ?_
                                refine x_geto hx hb hf9 hw (by omega) (by omega) sl_40_32 lk90 dX9_differs_201 ?_
                                refine lv_iconst (v := jI 5) hx hb dX9_differs_204 rfl ?_
                                refine lv_iload hx hb dX9_differs_205 (lv_at hl 6 rfl) ?_
                                refine x_imul hx hb dX9_differs_207 ?_
                                refine lv_iload hx hb dX9_differs_208 (lv_at hl 8 rfl) ?_
                                refine x_iadd hx hb dX9_differs_210 ?_
                                refine x_iald hx hb hK.1 hw (by omega) (by omega) ar_73 (len_E ar_73 (by decide)) (by omega) (by omega) (by omega) dX9_differs_211 ?_
                                have f302 : 0 ≤ X20 73 0 ((5 * (120 + r)) + k) ∧ X20 73 0 ((5 * (120 + r)) + k) ≤ 19 := hRX20 73 0 ((5 * (120 + r)) + k)
                                refine x_icmp_ne (tgt := 246) hx hb (by omega) (by omega) dX9_differs_212 (by decide) (fun c303 => ?_) (fun c303 => ?_)
                                · refine lv_iconst (v := jI 0) hx hb dX9_differs_246 rfl ?_
                                  refine lv_istore (lv' := [(7, .int (jI 0)), (0, .ref (ad 40 0)), (1, .int (jI sv)), (2, .int (jI x)), (3, .int (jI nz)), (4, .int (jI r)), (5, .int (jI ((30 * sv) + r))), (6, .int (jI (120 + r))), (8, .int (jI k))]) hx hb dX9_differs_247 hl (by decide) rfl (fun ls hl => ?_)
                                  refine lv_iinc (v := jI (k + 1)) (lv' := [(8, .int (jI (k + 1))), (7, .int (jI 0)), (0, .ref (ad 40 0)), (1, .int (jI sv)), (2, .int (jI x)), (3, .int (jI nz)), (4, .int (jI r)), (5, .int (jI ((30 * sv) + r))), (6, .int (jI (120 + r)))]) hx hb dX9_differs_249 hl (k := 8) rfl (jI_add _ _) (by decide) rfl (fun ls hl => ?_)
                                  refine lv_goto (tgt := 171) hx hb dX9_differs_252 (by decide) ?_
                                  exact ih171 0 (k + 1) _ _ _ (by omega) (by omega) (by omega) hw hS (lv_sub hl [2, 3, 4, 5, 6, 7, 8, 1, 0] rfl)
                                · refine lv_aload_n hx hb dX9_differs_215 rfl (lv_at hl 0 rfl) ?_
                                  refine x_geto hx hb hf9 hw (by omega) (by omega) sl_40_33 lk93 dX9_differs_216 ?_
                                  refine lv_iconst (v := jI 5) hx hb dX9_differs_219 rfl ?_
                                  refine lv_iload hx hb dX9_differs_220 (lv_at hl 5 rfl) ?_
                                  refine x_imul hx hb dX9_differs_222 ?_
                                  refine lv_iload hx hb dX9_differs_223 (lv_at hl 8 rfl) ?_
                                  refine x_iadd hx hb dX9_differs_225 ?_
                                  refine x_iald hx hb hK.1 hw (by omega) (by omega) ar_74 (len_E ar_74 (by decide)) (by omega) (by omega) (by omega) dX9_differs_226 ?_
                                  have f304 : 0 ≤ X20 74 0 ((5 * ((30 * sv) + r)) + k) ∧ X20 74 0 ((5 * ((30 * sv) + r)) + k) ≤ 5 := hRX20 74 0 ((5 * ((30 * sv) + r)) + k)
                                  refine lv_aload_n hx hb dX9_differs_227 rfl (lv_at hl 0 rfl) ?_
                                  refine x_geto hx hb hf9 hw (by omega) (by omega) sl_40_33 lk93 dX9_differs_228 ?_
                                  refine lv_iconst (v := jI 5) hx hb dX9_differs_231 rfl ?_
                                  refine lv_iload hx hb dX9_differs_232 (lv_at hl 6 rfl) ?_
                                  refine x_imul hx hb dX9_differs_234 ?_
                                  refine lv_iload hx hb dX9_differs_235 (lv_at hl 8 rfl) ?_
                                  refine x_iadd hx hb dX9_differs_237 ?_
                                  refine x_iald hx hb hK.1 hw (by omega) (by omega) ar_74 (len_E ar_74 (by decide)) (by omega) (by omega) (by omega) dX9_differs_238 ?_
                                  have f305 : 0 ≤ X20 74 0 ((5 * (120 + r)) + k) ∧ X20 74 0 ((5 * (120 + r)) + k) ≤ 5 := hRX20 74 0 ((5 * (120 + r)) + k)
                                  refine x_icmp_ne (tgt := 246) hx hb (by omega) (by omega) dX9_differs_239 (by decide) (fun c306 => ?_) (fun c306 => ?_)
                                  · refine lv_iconst (v := jI 0) hx hb dX9_differs_246 rfl ?_
                                    refine lv_istore (lv' := [(7, .int (jI 0)), (0, .ref (ad 40 0)), (1, .int (jI sv)), (2, .int (jI x)), (3, .int (jI nz)), (4, .int (jI r)), (5, .int (jI ((30 * sv) + r))), (6, .int (jI (120 + r))), (8, .int (jI k))]) hx hb dX9_differs_247 hl (by decide) rfl (fun ls hl => ?_)
                                    refine lv_iinc (v := jI (k + 1)) (lv' := [(8, .int (jI (k + 1))), (7, .int (jI 0)), (0, .ref (ad 40 0)), (1, .int (jI sv)), (2, .int (jI x)), (3, .int (jI nz)), (4, .int (jI r)), (5, .int (jI ((30 * sv) + r))), (6, .int (jI (120 + r)))]) hx hb dX9_differs_249 hl (k := 8) rfl (jI_add _ _) (by decide) rfl (fun ls hl => ?_)
                                    refine lv_goto (tgt := 171) hx hb dX9_differs_252 (by decide) ?_
                                    exact ih171 0 (k + 1) _ _ _ (by omega) (by omega) (by omega) hw hS (lv_sub hl [2, 3, 4, 5, 6, 7, 8, 1, 0] rfl)
                                  · refine lv_iconst (v := jI 1) hx hb dX9_differs_242 rfl ?_
                                    refine lv_goto (tgt := 247) hx hb dX9_differs_243 (by decide) ?_
                                    refine lv_istore (lv' := [(7, .int (jI 1)), (0, .ref (ad 40 0)), (1, .int (jI sv)), (2, .int (jI x)), (3, .int (jI nz)), (4, .int (jI r)), (5, .int (jI ((30 * sv) + r))), (6, .int (jI (120 + r))), (8, .int (jI k))]) hx hb dX9_differs_247 hl (by decide) rfl (fun ls hl => ?_)
                                    refine lv_iinc (v := jI (k + 1)) (lv' := [(8, .int (jI (k + 1))), (7, .int (jI 1)), (0, .ref (ad 40 0)), (1, .int (jI sv)), (2, .int (jI x)), (3, .int (jI nz)), (4, .int (jI r)), (5, .int (jI ((30 * sv) + r))), (6, .int (jI (120 + r)))]) hx hb dX9_differs_249 hl (k := 8) rfl (jI_add _ _) (by decide) rfl (fun ls hl => ?_)
                                    refine lv_goto (tgt := 171) hx hb dX9_differs_252 (by decide) ?_
                                    exact ih171 1 (k + 1) _ _ _ (by omega) (by omega) (by omega) hw hS (lv_sub hl [2, 3, 4, 5, 6, 7, 8, 1, 0] rfl)
                        exact lp171 (5 - 0 : Int).toNat.succ 1 0 _ _ _ (by omega) (by omega) (by omega) hw hS (lv_sub hl [4, 5, 6, 7, 8, 3, 2, 1, 0] rfl)
                  · refine lv_bipush (v := jI 100) hx hb dX9_differs_102 (by decide) ?_
                    refine lv_iload hx hb dX9_differs_104 (lv_at hl 4 rfl) ?_
                    refine x_imul hx hb dX9_differs_106 ?_
                    refine lv_bipush (v := jI 99) hx hb dX9_differs_107 (by decide) ?_
                    refine x_iadd hx hb dX9_differs_109 ?_
                    refine ret_i (mc := 0) (ms := 0) hx hb hr hlocks hw hS (by omega) (by omega) dX9_differs_110 ?_
                    exact ⟨X20, rfl, hRX20, hFX20, hMIX20, by omega⟩
          exact lp74 (30 - 0 : Int).toNat.succ (X20 70 0 sv) 0 _ _ _ (by omega) (by omega) (by omega) hw hS (lv_sub hl [2, 3, 4, 1, 0] rfl)
      · subst ez10
        refine x_if_neF (tgt := 33) hx hb (by omega) (by decide) dX9_differs_27 (by decide) ?_
        refine lv_bipush (v := jI (-2)) hx hb dX9_differs_30 (by decide) ?_
        refine ret_i (mc := 0) (ms := 0) hx hb hr hlocks hw hS (by omega) (by omega) dX9_differs_32 ?_
        have q308 : Frm [4001] X X1 := by rw [hX1]; exact Frm.set Frm.rf (show 4001 ∈ [4001] by decide)
        have hMq307 : MInv X1 := minv_frm hMI q308 (by decide)
        exact ⟨X1, rfl, hRX1, hFX1, hMq307, by omega⟩
  · subst ez2
    refine x_if_eqT (tgt := 30) hx hb (by omega) (by decide) dX9_differs_10 (by decide) ?_
    refine lv_bipush (v := jI (-2)) hx hb dX9_differs_30 (by decide) ?_
    refine ret_i (mc := 0) (ms := 0) hx hb hr hlocks hw hS (by omega) (by omega) dX9_differs_32 ?_
    have q310 : Frm [4001] X X1 := by rw [hX1]; exact Frm.set Frm.rf (show 4001 ∈ [4001] by decide)
    have hMq309 : MInv X1 := minv_frm hMI q310 (by decide)
    exact ⟨X1, rfl, hRX1, hFX1, hMq309, by omega⟩

