set_option maxHeartbeats 4000000 in
set_option maxRecDepth 100000 in
theorem c_X8_at (l : Launch) (hlT : l.stackTraces = false) (D : va_G) (tc : Nat → ClassId) (base : Nat) (ad : Nat → Int → Nat) (cnt : Nat → Int) (X : Nat → Int → Int → Int) (Y : Nat → Int → Int → Option Int) (ln : Int → Int) (hR : Rng X) (hFx : Fx cnt) (hLn : LnOK ln) (hCI : CInv cnt X Y ln) (x k : Int) (hx : -2147483648 ≤ x ∧ x ≤ 2147483647) (hk : -2147483648 ≤ k ∧ k ≤ 2147483647) : KT l D tc base yX8_at wsX8_at ({ frames := 6, cells := 1, slots := 6, locals := 82 } : Room) [.ref (ad 0 0), .int (jI x), .int (jI k)] (ad, cnt, X, Y, ln) 1 6 (fun z u => u = (ad, cnt, X, Y, ln) ∧ (-9223372036854775808 ≤ z ∧ z ≤ 9223372036854775807) ∧ atV X Y ln x k z) (atE X Y x k) := by
  refine KT_of (cc := cX8_at) (maxL := 5) (ret := (some .long)) (by decide) rfl (Nat.le_of_ble_eq_true rfl) ?_
  intro p e s m below meth c ls hx hb hr hml hown hts hlocks hex hl hK hT hw hS
  have hown : s.vm.findClass RX8 = some m.cls := hown
  have hi5 : ∀ w ∈ wsX50, w ∈ wsX8_at := fun w h => List.mem_cons_of_mem _ (List.mem_append_left _ (List.mem_append_left _ (List.mem_append_left _ (List.mem_append_right _ h))))
  have hf5 : fctx s m _ RX8 wsX8_at D tc RX5 TX5 2 5 := ⟨hts, hi5, hown, hK.1, rfl⟩
  have hi6 : ∀ w ∈ wsX60, w ∈ wsX8_at := fun w h => List.mem_cons_of_mem _ (List.mem_append_left _ (List.mem_append_left _ (List.mem_append_left _ (List.mem_append_left _ (List.mem_append_left _ (List.mem_append_right _ h))))))
  have hf6 : fctx s m _ RX8 wsX8_at D tc RX6 TX6 4 6 := ⟨hts, hi6, hown, hK.1, rfl⟩
  have hi7 : ∀ w ∈ wsX70, w ∈ wsX8_at := fun w h => List.mem_cons_of_mem _ (List.mem_append_left _ (List.mem_append_left _ (List.mem_append_left _ (List.mem_append_left _ (List.mem_append_right _ h)))))
  have hf7 : fctx s m _ RX8 wsX8_at D tc RX7 TX7 8 7 := ⟨hts, hi7, hown, hK.1, rfl⟩
  have lk97 := hts (.fieldLink RX8 97 (TX6 0).1 (TX6 0).2.1 (TX6 0).2.2.1) (gj_X8_at_0 _ (gp_4 gp_h))
  have lk135 := hts (.fieldLink RX8 135 (TX7 3).1 (TX7 3).2.1 (TX7 3).2.2.1) (gj_X8_at_0 _ (gp_4 (gp_1 gp_h)))
  have lk158 := hts (.fieldLink RX8 158 (TX6 2).1 (TX6 2).2.1 (TX6 2).2.2.1) (gj_X8_at_0 _ (gp_4 (gp_1 (gp_1 (gp_1 gp_h)))))
  have lk161 := hts (.fieldLink RX8 161 (TX5 0).1 (TX5 0).2.1 (TX5 0).2.2.1) (gj_X8_at_0 _ (gp_4 (gp_4 (gp_1 gp_h))))
  have lk193 := hts (.fieldLink RX8 193 (TX6 1).1 (TX6 1).2.1 (TX6 1).2.2.1) (gj_X8_at_0 _ (gp_4 (gp_1 (gp_1 gp_h))))
  have hc0 : cnt 0 = 1 := hFx.at 0 1 (by decide)
  have hc15 : cnt 15 = 30 := hFx.at 15 30 (by decide)
  have hc16 : cnt 16 = 30 := hFx.at 16 30 (by decide)
  have hc17 : cnt 17 = 30 := hFx.at 17 30 (by decide)
  have hc21 : cnt 21 = cnt 19 := hFx.2.1 21 (by decide)
  have hc27 : cnt 27 = cnt 26 := hFx.2.2
  have hl : lv_has ls 5 [(0, .ref (ad 0 0)), (1, .int (jI x)), (2, .int (jI k))] := hl
  have ftc : 0 ≤ X 0 0 3 ∧ X 0 0 3 ≤ 30 := hR 0 0 3
  have fty : 0 ≤ X 0 0 1 ∧ X 0 0 1 ≤ 8 := hR 0 0 1
  have hct : cnt 19 = X 0 0 1 := hCI.2.2.2.1.1
  have hfj : 0 ≤ X 29 0 3 ∧ X 29 0 3 ≤ 4 := hR 29 0 3
  have hfn : 0 ≤ X 29 0 1 ∧ X 29 0 1 ≤ 80 := hR 29 0 1
  refine lv_aload_n hx hb dX8_at_0 rfl (lv_at hl 0 rfl) ?_
  refine lv_iload_n hx hb dX8_at_1 rfl (lv_at hl 1 rfl) ?_
  refine x_i2l hx hb (by omega) dX8_at_2 ?_
  refine gos_r (run_V (As := [.long (jL x)]) (rest := []) hx hb hml hown hts (c_X8_thingNumbered l D tc base ad cnt X Y ln hR hFx hLn hCI x (by omega)) (cwV 1 hts gX8_at_X8_thingNumbered rfl rfl rfl (by first | exact hd_X8_thingNumbered | decide +kernel) ⟨Nat.le_of_ble_eq_true rfl, Nat.le_of_ble_eq_true rfl⟩) hK hw (by first | exact Int.le_refl 0 | omega) (by first | exact zlt hc0 | omega) sl_0_0 rfl rfl hl.1 rfl (Nat.le_of_ble_eq_true rfl) dX8_at_3 ⟨(by show _ ≤ (1 : Nat); omega), (by show _ ≤ (6 : Nat); omega)⟩) hS (fun u2 H locs p3 hw hS => ?_) (fun z1 u2 H locs p3 hw hS => ?_)
  · obtain ⟨eu2, hsp3, hnp3⟩ := p3
    subst eu2
    refine lv_astore_nN (lv' := [(3, .null), (0, .ref (ad 0 0)), (1, .int (jI x)), (2, .int (jI k))]) hx hb dX8_at_6 rfl hl (by decide) rfl (fun ls hl => ?_)
    refine lv_aload_nN hx hb dX8_at_7 rfl (lv_at hl 0 rfl) ?_
    refine lv_ifnonnullN hx hb dX8_at_8 ?_
    obtain ⟨sa, hsa⟩ := hT.1.1
    exact t_throw hx hb hlT hown (by decide +kernel) (hts (.classLink RX8 181 eA) (by decide +kernel)) (hts (.initialized eA) (by decide +kernel)) hsa (fun w hq => hts w (List.mem_cons_of_mem _ (List.mem_append_left _ (List.mem_append_right _ hq)))) (by decide +kernel) hT.2.2.1.1 hT (by decide +kernel) hw hS (hl.1.trans hml.symm) dX8_at_11 dX8_at_14 dX8_at_15 dX8_at_17 dX8_at_20 hex (Nat.le_of_ble_eq_true rfl) (Nat.le_of_ble_eq_true rfl) (by show _ ≤ (1 : Nat); omega) (by show _ ≤ (6 : Nat); omega) hlocks (at_A (hnp3 rfl)) (by omega) (by omega)
  · obtain ⟨eu2, hsp3, hnp3⟩ := p3
    subst eu2
    obtain ⟨ezz1, p3⟩ := hsp3 z1 rfl
    refine lv_astore_n (lv' := [(3, .ref (ad 15 z1)), (0, .ref (ad 0 0)), (1, .int (jI x)), (2, .int (jI k))]) hx hb dX8_at_6 rfl hl (by decide) rfl (fun ls hl => ?_)
    refine lv_aload_n hx hb dX8_at_7 rfl (lv_at hl 0 rfl) ?_
    refine lv_ifnonnull (tgt := 21) hx hb dX8_at_8 (by decide) ?_
    refine lv_aload_n hx hb dX8_at_21 rfl (lv_at hl 0 rfl) ?_
    refine x_getr (jz := 0) hx hb hf6 hw (by omega) (by omega) sl_15_0 rfl lk97 dX8_at_22 (fun y4 => ?_) (fun r5 y4 gr5 lr5 => ?_)
    · exfalso
      exact absurd y4 (hCI.2.2.2.2.1 z1 (by omega) (by omega))
    · refine lv_iload_n hx hb dX8_at_25 rfl (lv_at hl 3 rfl) ?_
      refine gos_i (run_V (As := [.int (jI k)]) (rest := []) hx hb hml hown hts (c_X7_hasField l D tc base ad cnt X Y ln hR hFx hLn r5 k (by omega) (by omega)) (cwV 1 hts gX8_at_X7_hasField rfl rfl rfl (by first | exact hd_X7_hasField | decide +kernel) ⟨Nat.le_of_ble_eq_true rfl, Nat.le_of_ble_eq_true rfl⟩) hK hw (by first | exact Int.le_refl 0 | omega) (by first | exact zlt hc19 | omega) sl_19_0 rfl rfl hl.1 rfl (Nat.le_of_ble_eq_true rfl) dX8_at_26 ⟨(by show _ ≤ (1 : Nat); omega), (by show _ ≤ (6 : Nat); omega)⟩) hS (fun z6 u7 H locs p8 hw hS => ?_)
      obtain ⟨eu7, p8⟩ := p8
      subst eu7
      rcases p8 with ⟨ez6, p8⟩ | ⟨ez6, p8⟩
      · subst ez6
        refine x_if_neT (tgt := 42) hx hb (by omega) (by decide) dX8_at_29 (by decide) ?_
        refine lv_aload_n hx hb dX8_at_42 rfl (lv_at hl 0 rfl) ?_
        refine x_getr (jz := 0) hx hb hf6 hw (by omega) (by omega) sl_15_0 rfl lk97 dX8_at_43 (fun y9 => ?_) (fun r10 y9 gr10 lr10 => ?_)
        · exfalso
          rw [y4] at y9; cases y9
        · have er10 : r10 = r5 := by rw [y4] at y9; cases y9; rfl
          rw [er10]
          refine x_geto hx hb hf7 hw (by omega) (by omega) sl_19_3 lk135 dX8_at_46 ?_
          refine lv_iload_n hx hb dX8_at_49 rfl (lv_at hl 3 rfl) ?_
          refine x_iald hx hb hK.1 hw (by omega) (by omega) ar_21 (len_E ar_21 (by decide)) (by omega) (by omega) (by omega) dX8_at_50 ?_
          have f11 : 0 ≤ X 21 r5 k ∧ X 21 r5 k ≤ 5 := hR 21 r5 k
          refine gos_i (run_S (As := [.int (jI (X 21 r5 k))]) (rest := []) hx hb hml hown hts (c_X8_isRowLane l D tc base ad cnt X Y ln (X 21 r5 k) (by omega)) (cwS 1 hts gX8_at_X8_isRowLane rfl rfl rfl (by first | exact hd_X8_isRowLane | decide +kernel) ⟨Nat.le_of_ble_eq_true rfl, Nat.le_of_ble_eq_true rfl⟩) hK hw rfl hl.1 rfl (Nat.le_of_ble_eq_true rfl) dX8_at_51 ⟨(by show _ ≤ (1 : Nat); omega), (by show _ ≤ (6 : Nat); omega)⟩) hS (fun z12 u13 H locs p14 hw hS => ?_)
          obtain ⟨eu13, p14⟩ := p14
          subst eu13
          rcases p14 with ⟨ez12, p14⟩ | ⟨ez12, p14⟩
          · subst ez12
            refine x_if_neT (tgt := 64) hx hb (by omega) (by decide) dX8_at_54 (by decide) ?_
            refine lv_aload_n hx hb dX8_at_64 rfl (lv_at hl 0 rfl) ?_
            refine x_geto hx hb hf6 hw (by omega) (by omega) sl_15_2 lk158 dX8_at_65 ?_
            refine lv_iload_n hx hb dX8_at_68 rfl (lv_at hl 3 rfl) ?_
            refine x_aald hx hb hK.1 hw (by omega) (by omega) ar_17 rfl (len_E ar_17 (by decide)) (by omega) (by omega) (by omega) dX8_at_69 (fun y15 => ?_) (fun r16 y15 gr16 lr16 => ?_)
            · refine lv_astoreN (lv' := [(4, .null), (3, .ref (ad 15 z1)), (0, .ref (ad 0 0)), (1, .int (jI x)), (2, .int (jI k))]) hx hb dX8_at_70 hl (by decide) rfl (fun ls hl => ?_)
              refine lv_aloadN hx hb dX8_at_72 (lv_at hl 0 rfl) ?_
              refine lv_ifnonnullN hx hb dX8_at_74 ?_
              refine lv_ldc2 (v := jL (-1)) hx hb hown (hts (.constantLong RX8 88 (-1)) (by first | exact gj_X8_at_0 _ (gp_4 (gp_4 gp_h)) | decide +kernel)) dX8_at_77 ?_
              refine lv_goto (tgt := 90) hx hb dX8_at_80 (by decide) ?_
              refine vx_ret ?_
              refine ret_l (mc := 1) (ms := 6) hx hb hr hlocks hw hS (by first | exact Nat.le_of_ble_eq_true rfl | omega) (by first | exact Nat.le_of_ble_eq_true rfl | omega) dX8_at_90 ?_
              exact ⟨rfl, by omega, at_0 ezz1 p3 y4 p8 p14 y15⟩
            · refine lv_astore (lv' := [(4, .ref (ad 26 r16)), (3, .ref (ad 15 z1)), (0, .ref (ad 0 0)), (1, .int (jI x)), (2, .int (jI k))]) hx hb dX8_at_70 hl (by decide) rfl (fun ls hl => ?_)
              refine lv_aload hx hb dX8_at_72 (lv_at hl 0 rfl) ?_
              refine lv_ifnonnull (tgt := 83) hx hb dX8_at_74 (by decide) ?_
              refine lv_aload hx hb dX8_at_83 (lv_at hl 0 rfl) ?_
              refine x_geto hx hb hf5 hw (by omega) (by omega) sl_26_0 lk161 dX8_at_85 ?_
              have f17 : 0 ≤ ln r16 ∧ ln r16 ≤ 12 := hLn r16
              refine x_alenl hx hb hK.1 hw (by omega) (by omega) ar_27 (show lenE ln 27 r16 = ln r16 from rfl) (by omega) dX8_at_88 ?_
              refine x_i2l hx hb (by omega) dX8_at_89 ?_
              refine vx_ret ?_
              refine ret_l (mc := 1) (ms := 6) hx hb hr hlocks hw hS (by first | exact Nat.le_of_ble_eq_true rfl | omega) (by first | exact Nat.le_of_ble_eq_true rfl | omega) dX8_at_90 ?_
              exact ⟨rfl, by omega, at_1 ezz1 p3 y4 p8 p14 y15⟩
          · subst ez12
            refine x_if_neF (tgt := 64) hx hb (by omega) (by decide) dX8_at_54 (by decide) ?_
            refine lv_aload_n hx hb dX8_at_57 rfl (lv_at hl 0 rfl) ?_
            refine x_geto hx hb hf6 hw (by omega) (by omega) sl_15_1 lk193 dX8_at_58 ?_
            refine lv_iload_n hx hb dX8_at_61 rfl (lv_at hl 3 rfl) ?_
            refine x_lald hx hb hK.1 hw (by omega) (by omega) ar_16 (len_E ar_16 (by decide)) (by omega) (by omega) (by omega) dX8_at_62 ?_
            have f18 : (-9223372036854775808) ≤ X 16 z1 k ∧ X 16 z1 k ≤ 9223372036854775807 := hR 16 z1 k
            refine vx_ret ?_
            refine ret_l (mc := 1) (ms := 6) hx hb hr hlocks hw hS (by first | exact Nat.le_of_ble_eq_true rfl | omega) (by first | exact Nat.le_of_ble_eq_true rfl | omega) dX8_at_63 ?_
            exact ⟨rfl, by omega, at_2 ezz1 p3 y4 p8 p14⟩
      · subst ez6
        refine x_if_neF (tgt := 42) hx hb (by omega) (by decide) dX8_at_29 (by decide) ?_
        obtain ⟨sa, hsa⟩ := hT.1.2.1
        exact t_throw hx hb hlT hown (by decide +kernel) (hts (.classLink RX8 188 eI) (by decide +kernel)) (hts (.initialized eI) (by decide +kernel)) hsa (fun w hq => hts w (List.mem_cons_of_mem _ (List.mem_append_right _ hq))) (by decide +kernel) hT.2.2.1.2.1 hT (by decide +kernel) hw hS (hl.1.trans hml.symm) dX8_at_32 dX8_at_35 dX8_at_36 dX8_at_38 dX8_at_41 hex (Nat.le_of_ble_eq_true rfl) (Nat.le_of_ble_eq_true rfl) (by show _ ≤ (1 : Nat); omega) (by show _ ≤ (6 : Nat); omega) hlocks (at_I ezz1 p3 y4 p8) (by omega) (by omega)

set_option maxHeartbeats 4000000 in
set_option maxRecDepth 100000 in
theorem c_X8_itemAt (l : Launch) (hlT : l.stackTraces = false) (D : va_G) (tc : Nat → ClassId) (base : Nat) (ad : Nat → Int → Nat) (cnt : Nat → Int) (X : Nat → Int → Int → Int) (Y : Nat → Int → Int → Option Int) (ln : Int → Int) (hR : Rng X) (hFx : Fx cnt) (hLn : LnOK ln) (hCI : CInv cnt X Y ln) (x k i : Int) (hx : -2147483648 ≤ x ∧ x ≤ 2147483647) (hk : -2147483648 ≤ k ∧ k ≤ 2147483647) (hi : -2147483648 ≤ i ∧ i ≤ 2147483647) : KT l D tc base yX8_itemAt wsX8_itemAt ({ frames := 6, cells := 1, slots := 6, locals := 82 } : Room) [.ref (ad 0 0), .int (jI x), .int (jI k), .int (jI i)] (ad, cnt, X, Y, ln) 1 6 (fun z u => u = (ad, cnt, X, Y, ln) ∧ (-9223372036854775808 ≤ z ∧ z ≤ 9223372036854775807) ∧ iaV X Y ln x k i z) (iaE X Y ln x k i) := by
  refine KT_of (cc := cX8_itemAt) (maxL := 6) (ret := (some .long)) (by decide) rfl (Nat.le_of_ble_eq_true rfl) ?_
  intro p e s m below meth c ls hx hb hr hml hown hts hlocks hex hl hK hT hw hS
  have hown : s.vm.findClass RX8 = some m.cls := hown
  have hi5 : ∀ w ∈ wsX50, w ∈ wsX8_itemAt := fun w h => List.mem_cons_of_mem _ (List.mem_append_left _ (List.mem_append_left _ (List.mem_append_left _ (List.mem_append_left _ (List.mem_append_right _ h)))))
  have hf5 : fctx s m _ RX8 wsX8_itemAt D tc RX5 TX5 2 5 := ⟨hts, hi5, hown, hK.1, rfl⟩
  have hi6 : ∀ w ∈ wsX60, w ∈ wsX8_itemAt := fun w h => List.mem_cons_of_mem _ (List.mem_append_left _ (List.mem_append_left _ (List.mem_append_left _ (List.mem_append_left _ (List.mem_append_left _ (List.mem_append_left _ (List.mem_append_right _ h)))))))
  have hf6 : fctx s m _ RX8 wsX8_itemAt D tc RX6 TX6 4 6 := ⟨hts, hi6, hown, hK.1, rfl⟩
  have hi7 : ∀ w ∈ wsX70, w ∈ wsX8_itemAt := fun w h => List.mem_cons_of_mem _ (List.mem_append_left _ (List.mem_append_left _ (List.mem_append_left _ (List.mem_append_left _ (List.mem_append_left _ (List.mem_append_right _ h))))))
  have hf7 : fctx s m _ RX8 wsX8_itemAt D tc RX7 TX7 8 7 := ⟨hts, hi7, hown, hK.1, rfl⟩
  have lk97 := hts (.fieldLink RX8 97 (TX6 0).1 (TX6 0).2.1 (TX6 0).2.2.1) (gj_X8_itemAt_0 _ (gp_4 (gp_1 (gp_1 gp_h))))
  have lk135 := hts (.fieldLink RX8 135 (TX7 3).1 (TX7 3).2.1 (TX7 3).2.2.1) (gj_X8_itemAt_0 _ (gp_4 (gp_1 (gp_1 (gp_1 gp_h)))))
  have lk158 := hts (.fieldLink RX8 158 (TX6 2).1 (TX6 2).2.1 (TX6 2).2.2.1) (gj_X8_itemAt_0 _ (gp_4 (gp_4 gp_h)))
  have lk161 := hts (.fieldLink RX8 161 (TX5 0).1 (TX5 0).2.1 (TX5 0).2.2.1) (gj_X8_itemAt_0 _ (gp_4 (gp_4 (gp_1 gp_h))))
  have hc0 : cnt 0 = 1 := hFx.at 0 1 (by decide)
  have hc15 : cnt 15 = 30 := hFx.at 15 30 (by decide)
  have hc17 : cnt 17 = 30 := hFx.at 17 30 (by decide)
  have hc21 : cnt 21 = cnt 19 := hFx.2.1 21 (by decide)
  have hc27 : cnt 27 = cnt 26 := hFx.2.2
  have hl : lv_has ls 6 [(0, .ref (ad 0 0)), (1, .int (jI x)), (2, .int (jI k)), (3, .int (jI i))] := hl
  have ftc : 0 ≤ X 0 0 3 ∧ X 0 0 3 ≤ 30 := hR 0 0 3
  have fty : 0 ≤ X 0 0 1 ∧ X 0 0 1 ≤ 8 := hR 0 0 1
  have hct : cnt 19 = X 0 0 1 := hCI.2.2.2.1.1
  have hfj : 0 ≤ X 29 0 3 ∧ X 29 0 3 ≤ 4 := hR 29 0 3
  have hfn : 0 ≤ X 29 0 1 ∧ X 29 0 1 ≤ 80 := hR 29 0 1
  refine lv_aload_n hx hb dX8_itemAt_0 rfl (lv_at hl 0 rfl) ?_
  refine lv_iload_n hx hb dX8_itemAt_1 rfl (lv_at hl 1 rfl) ?_
  refine x_i2l hx hb (by omega) dX8_itemAt_2 ?_
  refine gos_r (run_V (As := [.long (jL x)]) (rest := []) hx hb hml hown hts (c_X8_thingNumbered l D tc base ad cnt X Y ln hR hFx hLn hCI x (by omega)) (cwV 1 hts gX8_itemAt_X8_thingNumbered rfl rfl rfl (by first | exact hd_X8_thingNumbered | decide +kernel) ⟨Nat.le_of_ble_eq_true rfl, Nat.le_of_ble_eq_true rfl⟩) hK hw (by first | exact Int.le_refl 0 | omega) (by first | exact zlt hc0 | omega) sl_0_0 rfl rfl hl.1 rfl (Nat.le_of_ble_eq_true rfl) dX8_itemAt_3 ⟨(by show _ ≤ (1 : Nat); omega), (by show _ ≤ (6 : Nat); omega)⟩) hS (fun u2 H locs p3 hw hS => ?_) (fun z1 u2 H locs p3 hw hS => ?_)
  · obtain ⟨eu2, hsp3, hnp3⟩ := p3
    subst eu2
    refine lv_astoreN (lv' := [(4, .null), (0, .ref (ad 0 0)), (1, .int (jI x)), (2, .int (jI k)), (3, .int (jI i))]) hx hb dX8_itemAt_6 hl (by decide) rfl (fun ls hl => ?_)
    refine lv_aloadN hx hb dX8_itemAt_8 (lv_at hl 0 rfl) ?_
    refine lv_ifnonnullN hx hb dX8_itemAt_10 ?_
    obtain ⟨sa, hsa⟩ := hT.1.1
    exact t_throw hx hb hlT hown (by decide +kernel) (hts (.classLink RX8 181 eA) (by decide +kernel)) (hts (.initialized eA) (by decide +kernel)) hsa (fun w hq => hts w (List.mem_cons_of_mem _ (List.mem_append_left _ (List.mem_append_left _ (List.mem_append_right _ hq))))) (by decide +kernel) hT.2.2.1.1 hT (by decide +kernel) hw hS (hl.1.trans hml.symm) dX8_itemAt_13 dX8_itemAt_16 dX8_itemAt_17 dX8_itemAt_19 dX8_itemAt_22 hex (Nat.le_of_ble_eq_true rfl) (Nat.le_of_ble_eq_true rfl) (by show _ ≤ (1 : Nat); omega) (by show _ ≤ (6 : Nat); omega) hlocks (ia_A (hnp3 rfl)) (by omega) (by omega)
  · obtain ⟨eu2, hsp3, hnp3⟩ := p3
    subst eu2
    obtain ⟨ezz1, p3⟩ := hsp3 z1 rfl
    refine lv_astore (lv' := [(4, .ref (ad 15 z1)), (0, .ref (ad 0 0)), (1, .int (jI x)), (2, .int (jI k)), (3, .int (jI i))]) hx hb dX8_itemAt_6 hl (by decide) rfl (fun ls hl => ?_)
    refine lv_aload hx hb dX8_itemAt_8 (lv_at hl 0 rfl) ?_
    refine lv_ifnonnull (tgt := 23) hx hb dX8_itemAt_10 (by decide) ?_
    refine lv_aload hx hb dX8_itemAt_23 (lv_at hl 0 rfl) ?_
    refine x_getr (jz := 0) hx hb hf6 hw (by omega) (by omega) sl_15_0 rfl lk97 dX8_itemAt_25 (fun y4 => ?_) (fun r5 y4 gr5 lr5 => ?_)
    · exfalso
      exact absurd y4 (hCI.2.2.2.2.1 z1 (by omega) (by omega))
    · refine lv_iload_n hx hb dX8_itemAt_28 rfl (lv_at hl 3 rfl) ?_
      refine gos_i (run_V (As := [.int (jI k)]) (rest := []) hx hb hml hown hts (c_X7_hasField l D tc base ad cnt X Y ln hR hFx hLn r5 k (by omega) (by omega)) (cwV 1 hts gX8_itemAt_X7_hasField rfl rfl rfl (by first | exact hd_X7_hasField | decide +kernel) ⟨Nat.le_of_ble_eq_true rfl, Nat.le_of_ble_eq_true rfl⟩) hK hw (by first | exact Int.le_refl 0 | omega) (by first | exact zlt hc19 | omega) sl_19_0 rfl rfl hl.1 rfl (Nat.le_of_ble_eq_true rfl) dX8_itemAt_29 ⟨(by show _ ≤ (1 : Nat); omega), (by show _ ≤ (6 : Nat); omega)⟩) hS (fun z6 u7 H locs p8 hw hS => ?_)
      obtain ⟨eu7, p8⟩ := p8
      subst eu7
      rcases p8 with ⟨ez6, p8⟩ | ⟨ez6, p8⟩
      · subst ez6
        refine x_if_neT (tgt := 45) hx hb (by omega) (by decide) dX8_itemAt_32 (by decide) ?_
        refine lv_aload hx hb dX8_itemAt_45 (lv_at hl 0 rfl) ?_
        refine x_getr (jz := 0) hx hb hf6 hw (by omega) (by omega) sl_15_0 rfl lk97 dX8_itemAt_47 (fun y9 => ?_) (fun r10 y9 gr10 lr10 => ?_)
        · exfalso
          rw [y4] at y9; cases y9
        · have er10 : r10 = r5 := by rw [y4] at y9; cases y9; rfl
          rw [er10]
          refine x_geto hx hb hf7 hw (by omega) (by omega) sl_19_3 lk135 dX8_itemAt_50 ?_
          refine lv_iload_n hx hb dX8_itemAt_53 rfl (lv_at hl 3 rfl) ?_
          refine x_iald hx hb hK.1 hw (by omega) (by omega) ar_21 (len_E ar_21 (by decide)) (by omega) (by omega) (by omega) dX8_itemAt_54 ?_
          have f11 : 0 ≤ X 21 r5 k ∧ X 21 r5 k ≤ 5 := hR 21 r5 k
          refine gos_i (run_S (As := [.int (jI (X 21 r5 k))]) (rest := []) hx hb hml hown hts (c_X8_isRowLane l D tc base ad cnt X Y ln (X 21 r5 k) (by omega)) (cwS 1 hts gX8_itemAt_X8_isRowLane rfl rfl rfl (by first | exact hd_X8_isRowLane | decide +kernel) ⟨Nat.le_of_ble_eq_true rfl, Nat.le_of_ble_eq_true rfl⟩) hK hw rfl hl.1 rfl (Nat.le_of_ble_eq_true rfl) dX8_itemAt_55 ⟨(by show _ ≤ (1 : Nat); omega), (by show _ ≤ (6 : Nat); omega)⟩) hS (fun z12 u13 H locs p14 hw hS => ?_)
          obtain ⟨eu13, p14⟩ := p14
          subst eu13
          rcases p14 with ⟨ez12, p14⟩ | ⟨ez12, p14⟩
          · subst ez12
            refine x_if_neT (tgt := 71) hx hb (by omega) (by decide) dX8_itemAt_58 (by decide) ?_
            refine lv_aload hx hb dX8_itemAt_71 (lv_at hl 0 rfl) ?_
            refine x_geto hx hb hf6 hw (by omega) (by omega) sl_15_2 lk158 dX8_itemAt_73 ?_
            refine lv_iload_n hx hb dX8_itemAt_76 rfl (lv_at hl 3 rfl) ?_
            refine x_aald hx hb hK.1 hw (by omega) (by omega) ar_17 rfl (len_E ar_17 (by decide)) (by omega) (by omega) (by omega) dX8_itemAt_77 (fun y15 => ?_) (fun r16 y15 gr16 lr16 => ?_)
            · refine lv_astoreN (lv' := [(5, .null), (4, .ref (ad 15 z1)), (0, .ref (ad 0 0)), (1, .int (jI x)), (2, .int (jI k)), (3, .int (jI i))]) hx hb dX8_itemAt_78 hl (by decide) rfl (fun ls hl => ?_)
              refine lv_aloadN hx hb dX8_itemAt_80 (lv_at hl 0 rfl) ?_
              refine lv_ifnonnullN hx hb dX8_itemAt_82 ?_
              obtain ⟨sa, hsa⟩ := hT.1.2.2.2.1
              exact t_throw hx hb hlT hown (by decide +kernel) (hts (.classLink RX8 196 eS) (by decide +kernel)) (hts (.initialized eS) (by decide +kernel)) hsa (fun w hq => hts w (List.mem_cons_of_mem _ (List.mem_append_right _ hq))) (by decide +kernel) hT.2.2.1.2.2 hT (by decide +kernel) hw hS (hl.1.trans hml.symm) dX8_itemAt_85 dX8_itemAt_88 dX8_itemAt_89 dX8_itemAt_91 dX8_itemAt_94 hex (Nat.le_of_ble_eq_true rfl) (Nat.le_of_ble_eq_true rfl) (by show _ ≤ (1 : Nat); omega) (by show _ ≤ (6 : Nat); omega) hlocks (ia_S2 ezz1 p3 y4 p8 y15) (by omega) (by omega)
            · refine lv_astore (lv' := [(5, .ref (ad 26 r16)), (4, .ref (ad 15 z1)), (0, .ref (ad 0 0)), (1, .int (jI x)), (2, .int (jI k)), (3, .int (jI i))]) hx hb dX8_itemAt_78 hl (by decide) rfl (fun ls hl => ?_)
              refine lv_aload hx hb dX8_itemAt_80 (lv_at hl 0 rfl) ?_
              refine lv_ifnonnull (tgt := 95) hx hb dX8_itemAt_82 (by decide) ?_
              refine lv_iload_n hx hb dX8_itemAt_95 rfl (lv_at hl 5 rfl) ?_
              refine lv_aload hx hb dX8_itemAt_96 (lv_at hl 0 rfl) ?_
              refine x_geto hx hb hf5 hw (by omega) (by omega) sl_26_0 lk161 dX8_itemAt_98 ?_
              have f17 : 0 ≤ ln r16 ∧ ln r16 ≤ 12 := hLn r16
              refine x_alenl hx hb hK.1 hw (by omega) (by omega) ar_27 (show lenE ln 27 r16 = ln r16 from rfl) (by omega) dX8_itemAt_101 ?_
              refine gos_i (run_S (As := [.int (jI i), .int (jI (ln r16))]) (rest := []) hx hb hml hown hts (c_X8_isBelow l D tc base ad cnt X Y ln i (ln r16) (by omega) (by omega)) (cwS 2 hts gX8_itemAt_X8_isBelow rfl rfl rfl (by first | exact hd_X8_isBelow | decide +kernel) ⟨Nat.le_of_ble_eq_true rfl, Nat.le_of_ble_eq_true rfl⟩) hK hw rfl hl.1 rfl (Nat.le_of_ble_eq_true rfl) dX8_itemAt_102 ⟨(by show _ ≤ (1 : Nat); omega), (by show _ ≤ (6 : Nat); omega)⟩) hS (fun z18 u19 H locs p20 hw hS => ?_)
              obtain ⟨eu19, p20⟩ := p20
              subst eu19
              rcases p20 with ⟨ez18, p20⟩ | ⟨ez18, p20⟩
              · subst ez18
                refine x_if_neT (tgt := 118) hx hb (by omega) (by decide) dX8_itemAt_105 (by decide) ?_
                refine lv_aload hx hb dX8_itemAt_118 (lv_at hl 0 rfl) ?_
                refine x_geto hx hb hf5 hw (by omega) (by omega) sl_26_0 lk161 dX8_itemAt_120 ?_
                refine lv_iload_n hx hb dX8_itemAt_123 rfl (lv_at hl 5 rfl) ?_
                have f21 : 0 ≤ ln r16 ∧ ln r16 ≤ 12 := hLn r16
                refine x_lald hx hb hK.1 hw (by omega) (by omega) ar_27 (show lenE ln 27 r16 = ln r16 from rfl) (by omega) (by omega) (by omega) dX8_itemAt_124 ?_
                have f22 : (-9223372036854775808) ≤ X 27 r16 i ∧ X 27 r16 i ≤ 9223372036854775807 := hR 27 r16 i
                refine vx_ret ?_
                refine ret_l (mc := 1) (ms := 6) hx hb hr hlocks hw hS (by first | exact Nat.le_of_ble_eq_true rfl | omega) (by first | exact Nat.le_of_ble_eq_true rfl | omega) dX8_itemAt_125 ?_
                exact ⟨rfl, by omega, ia_V ezz1 p3 y4 p8 p14 y15 p20⟩
              · subst ez18
                refine x_if_neF (tgt := 118) hx hb (by omega) (by decide) dX8_itemAt_105 (by decide) ?_
                obtain ⟨sa, hsa⟩ := hT.1.2.2.2.2
                exact t_throw hx hb hlT hown (by decide +kernel) (hts (.classLink RX8 188 eI) (by decide +kernel)) (hts (.initialized eI) (by decide +kernel)) hsa (fun w hq => hts w (List.mem_cons_of_mem _ (List.mem_append_left _ (List.mem_append_right _ hq)))) (by decide +kernel) hT.2.2.1.2.1 hT (by decide +kernel) hw hS (hl.1.trans hml.symm) dX8_itemAt_108 dX8_itemAt_111 dX8_itemAt_112 dX8_itemAt_114 dX8_itemAt_117 hex (Nat.le_of_ble_eq_true rfl) (Nat.le_of_ble_eq_true rfl) (by show _ ≤ (1 : Nat); omega) (by show _ ≤ (6 : Nat); omega) hlocks (ia_I2 ezz1 p3 y4 p8 p14 y15 p20) (by omega) (by omega)
          · subst ez12
            refine x_if_neF (tgt := 71) hx hb (by omega) (by decide) dX8_itemAt_58 (by decide) ?_
            obtain ⟨sa, hsa⟩ := hT.1.2.2.1
            exact t_throw hx hb hlT hown (by decide +kernel) (hts (.classLink RX8 196 eS) (by decide +kernel)) (hts (.initialized eS) (by decide +kernel)) hsa (fun w hq => hts w (List.mem_cons_of_mem _ (List.mem_append_right _ hq))) (by decide +kernel) hT.2.2.1.2.2 hT (by decide +kernel) hw hS (hl.1.trans hml.symm) dX8_itemAt_61 dX8_itemAt_64 dX8_itemAt_65 dX8_itemAt_67 dX8_itemAt_70 hex (Nat.le_of_ble_eq_true rfl) (Nat.le_of_ble_eq_true rfl) (by show _ ≤ (1 : Nat); omega) (by show _ ≤ (6 : Nat); omega) hlocks (ia_S1 ezz1 p3 y4 p8 p14) (by omega) (by omega)
      · subst ez6
        refine x_if_neF (tgt := 45) hx hb (by omega) (by decide) dX8_itemAt_32 (by decide) ?_
        obtain ⟨sa, hsa⟩ := hT.1.2.1
        exact t_throw hx hb hlT hown (by decide +kernel) (hts (.classLink RX8 188 eI) (by decide +kernel)) (hts (.initialized eI) (by decide +kernel)) hsa (fun w hq => hts w (List.mem_cons_of_mem _ (List.mem_append_left _ (List.mem_append_right _ hq)))) (by decide +kernel) hT.2.2.1.2.1 hT (by decide +kernel) hw hS (hl.1.trans hml.symm) dX8_itemAt_35 dX8_itemAt_38 dX8_itemAt_39 dX8_itemAt_41 dX8_itemAt_44 hex (Nat.le_of_ble_eq_true rfl) (Nat.le_of_ble_eq_true rfl) (by show _ ≤ (1 : Nat); omega) (by show _ ≤ (6 : Nat); omega) hlocks (ia_I ezz1 p3 y4 p8) (by omega) (by omega)

