set_option maxHeartbeats 4000000 in
set_option maxRecDepth 100000 in
theorem c_X8_row (l : Launch) (D : va_G) (tc : Nat → ClassId) (base : Nat) (ad : Nat → Int → Nat) (cnt : Nat → Int) (X : Nat → Int → Int → Int) (Y : Nat → Int → Int → Option Int) (ln : Int → Int) (hR : Rng X) (hFx : Fx cnt) (hLn : LnOK ln) (hCI : CInv cnt X Y ln) (hOw : Own cnt) (hN : 0 ≤ cnt 25 ∧ 0 ≤ cnt 26) (x k n : Int) (hx : -2147483648 ≤ x ∧ x ≤ 2147483647) (hk : -2147483648 ≤ k ∧ k ≤ 2147483647) (hn : -2147483648 ≤ n ∧ n ≤ 2147483647) : KI l D tc base yX8_row wsX8_row ({ frames := 4, cells := 2, slots := 14, locals := 91 } : Room) [.ref (ad 0 0), .int (jI x), .int (jI k), .int (jI n)] (ad, cnt, X, Y, ln) 2 14 (fun z u => ∃ (ad1 : Nat → Int → Nat) (cnt1 : Nat → Int) (X1 : Nat → Int → Int → Int) (Y1 : Nat → Int → Int → Option Int) (ln1 : Int → Int), u = (ad1, cnt1, X1, Y1, ln1) ∧ Ext ad cnt ln ad1 cnt1 ln1 ∧ Fx cnt1 ∧ Own cnt1 ∧ LnOK ln1 ∧ Rng X1 ∧ Frm [2802, 2803, 2902, 2602, 2700] X X1 ∧ Frm [2801, 2804, 1700] Y Y1 ∧ CInv cnt1 X1 Y1 ln1 ∧ (-2147483648 ≤ z ∧ z ≤ 2147483647)) := by
  refine K_of (cc := cX8_row) (maxL := 5) (ret := (some .int)) (by decide) rfl (Nat.le_of_ble_eq_true rfl) ?_
  intro p e s m below meth c ls hx hb hr hml hown hts hlocks hl hK hw hS
  have hown : s.vm.findClass RX8 = some m.cls := hown
  have hbs : base ≤ s.heap.size := wd_size hw
  obtain ⟨av9, hav9⟩ : ∃ a9 : Array Value, a9 = ([.ref (ad 0 0), .int (jI x), .int (jI k), .int (jI n)] : List Value).toArray := ⟨_, rfl⟩
  rw [← hav9] at hts ⊢
  obtain ⟨Q9, hQ9⟩ : ∃ q : State → Prop, q = MQ below (QI D tc base (fun z u => ∃ (ad1 : Nat → Int → Nat) (cnt1 : Nat → Int) (X1 : Nat → Int → Int → Int) (Y1 : Nat → Int → Int → Option Int) (ln1 : Int → Int), u = (ad1, cnt1, X1, Y1, ln1) ∧ Ext ad cnt ln ad1 cnt1 ln1 ∧ Fx cnt1 ∧ Own cnt1 ∧ LnOK ln1 ∧ Rng X1 ∧ Frm [2802, 2803, 2902, 2602, 2700] X X1 ∧ Frm [2801, 2804, 1700] Y Y1 ∧ CInv cnt1 X1 Y1 ln1 ∧ (-2147483648 ≤ z ∧ z ≤ 2147483647))) av9 s 2 14 (frA base) := ⟨_, rfl⟩
  rw [← hQ9]
  obtain ⟨ad0, ha0⟩ : ∃ a, a = ad := ⟨_, rfl⟩
  obtain ⟨cnt0, hc0⟩ : ∃ a, a = cnt := ⟨_, rfl⟩
  obtain ⟨ln0, hl0⟩ : ∃ a, a = ln := ⟨_, rfl⟩
  have hE9 : ∀ a c n, Ext ad0 cnt0 ln0 a c n → Ext ad cnt ln a c n := by rw [ha0, hc0, hl0]; exact fun _ _ _ h => h
  have hE : Ext ad0 cnt0 ln0 ad cnt ln := by rw [ha0, hc0, hl0]; exact Ext.rf
  clear ha0 hc0 hl0
  have hi5 : ∀ w ∈ wsX50, w ∈ wsX8_row := fun w h => List.mem_cons_of_mem _ (List.mem_append_left _ (List.mem_append_left _ (List.mem_append_left _ (List.mem_append_right _ h))))
  have hf5 : fctx s m _ RX8 wsX8_row D tc RX5 TX5 2 5 := ⟨hts, hi5, hown, hK.1, rfl⟩
  have hi6 : ∀ w ∈ wsX60, w ∈ wsX8_row := fun w h => List.mem_cons_of_mem _ (List.mem_append_left _ (List.mem_append_left _ (List.mem_append_left _ (List.mem_append_left _ (List.mem_append_left _ (List.mem_append_right _ h))))))
  have hf6 : fctx s m _ RX8 wsX8_row D tc RX6 TX6 4 6 := ⟨hts, hi6, hown, hK.1, rfl⟩
  have hi7 : ∀ w ∈ wsX70, w ∈ wsX8_row := fun w h => List.mem_cons_of_mem _ (List.mem_append_left _ (List.mem_append_left _ (List.mem_append_left _ (List.mem_append_left _ (List.mem_append_right _ h)))))
  have hf7 : fctx s m _ RX8 wsX8_row D tc RX7 TX7 8 7 := ⟨hts, hi7, hown, hK.1, rfl⟩
  have lk97 := hts (.fieldLink RX8 97 "StateRecords$Thing" "type" "LStateRecords$Type;") (by decide +kernel)
  have lk135 := hts (.fieldLink RX8 135 "StateRecords$Type" "lanes" "[I") (by decide +kernel)
  have hc0 : cnt 0 = 1 := hFx.at 0 1 (by decide)
  have hc15 : cnt 15 = 30 := hFx.at 15 30 (by decide)
  have hc21 : cnt 21 = cnt 19 := hFx.2.1 21 (by decide)
  have hc27 : cnt 27 = cnt 26 := hFx.2.2
  have hl : lv_has ls 5 [(0, .ref (ad 0 0)), (1, .int (jI x)), (2, .int (jI k)), (3, .int (jI n))] := hl
  have ftc : 0 ≤ X 0 0 3 ∧ X 0 0 3 ≤ 30 := hR 0 0 3
  have fty : 0 ≤ X 0 0 1 ∧ X 0 0 1 ≤ 8 := hR 0 0 1
  have hct : cnt 19 = X 0 0 1 := hCI.2.2.2.1.1
  have hfj : 0 ≤ X 29 0 3 ∧ X 29 0 3 ≤ 4 := hR 29 0 3
  have hfn : 0 ≤ X 29 0 1 ∧ X 29 0 1 ≤ 80 := hR 29 0 1
  refine lv_aload_n hx hb dX8_row_0 rfl (lv_at hl 0 rfl) ?_
  refine lv_iload_n hx hb dX8_row_1 rfl (lv_at hl 1 rfl) ?_
  refine lv_iload_n hx hb dX8_row_2 rfl (lv_at hl 2 rfl) ?_
  refine gos_r (run_V (As := [.int (jI x), .int (jI k)]) (rest := []) hx hb hml hown hts (c_X8_thingWithField l D tc base ad cnt X Y ln hR hFx hLn hCI x k (by omega) (by omega)) (cwV 2 hts gX8_row_X8_thingWithField rfl rfl rfl (by decide +kernel) ⟨Nat.le_of_ble_eq_true rfl, Nat.le_of_ble_eq_true rfl⟩) hK hw (by omega) (by omega) sl_0_0 rfl rfl hl.1 rfl (Nat.le_of_ble_eq_true rfl) dX8_row_3 ⟨(by show _ ≤ (2 : Nat); omega), (by show _ ≤ (14 : Nat); omega)⟩) hS (fun u2 H locs p3 hw hS => ?_) (fun z1 u2 H locs p3 hw hS => ?_)
  · obtain ⟨eu2, hsp3, hnp3⟩ := p3
    subst eu2
    refine lv_astoreN (lv' := [(4, .null), (0, .ref (ad 0 0)), (1, .int (jI x)), (2, .int (jI k)), (3, .int (jI n))]) hx hb dX8_row_6 hl (by decide) rfl (fun ls hl => ?_)
    refine lv_aloadN hx hb dX8_row_8 (lv_at hl 0 rfl) ?_
    refine lv_ifnonnullN hx hb dX8_row_10 ?_
    refine lv_iconst (v := jI (-1)) hx hb dX8_row_13 rfl ?_
    rw [hQ9]
    refine ret_i (mc := 2) (ms := 14) hx hb hr hlocks hw hS (by omega) (by omega) dX8_row_14 ?_
    exact ⟨ad, cnt, X, Y, ln, rfl, hE9 _ _ _ hE, hFx, hOw, hLn, hR, Frm.rf, Frm.rf, hCI, by omega⟩
  · obtain ⟨eu2, hsp3, hnp3⟩ := p3
    subst eu2
    obtain ⟨ezz1, p3, h1p3, h2p3, h3p3, h4p3, h5p3⟩ := hsp3 z1 rfl
    refine lv_astore (lv' := [(4, .ref (ad 15 z1)), (0, .ref (ad 0 0)), (1, .int (jI x)), (2, .int (jI k)), (3, .int (jI n))]) hx hb dX8_row_6 hl (by decide) rfl (fun ls hl => ?_)
    refine lv_aload hx hb dX8_row_8 (lv_at hl 0 rfl) ?_
    refine lv_ifnonnull (tgt := 15) hx hb dX8_row_10 (by decide) ?_
    refine lv_iload_n hx hb dX8_row_15 rfl (lv_at hl 4 rfl) ?_
    refine lv_bipush (v := jI 12) hx hb dX8_row_16 (by decide) ?_
    refine x_icmp_le (tgt := 24) hx hb (by omega) (by omega) dX8_row_18 (by decide) (fun c4 => ?_) (fun c4 => ?_)
    · refine lv_aload hx hb dX8_row_24 (lv_at hl 0 rfl) ?_
      refine x_getr (jz := 0) hx hb hf6 hw (by omega) (by omega) sl_15_0 rfl lk97 dX8_row_26 (fun y5 => ?_) (fun r6 y5 gr6 lr6 => ?_)
      · exfalso
        exact absurd y5 (hCI.2.2.2.2.1 z1 (by omega) (by omega))
      · refine x_geto hx hb hf7 hw (by omega) (by omega) sl_19_3 lk135 dX8_row_29 ?_
        refine lv_iload_n hx hb dX8_row_32 rfl (lv_at hl 3 rfl) ?_
        refine x_iald hx hb hK.1 hw (by omega) (by omega) ar_21 (len_E ar_21 (by decide)) (by omega) (by omega) (by omega) dX8_row_33 ?_
        have f7 : 0 ≤ X 21 r6 k ∧ X 21 r6 k ≤ 5 := hR 21 r6 k
        refine gos_i (run_S (As := [.int (jI (X 21 r6 k))]) (rest := []) hx hb hml hown hts (c_X8_isRowLane l D tc base ad cnt X Y ln (X 21 r6 k) (by omega)) (cwS 1 hts gX8_row_X8_isRowLane rfl rfl rfl (by decide +kernel) ⟨Nat.le_of_ble_eq_true rfl, Nat.le_of_ble_eq_true rfl⟩) hK hw rfl hl.1 rfl (Nat.le_of_ble_eq_true rfl) dX8_row_34 ⟨(by show _ ≤ (2 : Nat); omega), (by show _ ≤ (14 : Nat); omega)⟩) hS (fun z8 u9 H locs p10 hw hS => ?_)
        obtain ⟨eu9, p10⟩ := p10
        subst eu9
        rcases p10 with ⟨ez8, p10⟩ | ⟨ez8, p10⟩
        · subst ez8
          refine x_if_neT (tgt := 45) hx hb (by omega) (by decide) dX8_row_37 (by decide) ?_
          refine lv_iload_n hx hb dX8_row_45 rfl (lv_at hl 4 rfl) ?_
          refine lv_iconst (v := jI (-1)) hx hb dX8_row_46 rfl ?_
          refine x_icmp_ge (tgt := 55) hx hb (by omega) (by omega) dX8_row_47 (by decide) (fun c11 => ?_) (fun c11 => ?_)
          · refine lv_aload_n hx hb dX8_row_55 rfl (lv_at hl 1 rfl) ?_
            refine lv_aload hx hb dX8_row_56 (lv_at hl 0 rfl) ?_
            refine lv_iload_n hx hb dX8_row_58 rfl (lv_at hl 3 rfl) ?_
            refine lv_iload_n hx hb dX8_row_59 rfl (lv_at hl 4 rfl) ?_
            refine lv_iconst (v := jI (-1)) hx hb dX8_row_60 rfl ?_
            refine x_icmp_ne (tgt := 68) hx hb (by omega) (by omega) dX8_row_61 (by decide) (fun c12 => ?_) (fun c12 => ?_)
            · refine g_new (E := []) (G := []) (ci := 5) (fs := [.null, .int 0]) hx hb hf5 ⟨tyX5_ok, nmX5⟩ (hts (.classLink RX8 42 RX5) (by decide +kernel)) (hts (.instantiable RX5 2) (by decide +kernel)) (hts (.initialized RX5) (by decide +kernel)) (wx_of hw) hS hbs (fun j hj => by rcases (show j = 0 ∨ j = 1 by omega) with rfl | rfl <;> rfl) (by show _ ≤ (2 : Nat); omega) (by show _ ≤ (14 : Nat); omega) dX8_row_68 (fun q13 H hwx hS => ?_)
              have hwx : wx D tc base (ad, cnt, X, Y, ln) ([] ++ [(q13, .inr (5, [.null, .int 0]))]) H := hwx
              have hw := wx_wd hwx
              refine lv_dup hx hb dX8_row_71 rfl ?_
              refine lv_iload_n hx hb dX8_row_72 rfl (lv_at hl 4 rfl) ?_
              refine gos_x (run_I (As := [.int (jI n)]) (rest := [.ref q13, .int (jI k), .ref (ad 15 z1), .ref (ad 0 0)]) hx hb hml hown hts (c_X5_init l D tc base (ad, cnt, X, Y, ln) [] q13 n (by omega)) (cwI 1 hts gX8_row_X5_init rfl rfl rfl (hts (.initialized RX5) (by decide +kernel)) (hts (.methodLink RX8 153 yX5_init) (by decide +kernel)) (hts (.instanceMethod yX5_init) (by decide +kernel)) rfl (by decide +kernel) ⟨Nat.le_of_ble_eq_true rfl, Nat.le_of_ble_eq_true rfl⟩) hK hwx rfl hl.1 rfl (Nat.le_of_ble_eq_true rfl) dX8_row_73 ⟨by show _ ≤ (2 : Nat); omega, by show _ ≤ (14 : Nat); omega⟩) hS (fun u9 E14 H locs p15 hwx hS => ?_)
              obtain ⟨g16, hg16⟩ : ∃ g, g = cnt 26 := ⟨_, rfl⟩
              obtain ⟨rfl, q20, rfl⟩ := p15
              have hwx := (show wx D tc base (ad, cnt, X, Y, ln) ([] ++ _) H from hwx)
              obtain ⟨ad, cnt, X17, ln, hw, hE18, hFx, hOw, hLn, hRX17, hG19, hCIX17, hkg16, hag16, hlng16⟩ := born_row hwx (by omega) hFx hOw (by omega) hR hLn hCI
              rw [← hg16] at hkg16 hag16 hlng16
              have hFX17 : Frm [2802, 2803, 2902, 2602, 2700] X X17 := Frm.tr Frm.rf (Frm.mono hG19 (by decide))
              have hE := Ext.tr hE hE18
              have hm21 := hE18.2.1 19
              have hm22 := hE18.2.1 25
              have hm23 := hE18.2.1 26
              have hN : 0 ≤ cnt 25 ∧ 0 ≤ cnt 26 := by omega
              have ha24 := hE18.1 15 z1 (by omega) (by omega)
              have ha25 := hE18.1 0 0 (by omega) (by omega)
              have hc0 : cnt 0 = 1 := hFx.at 0 1 (by decide)
              have hc15 : cnt 15 = 30 := hFx.at 15 30 (by decide)
              have hc21 : cnt 21 = cnt 19 := hFx.2.1 21 (by decide)
              have hc27 : cnt 27 = cnt 26 := hFx.2.2
              have hl : lv_has ls 5 [(4, .ref (ad 15 z1)), (0, .ref (ad 0 0)), (1, .int (jI x)), (2, .int (jI k)), (3, .int (jI n))] := by rw [ha24, ha25]; exact hl
              refine W.eq (g2 := F0 m 76 ls [.ref (ad 26 g16), .int (jI k), .ref (ad 15 z1), .ref (ad 0 0)]) (by first | rfl | (rw [ha24, ha25, hag16]; done) | (rw [ha24, ha25, hag16]; rfl)) ?_
              refine gos_i (run_V (As := [.ref (ad 15 z1), .int (jI k), .ref (ad 26 g16)]) (rest := []) hx hb hml hown hts (c_X8_changeRow_r l D tc base ad cnt X17 Y ln hRX17 hFx hLn hCIX17 z1 k g16 (by omega) (by omega) (by omega)) (cwV 3 hts gX8_row_X8_changeRow rfl rfl rfl (by decide +kernel) ⟨Nat.le_of_ble_eq_true rfl, Nat.le_of_ble_eq_true rfl⟩) hK hw (by omega) (by omega) sl_0_0 rfl rfl hl.1 rfl (Nat.le_of_ble_eq_true rfl) dX8_row_76 ⟨(by show _ ≤ (2 : Nat); omega), (by show _ ≤ (14 : Nat); omega)⟩) hS (fun z26 u27 H locs p28 hw hS => ?_)
              obtain ⟨X29, Y30, eu27, hRX29, hG31, hJ32, hCIX29, p28⟩ := p28
              subst eu27
              have hFX29 : Frm [2802, 2803, 2902, 2602, 2700] X X29 := Frm.tr hFX17 (Frm.mono hG31 (by decide))
              have hHY30 : Frm [2801, 2804, 1700] Y Y30 := Frm.tr Frm.rf (Frm.mono hJ32 (by decide))
              rw [hQ9]
              refine ret_i (mc := 2) (ms := 14) hx hb hr hlocks hw hS (by omega) (by omega) dX8_row_79 ?_
              exact ⟨ad, cnt, X29, Y30, ln, rfl, hE9 _ _ _ hE, hFx, hOw, hLn, hRX29, hFX29, hHY30, hCIX29, by omega⟩
            · refine lv_null hx hb dX8_row_64 ?_
              refine lv_goto (tgt := 76) hx hb dX8_row_65 (by decide) ?_
              refine gos_i (run_V (As := [.ref (ad 15 z1), .int (jI k), .null]) (rest := []) hx hb hml hown hts (c_X8_changeRow_n l D tc base ad cnt X Y ln hR hFx hLn hCI z1 k (by omega) (by omega)) (cwV 3 hts gX8_row_X8_changeRow rfl rfl rfl (by decide +kernel) ⟨Nat.le_of_ble_eq_true rfl, Nat.le_of_ble_eq_true rfl⟩) hK hw (by omega) (by omega) sl_0_0 rfl rfl hl.1 rfl (Nat.le_of_ble_eq_true rfl) dX8_row_76 ⟨(by show _ ≤ (2 : Nat); omega), (by show _ ≤ (14 : Nat); omega)⟩) hS (fun z33 u34 H locs p35 hw hS => ?_)
              obtain ⟨X36, Y37, eu34, hRX36, hG38, hJ39, hCIX36, p35⟩ := p35
              subst eu34
              have hFX36 : Frm [2802, 2803, 2902, 2602, 2700] X X36 := Frm.tr Frm.rf (Frm.mono hG38 (by decide))
              have hHY37 : Frm [2801, 2804, 1700] Y Y37 := Frm.tr Frm.rf (Frm.mono hJ39 (by decide))
              rw [hQ9]
              refine ret_i (mc := 2) (ms := 14) hx hb hr hlocks hw hS (by omega) (by omega) dX8_row_79 ?_
              exact ⟨ad, cnt, X36, Y37, ln, rfl, hE9 _ _ _ hE, hFx, hOw, hLn, hRX36, hFX36, hHY37, hCIX36, by omega⟩
          · refine lv_iconst (v := jI 3) hx hb dX8_row_50 rfl ?_
            refine gos_i (run_S (As := [.int (jI 3)]) (rest := []) hx hb hml hown hts (c_X8_failed l D tc base ad cnt X Y ln 3 (by omega)) (cwS 1 hts gX8_row_X8_failed rfl rfl rfl (by decide +kernel) ⟨Nat.le_of_ble_eq_true rfl, Nat.le_of_ble_eq_true rfl⟩) hK hw rfl hl.1 rfl (Nat.le_of_ble_eq_true rfl) dX8_row_51 ⟨(by show _ ≤ (2 : Nat); omega), (by show _ ≤ (14 : Nat); omega)⟩) hS (fun z40 u41 H locs p42 hw hS => ?_)
            obtain ⟨eu41, p42⟩ := p42
            subst eu41
            rw [hQ9]
            refine ret_i (mc := 2) (ms := 14) hx hb hr hlocks hw hS (by omega) (by omega) dX8_row_54 ?_
            exact ⟨ad, cnt, X, Y, ln, rfl, hE9 _ _ _ hE, hFx, hOw, hLn, hR, Frm.rf, Frm.rf, hCI, by omega⟩
        · subst ez8
          refine x_if_neF (tgt := 45) hx hb (by omega) (by decide) dX8_row_37 (by decide) ?_
          refine lv_iconst (v := jI 4) hx hb dX8_row_40 rfl ?_
          refine gos_i (run_S (As := [.int (jI 4)]) (rest := []) hx hb hml hown hts (c_X8_failed l D tc base ad cnt X Y ln 4 (by omega)) (cwS 1 hts gX8_row_X8_failed rfl rfl rfl (by decide +kernel) ⟨Nat.le_of_ble_eq_true rfl, Nat.le_of_ble_eq_true rfl⟩) hK hw rfl hl.1 rfl (Nat.le_of_ble_eq_true rfl) dX8_row_41 ⟨(by show _ ≤ (2 : Nat); omega), (by show _ ≤ (14 : Nat); omega)⟩) hS (fun z43 u44 H locs p45 hw hS => ?_)
          obtain ⟨eu44, p45⟩ := p45
          subst eu44
          rw [hQ9]
          refine ret_i (mc := 2) (ms := 14) hx hb hr hlocks hw hS (by omega) (by omega) dX8_row_44 ?_
          exact ⟨ad, cnt, X, Y, ln, rfl, hE9 _ _ _ hE, hFx, hOw, hLn, hR, Frm.rf, Frm.rf, hCI, by omega⟩
    · refine lv_bipush (v := jI (-2)) hx hb dX8_row_21 (by decide) ?_
      rw [hQ9]
      refine ret_i (mc := 2) (ms := 14) hx hb hr hlocks hw hS (by omega) (by omega) dX8_row_23 ?_
      exact ⟨ad, cnt, X, Y, ln, rfl, hE9 _ _ _ hE, hFx, hOw, hLn, hR, Frm.rf, Frm.rf, hCI, by omega⟩

set_option maxHeartbeats 4000000 in
set_option maxRecDepth 100000 in
theorem c_X8_check (l : Launch) (D : va_G) (tc : Nat → ClassId) (base : Nat) (ad : Nat → Int → Nat) (cnt : Nat → Int) (X : Nat → Int → Int → Int) (Y : Nat → Int → Int → Option Int) (ln : Int → Int) (hR : Rng X) (hFx : Fx cnt) (hLn : LnOK ln) (hCI : CInv cnt X Y ln) (hOw : Own cnt) (hN : 0 ≤ cnt 25 ∧ 0 ≤ cnt 26) (t kd a b v : Int) (ht : -2147483648 ≤ t ∧ t ≤ 2147483647) (hkd : -2147483648 ≤ kd ∧ kd ≤ 2147483647) (ha : -2147483648 ≤ a ∧ a ≤ 2147483647) (hb : -2147483648 ≤ b ∧ b ≤ 2147483647) (hv : -9223372036854775808 ≤ v ∧ v ≤ 9223372036854775807) : KI l D tc base yX8_check wsX8_check ({ frames := 2, cells := 1, slots := 4, locals := 42 } : Room) [.ref (ad 0 0), .int (jI t), .int (jI kd), .int (jI a), .int (jI b), .long (jL v)] (ad, cnt, X, Y, ln) 1 4 (fun z u => ∃ (ad1 : Nat → Int → Nat) (cnt1 : Nat → Int) (X1 : Nat → Int → Int → Int) (Y1 : Nat → Int → Int → Option Int) (ln1 : Int → Int), u = (ad1, cnt1, X1, Y1, ln1) ∧ Ext ad cnt ln ad1 cnt1 ln1 ∧ Fx cnt1 ∧ Own cnt1 ∧ LnOK ln1 ∧ Rng X1 ∧ Frm [2501, 2502, 2503, 2504, 1907] X X1 ∧ Frm [2400] Y Y1 ∧ CInv cnt1 X1 Y1 ln1 ∧ (-2147483648 ≤ z ∧ z ≤ 2147483647) ∧ ((¬ (0 ≤ t ∧ t < X 0 0 1) ∧ z = -1 ∧ X1 19 t 6 = X 19 t 6) ∨ (0 ≤ t ∧ t < X 0 0 1 ∧ ¬ (0 ≤ kd ∧ kd < 6 ∧ 0 ≤ a ∧ a < 5 ∧ 0 ≤ b ∧ b < 5) ∧ z = -2 ∧ X1 19 t 6 = X 19 t 6) ∨ (0 ≤ t ∧ t < X 0 0 1 ∧ (0 ≤ kd ∧ kd < 6 ∧ 0 ≤ a ∧ a < 5 ∧ 0 ≤ b ∧ b < 5) ∧ 4 ≤ X 19 t 6 ∧ z = -4 ∧ X1 19 t 6 = X 19 t 6) ∨ (0 ≤ t ∧ t < X 0 0 1 ∧ (0 ≤ kd ∧ kd < 6 ∧ 0 ≤ a ∧ a < 5 ∧ 0 ≤ b ∧ b < 5) ∧ X 19 t 6 ≤ 3 ∧ z = X 19 t 6 + 1 ∧ X1 19 t 6 = X 19 t 6 + 1)) ∧ ∀ y, y ≠ t → X1 19 y 6 = X 19 y 6) := by
  refine K_of (cc := cX8_check) (maxL := 8) (ret := (some .int)) (by decide) rfl (Nat.le_of_ble_eq_true rfl) ?_
  intro p e s m below meth c ls hx hb hr hml hown hts hlocks hl hK hw hS
  have hown : s.vm.findClass RX8 = some m.cls := hown
  have hbs : base ≤ s.heap.size := wd_size hw
  obtain ⟨av9, hav9⟩ : ∃ a9 : Array Value, a9 = ([.ref (ad 0 0), .int (jI t), .int (jI kd), .int (jI a), .int (jI b), .long (jL v)] : List Value).toArray := ⟨_, rfl⟩
  rw [← hav9] at hts ⊢
  obtain ⟨Q9, hQ9⟩ : ∃ q : State → Prop, q = MQ below (QI D tc base (fun z u => ∃ (ad1 : Nat → Int → Nat) (cnt1 : Nat → Int) (X1 : Nat → Int → Int → Int) (Y1 : Nat → Int → Int → Option Int) (ln1 : Int → Int), u = (ad1, cnt1, X1, Y1, ln1) ∧ Ext ad cnt ln ad1 cnt1 ln1 ∧ Fx cnt1 ∧ Own cnt1 ∧ LnOK ln1 ∧ Rng X1 ∧ Frm [2501, 2502, 2503, 2504, 1907] X X1 ∧ Frm [2400] Y Y1 ∧ CInv cnt1 X1 Y1 ln1 ∧ (-2147483648 ≤ z ∧ z ≤ 2147483647) ∧ ((¬ (0 ≤ t ∧ t < X 0 0 1) ∧ z = -1 ∧ X1 19 t 6 = X 19 t 6) ∨ (0 ≤ t ∧ t < X 0 0 1 ∧ ¬ (0 ≤ kd ∧ kd < 6 ∧ 0 ≤ a ∧ a < 5 ∧ 0 ≤ b ∧ b < 5) ∧ z = -2 ∧ X1 19 t 6 = X 19 t 6) ∨ (0 ≤ t ∧ t < X 0 0 1 ∧ (0 ≤ kd ∧ kd < 6 ∧ 0 ≤ a ∧ a < 5 ∧ 0 ≤ b ∧ b < 5) ∧ 4 ≤ X 19 t 6 ∧ z = -4 ∧ X1 19 t 6 = X 19 t 6) ∨ (0 ≤ t ∧ t < X 0 0 1 ∧ (0 ≤ kd ∧ kd < 6 ∧ 0 ≤ a ∧ a < 5 ∧ 0 ≤ b ∧ b < 5) ∧ X 19 t 6 ≤ 3 ∧ z = X 19 t 6 + 1 ∧ X1 19 t 6 = X 19 t 6 + 1)) ∧ ∀ y, y ≠ t → X1 19 y 6 = X 19 y 6)) av9 s 1 4 (frA base) := ⟨_, rfl⟩
  rw [← hQ9]
  obtain ⟨ad0, ha0⟩ : ∃ a, a = ad := ⟨_, rfl⟩
  obtain ⟨cnt0, hc0⟩ : ∃ a, a = cnt := ⟨_, rfl⟩
  obtain ⟨ln0, hl0⟩ : ∃ a, a = ln := ⟨_, rfl⟩
  have hE9 : ∀ a c n, Ext ad0 cnt0 ln0 a c n → Ext ad cnt ln a c n := by rw [ha0, hc0, hl0]; exact fun _ _ _ h => h
  have hE : Ext ad0 cnt0 ln0 ad cnt ln := by rw [ha0, hc0, hl0]; exact Ext.rf
  clear ha0 hc0 hl0
  have hi0 : ∀ w ∈ wsX00, w ∈ wsX8_check := fun w h => List.mem_cons_of_mem _ (List.mem_append_left _ (List.mem_append_right _ h))
  have hf0 : fctx s m _ RX8 wsX8_check D tc RX0 TX0 4 0 := ⟨hts, hi0, hown, hK.1, rfl⟩
  have hi7 : ∀ w ∈ wsX70, w ∈ wsX8_check := fun w h => List.mem_cons_of_mem _ (List.mem_append_left _ (List.mem_append_left _ (List.mem_append_right _ h)))
  have hf7 : fctx s m _ RX8 wsX8_check D tc RX7 TX7 8 7 := ⟨hts, hi7, hown, hK.1, rfl⟩
  have lk115 := hts (.fieldLink RX8 115 "StateRecords$Type" "checkCount" "I") (by decide +kernel)
  have lk118 := hts (.fieldLink RX8 118 "StateRecords$Type" "checks" "[LStateRecords$Check;") (by decide +kernel)
  have hc0 : cnt 0 = 1 := hFx.at 0 1 (by decide)
  have hc24 : cnt 24 = cnt 19 := hFx.2.1 24 (by decide)
  have hl : lv_has ls 8 [(0, .ref (ad 0 0)), (1, .int (jI t)), (2, .int (jI kd)), (3, .int (jI a)), (4, .int (jI b)), (5, .long (jL v))] := hl
  have ftc : 0 ≤ X 0 0 3 ∧ X 0 0 3 ≤ 30 := hR 0 0 3
  have fty : 0 ≤ X 0 0 1 ∧ X 0 0 1 ≤ 8 := hR 0 0 1
  have hct : cnt 19 = X 0 0 1 := hCI.2.2.2.1.1
  have hfj : 0 ≤ X 29 0 3 ∧ X 29 0 3 ≤ 4 := hR 29 0 3
  have hfn : 0 ≤ X 29 0 1 ∧ X 29 0 1 ≤ 80 := hR 29 0 1
  refine lv_aload_n hx hb dX8_check_0 rfl (lv_at hl 0 rfl) ?_
  refine lv_iload_n hx hb dX8_check_1 rfl (lv_at hl 1 rfl) ?_
  refine gos_r (run_V (As := [.int (jI t)]) (rest := []) hx hb hml hown hts (c_X8_typeNumbered l D tc base ad cnt X Y ln hR hFx hLn hCI t (by omega)) (cwV 1 hts gX8_check_X8_typeNumbered rfl rfl rfl (by decide +kernel) ⟨Nat.le_of_ble_eq_true rfl, Nat.le_of_ble_eq_true rfl⟩) hK hw (by omega) (by omega) sl_0_0 rfl rfl hl.1 rfl (Nat.le_of_ble_eq_true rfl) dX8_check_2 ⟨(by show _ ≤ (1 : Nat); omega), (by show _ ≤ (4 : Nat); omega)⟩) hS (fun u2 H locs p3 hw hS => ?_) (fun z1 u2 H locs p3 hw hS => ?_)
  · obtain ⟨eu2, hsp3, hnp3⟩ := p3
    subst eu2
    refine lv_astoreN (lv' := [(7, .null), (0, .ref (ad 0 0)), (1, .int (jI t)), (2, .int (jI kd)), (3, .int (jI a)), (4, .int (jI b)), (5, .long (jL v))]) hx hb dX8_check_5 hl (by decide) rfl (fun ls hl => ?_)
    refine lv_aloadN hx hb dX8_check_7 (lv_at hl 0 rfl) ?_
    refine lv_ifnonnullN hx hb dX8_check_9 ?_
    refine lv_iconst (v := jI (-1)) hx hb dX8_check_12 rfl ?_
    rw [hQ9]
    refine ret_i (mc := 1) (ms := 4) hx hb hr hlocks hw hS (by omega) (by omega) dX8_check_13 ?_
    exact ⟨ad, cnt, X, Y, ln, rfl, hE9 _ _ _ hE, hFx, hOw, hLn, hR, Frm.rf, Frm.rf, hCI, by omega, (by have h9n : ¬ (0 ≤ t ∧ t < X 0 0 1) := hnp3 rfl; exact Or.inl ⟨h9n, by omega, by omega⟩), fun y hy => (by rfl)⟩
  · obtain ⟨eu2, hsp3, hnp3⟩ := p3
    subst eu2
    obtain ⟨ezz1, p3⟩ := hsp3 z1 rfl
    refine lv_astore (lv' := [(7, .ref (ad 19 z1)), (0, .ref (ad 0 0)), (1, .int (jI t)), (2, .int (jI kd)), (3, .int (jI a)), (4, .int (jI b)), (5, .long (jL v))]) hx hb dX8_check_5 hl (by decide) rfl (fun ls hl => ?_)
    refine lv_aload hx hb dX8_check_7 (lv_at hl 0 rfl) ?_
    refine lv_ifnonnull (tgt := 14) hx hb dX8_check_9 (by decide) ?_
    refine lv_iload_n hx hb dX8_check_14 rfl (lv_at hl 3 rfl) ?_
    refine lv_bipush (v := jI 6) hx hb dX8_check_15 (by decide) ?_
    refine gos_i (run_S (As := [.int (jI kd), .int (jI 6)]) (rest := []) hx hb hml hown hts (c_X8_isBelow l D tc base ad cnt X Y ln kd 6 (by omega) (by omega)) (cwS 2 hts gX8_check_X8_isBelow rfl rfl rfl (by decide +kernel) ⟨Nat.le_of_ble_eq_true rfl, Nat.le_of_ble_eq_true rfl⟩) hK hw rfl hl.1 rfl (Nat.le_of_ble_eq_true rfl) dX8_check_17 ⟨(by show _ ≤ (1 : Nat); omega), (by show _ ≤ (4 : Nat); omega)⟩) hS (fun z4 u5 H locs p6 hw hS => ?_)
    obtain ⟨eu5, p6⟩ := p6
    subst eu5
    rcases p6 with ⟨ez4, p6⟩ | ⟨ez4, p6⟩
    · subst ez4
      refine x_if_eqF (tgt := 40) hx hb (by omega) (by decide) dX8_check_20 (by decide) ?_
      refine lv_iload_n hx hb dX8_check_23 rfl (lv_at hl 4 rfl) ?_
      refine lv_iconst (v := jI 5) hx hb dX8_check_24 rfl ?_
      refine gos_i (run_S (As := [.int (jI a), .int (jI 5)]) (rest := []) hx hb hml hown hts (c_X8_isBelow l D tc base ad cnt X Y ln a 5 (by omega) (by omega)) (cwS 2 hts gX8_check_X8_isBelow rfl rfl rfl (by decide +kernel) ⟨Nat.le_of_ble_eq_true rfl, Nat.le_of_ble_eq_true rfl⟩) hK hw rfl hl.1 rfl (Nat.le_of_ble_eq_true rfl) dX8_check_25 ⟨(by show _ ≤ (1 : Nat); omega), (by show _ ≤ (4 : Nat); omega)⟩) hS (fun z7 u8 H locs p9 hw hS => ?_)
      obtain ⟨eu8, p9⟩ := p9
      subst eu8
      rcases p9 with ⟨ez7, p9⟩ | ⟨ez7, p9⟩
      · subst ez7
        refine x_if_eqF (tgt := 40) hx hb (by omega) (by decide) dX8_check_28 (by decide) ?_
        refine lv_iload hx hb dX8_check_31 (lv_at hl 5 rfl) ?_
        refine lv_iconst (v := jI 5) hx hb dX8_check_33 rfl ?_
        refine gos_i (run_S (As := [.int (jI b), .int (jI 5)]) (rest := []) hx hb hml hown hts (c_X8_isBelow l D tc base ad cnt X Y ln b 5 (by omega) (by omega)) (cwS 2 hts gX8_check_X8_isBelow rfl rfl rfl (by decide +kernel) ⟨Nat.le_of_ble_eq_true rfl, Nat.le_of_ble_eq_true rfl⟩) hK hw rfl hl.1 rfl (Nat.le_of_ble_eq_true rfl) dX8_check_34 ⟨(by show _ ≤ (1 : Nat); omega), (by show _ ≤ (4 : Nat); omega)⟩) hS (fun z10 u11 H locs p12 hw hS => ?_)
        obtain ⟨eu11, p12⟩ := p12
        subst eu11
        rcases p12 with ⟨ez10, p12⟩ | ⟨ez10, p12⟩
        · subst ez10
          refine x_if_neT (tgt := 43) hx hb (by omega) (by decide) dX8_check_37 (by decide) ?_
          refine lv_aload hx hb dX8_check_43 (lv_at hl 0 rfl) ?_
          refine x_geti (jz := 6) hx hb hf7 hw (by omega) (by omega) sl_19_6 rfl lk115 dX8_check_45 ?_
          have f13 : 0 ≤ X 19 z1 6 ∧ X 19 z1 6 ≤ 4 := hR 19 z1 6
          refine lv_iconst (v := jI 4) hx hb dX8_check_48 rfl ?_
          refine x_icmp_lt (tgt := 55) hx hb (by omega) (by omega) dX8_check_49 (by decide) (fun c14 => ?_) (fun c14 => ?_)
          · refine lv_aload hx hb dX8_check_55 (lv_at hl 0 rfl) ?_
            refine x_geto hx hb hf7 hw (by omega) (by omega) sl_19_7 lk118 dX8_check_57 ?_
            refine lv_aload hx hb dX8_check_60 (lv_at hl 0 rfl) ?_
            refine x_geti (jz := 6) hx hb hf7 hw (by omega) (by omega) sl_19_6 rfl lk115 dX8_check_62 ?_
            have f15 : 0 ≤ X 19 z1 6 ∧ X 19 z1 6 ≤ 4 := hR 19 z1 6
            refine g_new (E := []) (G := []) (ci := 0) (fs := [.int 0, .int 0, .int 0, .long 0]) hx hb hf0 ⟨tyX0_ok, nmX0⟩ (hts (.classLink RX8 122 RX0) (by decide +kernel)) (hts (.instantiable RX0 4) (by decide +kernel)) (hts (.initialized RX0) (by decide +kernel)) (wx_of hw) hS hbs (fun j hj => by rcases (show j = 0 ∨ j = 1 ∨ j = 2 ∨ j = 3 by omega) with rfl | rfl | rfl | rfl <;> rfl) (by show _ ≤ (1 : Nat); omega) (by show _ ≤ (4 : Nat); omega) dX8_check_65 (fun q16 H hwx hS => ?_)
            have hwx : wx D tc base (ad, cnt, X, Y, ln) ([] ++ [(q16, .inr (0, [.int 0, .int 0, .int 0, .long 0]))]) H := hwx
            have hw := wx_wd hwx
            refine lv_dup hx hb dX8_check_68 rfl ?_
            refine lv_iload_n hx hb dX8_check_69 rfl (lv_at hl 3 rfl) ?_
            refine lv_iload_n hx hb dX8_check_70 rfl (lv_at hl 4 rfl) ?_
            refine lv_iload hx hb dX8_check_71 (lv_at hl 5 rfl) ?_
            refine lv_lload hx hb dX8_check_73 (lv_at hl 6 rfl) ?_
            refine gos_x (run_I (As := [.int (jI kd), .int (jI a), .int (jI b), .long (jL v)]) (rest := [.ref q16, .int (jI (X 19 z1 6)), .ref (ad 24 z1)]) hx hb hml hown hts (c_X0_init l D tc base (ad, cnt, X, Y, ln) [] q16 kd a b v) (cwI 4 hts gX8_check_X0_init rfl rfl rfl (hts (.initialized RX0) (by decide +kernel)) (hts (.methodLink RX8 124 yX0_init) (by decide +kernel)) (hts (.instanceMethod yX0_init) (by decide +kernel)) rfl (by decide +kernel) ⟨Nat.le_of_ble_eq_true rfl, Nat.le_of_ble_eq_true rfl⟩) hK hwx rfl hl.1 rfl (Nat.le_of_ble_eq_true rfl) dX8_check_75 ⟨by show _ ≤ (1 : Nat); omega, by show _ ≤ (4 : Nat); omega⟩) hS (fun u9 E17 H locs p18 hwx hS => ?_)
            obtain ⟨g19, hg19⟩ : ∃ g, g = cnt 25 := ⟨_, rfl⟩
            obtain ⟨rfl, rfl⟩ := p18
            have hwx := (show wx D tc base (ad, cnt, X, Y, ln) ([] ++ _) H from hwx)
            obtain ⟨ad, cnt, X20, ln, hw, hE21, hFx, hOw, hLn, hRX20, hG22, hCIX20, hkg19, hag19⟩ := born_check hwx (by omega) (by omega) (by omega) (by omega) hFx hOw (by omega) hR hLn hCI
            rw [← hg19] at hkg19 hag19
            have hFX20 : Frm [2501, 2502, 2503, 2504, 1907] X X20 := Frm.tr Frm.rf (Frm.mono hG22 (by decide))
            have hE := Ext.tr hE hE21
            have hm23 := hE21.2.1 19
            have hm24 := hE21.2.1 25
            have hm25 := hE21.2.1 26
            have hN : 0 ≤ cnt 25 ∧ 0 ≤ cnt 26 := by omega
            have ha26 := hE21.1 19 z1 (by omega) (by omega)
            have ha27 := hE21.1 0 0 (by omega) (by omega)
            have ha28 := hE21.1 24 z1 (by omega) (by omega)
            have hc0 : cnt 0 = 1 := hFx.at 0 1 (by decide)
            have hc24 : cnt 24 = cnt 19 := hFx.2.1 24 (by decide)
            have hl : lv_has ls 8 [(7, .ref (ad 19 z1)), (0, .ref (ad 0 0)), (1, .int (jI t)), (2, .int (jI kd)), (3, .int (jI a)), (4, .int (jI b)), (5, .long (jL v))] := by rw [ha26, ha27]; exact hl
            refine W.eq (g2 := F0 m 78 ls [.ref (ad 25 g19), .int (jI (X 19 z1 6)), .ref (ad 24 z1)]) (by first | rfl | (rw [ha28, hag19]; done) | (rw [ha28, hag19]; rfl)) ?_
            refine x_aast hx hb hK.1 hw hS (by omega) (by omega) ar_24 rfl rfl sl_25_0 (len_E ar_24 (by decide)) (by omega) (by omega) (by omega) (by omega) (by omega) dX8_check_78 (fun H locs hw hS => ?_)
            obtain ⟨Y29, hY29⟩ : ∃ Yq, Yq = u3 Y 24 z1 (X 19 z1 6) (some g19) := ⟨_, rfl⟩
            rw [← hY29] at hw
            have hVY29 : Y29 24 z1 (X 19 z1 6) = (some g19) := by rw [hY29]; exact u3_s _ _ _ _ _
            have hHY29 : Frm [2400] Y Y29 := by rw [hY29]; exact Frm.set Frm.rf (show 2400 ∈ [2400] by decide)
            refine lv_aload hx hb dX8_check_79 (lv_at hl 0 rfl) ?_
            refine lv_dup hx hb dX8_check_81 rfl ?_
            refine x_geti (jz := 6) hx hb hf7 hw (by omega) (by omega) sl_19_6 rfl lk115 dX8_check_82 ?_
            have e30 : X20 19 z1 6 = X 19 z1 6 := by rw [hG22 19 z1 6 (show 1907 ∉ [2501, 2502, 2503, 2504] by decide)]
            rw [e30]
            have f31 : 0 ≤ X 19 z1 6 ∧ X 19 z1 6 ≤ 4 := hR 19 z1 6
            refine lv_iconst (v := jI 1) hx hb dX8_check_85 rfl ?_
            refine x_iadd hx hb dX8_check_86 ?_
            refine x_puti (jz := 6) hx hb hf7 ⟨tyX7_ok, nmX7⟩ hw hS (by omega) (by omega) sl_19_6 rfl lk115 rfl (tyX7_ok 6 (by decide)) rfl rfl dX8_check_87 (fun H locs hw hS => ?_)
            obtain ⟨X32, hX32⟩ : ∃ Xq, Xq = u3 X20 19 z1 6 ((X 19 z1 6) + 1) := ⟨_, rfl⟩
            rw [← hX32] at hw
            have hRX32 : Rng X32 := by rw [hX32]; exact rng_set hRX20 (show 0 ≤ ((X 19 z1 6) + 1) ∧ ((X 19 z1 6) + 1) ≤ 4 by omega)
            have hVX32 : X32 19 z1 6 = ((X 19 z1 6) + 1) := by rw [hX32]; exact u3_s _ _ _ _ _
            have hFX32 : Frm [2501, 2502, 2503, 2504, 1907] X X32 := by rw [hX32]; exact Frm.set hFX20 (show 1907 ∈ [2501, 2502, 2503, 2504, 1907] by decide)
            refine lv_aload hx hb dX8_check_90 (lv_at hl 0 rfl) ?_
            refine x_geti (jz := 6) hx hb hf7 hw (by omega) (by omega) sl_19_6 rfl lk115 dX8_check_92 ?_
            rw [hVX32]
            rw [hQ9]
            refine ret_i (mc := 1) (ms := 4) hx hb hr hlocks hw hS (by omega) (by omega) dX8_check_95 ?_
            have e33 : X20 19 z1 6 = X 19 z1 6 := (by rw [hG22 19 z1 6 (show 1907 ∉ [2501, 2502, 2503, 2504] by decide)])
            have q34 : Frm [1907] X20 X32 := by rw [hX32]; exact Frm.set Frm.rf (show 1907 ∈ [1907] by decide)
            have q35 : Frm [2400] Y Y29 := by rw [hY29]; exact Frm.set Frm.rf (show 2400 ∈ [2400] by decide)
            exact ⟨ad, cnt, X32, Y29, ln, rfl, hE9 _ _ _ hE, hFx, hOw, hLn, hRX32, hFX32, hHY29, cinv_checks (q := z1) hCIX20 q34 q35 (fun i hi => (by rw [hX32, u3_ij (by omega)])) (fun i j h => by rw [hY29, u3_ij (fun w => h ⟨w.1, by rw [w.2, e33]; exact Int.le_refl _⟩)]) (fun j a b c => by rw [hVX32] at b; rw [e33] at c; rw [show j = X 19 z1 6 by omega, hVY29]; exact fun q => by cases q), by omega, (by rw [← ezz1]; exact Or.inr (Or.inr (Or.inr (⟨by omega, by omega, (by (try delta Hid at *); omega), by omega, by omega, by omega⟩)))), fun y hy => (by rw [hX32, u3_ij (by omega), hG22 19 y 6 (show 1907 ∉ [2501, 2502, 2503, 2504] by decide)])⟩
          · refine lv_bipush (v := jI (-4)) hx hb dX8_check_52 (by decide) ?_
            rw [hQ9]
            refine ret_i (mc := 1) (ms := 4) hx hb hr hlocks hw hS (by omega) (by omega) dX8_check_54 ?_
            exact ⟨ad, cnt, X, Y, ln, rfl, hE9 _ _ _ hE, hFx, hOw, hLn, hR, Frm.rf, Frm.rf, hCI, by omega, (by rw [← ezz1]; exact Or.inr (Or.inr (Or.inl ⟨by omega, by omega, (by (try delta Hid at *); omega), by omega, by omega, by omega⟩))), fun y hy => (by rfl)⟩
        · subst ez10
          refine x_if_neF (tgt := 43) hx hb (by omega) (by decide) dX8_check_37 (by decide) ?_
          refine lv_bipush (v := jI (-2)) hx hb dX8_check_40 (by decide) ?_
          rw [hQ9]
          refine ret_i (mc := 1) (ms := 4) hx hb hr hlocks hw hS (by omega) (by omega) dX8_check_42 ?_
          exact ⟨ad, cnt, X, Y, ln, rfl, hE9 _ _ _ hE, hFx, hOw, hLn, hR, Frm.rf, Frm.rf, hCI, by omega, (by rw [← ezz1]; exact Or.inr (Or.inl ⟨by omega, by omega, (fun q => by (try delta Hid at *); omega), by omega, by omega⟩)), fun y hy => (by rfl)⟩
      · subst ez7
        refine x_if_eqT (tgt := 40) hx hb (by omega) (by decide) dX8_check_28 (by decide) ?_
        refine lv_bipush (v := jI (-2)) hx hb dX8_check_40 (by decide) ?_
        rw [hQ9]
        refine ret_i (mc := 1) (ms := 4) hx hb hr hlocks hw hS (by omega) (by omega) dX8_check_42 ?_
        exact ⟨ad, cnt, X, Y, ln, rfl, hE9 _ _ _ hE, hFx, hOw, hLn, hR, Frm.rf, Frm.rf, hCI, by omega, (by rw [← ezz1]; exact Or.inr (Or.inl ⟨by omega, by omega, (fun q => by (try delta Hid at *); omega), by omega, by omega⟩)), fun y hy => (by rfl)⟩
    · subst ez4
      refine x_if_eqT (tgt := 40) hx hb (by omega) (by decide) dX8_check_20 (by decide) ?_
      refine lv_bipush (v := jI (-2)) hx hb dX8_check_40 (by decide) ?_
      rw [hQ9]
      refine ret_i (mc := 1) (ms := 4) hx hb hr hlocks hw hS (by omega) (by omega) dX8_check_42 ?_
      exact ⟨ad, cnt, X, Y, ln, rfl, hE9 _ _ _ hE, hFx, hOw, hLn, hR, Frm.rf, Frm.rf, hCI, by omega, (by rw [← ezz1]; exact Or.inr (Or.inl ⟨by omega, by omega, (fun q => by (try delta Hid at *); omega), by omega, by omega⟩)), fun y hy => (by rfl)⟩

