section
set_option maxHeartbeats 4000000 in
set_option maxRecDepth 100000 in
theorem c_X8_row (l : Launch) (D : va_G) (tc : Nat → ClassId) (base : Nat) (ad : Nat → Int → Nat) (cnt : Nat → Int) (X : Nat → Int → Int → Int) (Y : Nat → Int → Int → Option Int) (ln : Int → Int) (hR : Rng X) (hFx : Fx cnt) (hLn : LnOK ln) (hCI : CInv cnt X Y ln) (hOw : Own cnt) (hN : 0 ≤ cnt 25 ∧ 0 ≤ cnt 26) (x k n : Int) (hx : -2147483648 ≤ x ∧ x ≤ 2147483647) (hk : -2147483648 ≤ k ∧ k ≤ 2147483647) (hn : -2147483648 ≤ n ∧ n ≤ 2147483647) : KI l D tc base yX8_row wsX8_row ({ frames := 4, cells := 2, slots := 14, locals := 91 } : Room) [.ref (ad 0 0), .int (jI x), .int (jI k), .int (jI n)] (ad, cnt, X, Y, ln) 2 14 (fun z u => ∃ (ad1 : Nat → Int → Nat) (cnt1 : Nat → Int) (X1 : Nat → Int → Int → Int) (Y1 : Nat → Int → Int → Option Int) (ln1 : Int → Int), u = (ad1, cnt1, X1, Y1, ln1) ∧ Ext ad cnt ln ad1 cnt1 ln1 ∧ Fx cnt1 ∧ Own cnt1 ∧ LnOK ln1 ∧ Rng X1 ∧ Frm [2802, 2803, 2902, 2602, 2700] X X1 ∧ Frm [2801, 2804, 1700] Y Y1 ∧ CInv cnt1 X1 Y1 ln1 ∧ (-2147483648 ≤ z ∧ z ≤ 2147483647) ∧ ((¬ (0 ≤ x ∧ x < X 0 0 3 ∧ 0 ≤ k ∧ k < X 19 (tyo (Y 15 x 0)) 1) ∧ z = -1) ∨ ((0 ≤ x ∧ x < X 0 0 3 ∧ 0 ≤ k ∧ k < X 19 (tyo (Y 15 x 0)) 1) ∧ 12 < n ∧ z = -2) ∨ ((0 ≤ x ∧ x < X 0 0 3 ∧ 0 ≤ k ∧ k < X 19 (tyo (Y 15 x 0)) 1) ∧ n ≤ 12 ∧ X 21 (tyo (Y 15 x 0)) k < 3 ∧ z = -14) ∨ ((0 ≤ x ∧ x < X 0 0 3 ∧ 0 ≤ k ∧ k < X 19 (tyo (Y 15 x 0)) 1) ∧ n ≤ 12 ∧ 3 ≤ X 21 (tyo (Y 15 x 0)) k ∧ n < -1 ∧ z = -13) ∨ ((0 ≤ x ∧ x < X 0 0 3 ∧ 0 ≤ k ∧ k < X 19 (tyo (Y 15 x 0)) 1) ∧ n ≤ 12 ∧ 3 ≤ X 21 (tyo (Y 15 x 0)) k ∧ -1 ≤ n ∧ 80 ≤ X 29 0 1 ∧ z = -4) ∨ ((0 ≤ x ∧ x < X 0 0 3 ∧ 0 ≤ k ∧ k < X 19 (tyo (Y 15 x 0)) 1) ∧ n ≤ 12 ∧ 3 ≤ X 21 (tyo (Y 15 x 0)) k ∧ -1 ≤ n ∧ X 29 0 1 ≤ 79 ∧ z = 1)) ∧ (∀ g, 0 ≤ g → g < cnt 26 → X1 27 g = X 27 g) ∧ (z < 0 → Frm [2602, 2700] X X1 ∧ Y1 = Y) ∧ (z = 1 → eNoteC X X1 Y Y1 (some x) k (X 16 x k) (Y 17 x k) ∧ (∀ p q, ¬ (p = x ∧ q = k) → Y1 17 p q = Y 17 p q) ∧ (∀ p q, X1 16 p q = X 16 p q) ∧ ((n = -1 ∧ Y1 17 x k = none) ∨ (0 ≤ n ∧ ∃ g, Y1 17 x k = some g ∧ cnt 26 ≤ g ∧ g < cnt1 26 ∧ ln1 g = n ∧ ∀ i, X1 27 g i = 0)))) := by
  refine K_of (cc := cX8_row) (maxL := 5) (ret := (some .int)) (by decide) rfl (Nat.le_of_ble_eq_true rfl) ?_
  intro p e s m below meth c ls hx hb hr hml hown hts hlocks hl hK hw hS
  have hown : s.vm.findClass RX8 = some m.cls := hown
  have hbs : base ≤ s.heap.size := wd_size hw
  obtain ⟨av9, hav9⟩ : ∃ a9 : Array Value, a9 = ([.ref (ad 0 0), .int (jI x), .int (jI k), .int (jI n)] : List Value).toArray := ⟨_, rfl⟩
  rw [← hav9] at hts ⊢
  obtain ⟨Q9, hQ9⟩ : ∃ q9Q : State → Prop, q9Q = MQ below (QI D tc base (fun z u => ∃ (ad1 : Nat → Int → Nat) (cnt1 : Nat → Int) (X1 : Nat → Int → Int → Int) (Y1 : Nat → Int → Int → Option Int) (ln1 : Int → Int), u = (ad1, cnt1, X1, Y1, ln1) ∧ Ext ad cnt ln ad1 cnt1 ln1 ∧ Fx cnt1 ∧ Own cnt1 ∧ LnOK ln1 ∧ Rng X1 ∧ Frm [2802, 2803, 2902, 2602, 2700] X X1 ∧ Frm [2801, 2804, 1700] Y Y1 ∧ CInv cnt1 X1 Y1 ln1 ∧ (-2147483648 ≤ z ∧ z ≤ 2147483647) ∧ ((¬ (0 ≤ x ∧ x < X 0 0 3 ∧ 0 ≤ k ∧ k < X 19 (tyo (Y 15 x 0)) 1) ∧ z = -1) ∨ ((0 ≤ x ∧ x < X 0 0 3 ∧ 0 ≤ k ∧ k < X 19 (tyo (Y 15 x 0)) 1) ∧ 12 < n ∧ z = -2) ∨ ((0 ≤ x ∧ x < X 0 0 3 ∧ 0 ≤ k ∧ k < X 19 (tyo (Y 15 x 0)) 1) ∧ n ≤ 12 ∧ X 21 (tyo (Y 15 x 0)) k < 3 ∧ z = -14) ∨ ((0 ≤ x ∧ x < X 0 0 3 ∧ 0 ≤ k ∧ k < X 19 (tyo (Y 15 x 0)) 1) ∧ n ≤ 12 ∧ 3 ≤ X 21 (tyo (Y 15 x 0)) k ∧ n < -1 ∧ z = -13) ∨ ((0 ≤ x ∧ x < X 0 0 3 ∧ 0 ≤ k ∧ k < X 19 (tyo (Y 15 x 0)) 1) ∧ n ≤ 12 ∧ 3 ≤ X 21 (tyo (Y 15 x 0)) k ∧ -1 ≤ n ∧ 80 ≤ X 29 0 1 ∧ z = -4) ∨ ((0 ≤ x ∧ x < X 0 0 3 ∧ 0 ≤ k ∧ k < X 19 (tyo (Y 15 x 0)) 1) ∧ n ≤ 12 ∧ 3 ≤ X 21 (tyo (Y 15 x 0)) k ∧ -1 ≤ n ∧ X 29 0 1 ≤ 79 ∧ z = 1)) ∧ (∀ g, 0 ≤ g → g < cnt 26 → X1 27 g = X 27 g) ∧ (z < 0 → Frm [2602, 2700] X X1 ∧ Y1 = Y) ∧ (z = 1 → eNoteC X X1 Y Y1 (some x) k (X 16 x k) (Y 17 x k) ∧ (∀ p q, ¬ (p = x ∧ q = k) → Y1 17 p q = Y 17 p q) ∧ (∀ p q, X1 16 p q = X 16 p q) ∧ ((n = -1 ∧ Y1 17 x k = none) ∨ (0 ≤ n ∧ ∃ g, Y1 17 x k = some g ∧ cnt 26 ≤ g ∧ g < cnt1 26 ∧ ln1 g = n ∧ ∀ i, X1 27 g i = 0))))) av9 s 2 14 (frA base) := ⟨_, rfl⟩
  rw [← hQ9]
  obtain ⟨ad0, ha0⟩ : ∃ a, a = ad := ⟨_, rfl⟩
  obtain ⟨cnt0, hc0⟩ : ∃ a, a = cnt := ⟨_, rfl⟩
  obtain ⟨ln0, hl0⟩ : ∃ a, a = ln := ⟨_, rfl⟩
  have hE9 : ∀ a c n, Ext ad0 cnt0 ln0 a c n → Ext ad cnt ln a c n := by rw [ha0, hc0, hl0]; exact fun _ _ _ h => h
  have hE : Ext ad0 cnt0 ln0 ad cnt ln := by rw [ha0, hc0, hl0]; exact Ext.rf
  clear ha0 hc0 hl0
  have hi5 : ∀ w ∈ wsX50, w ∈ wsX8_row := fun w h => List.mem_cons_of_mem _ (List.mem_append_left _ (List.mem_append_left _ (List.mem_append_left _ (List.mem_append_right _ h))))
  have hf5 : fctx s m _ RX8 wsX8_row D tc RX5 TX5 2 5 := ⟨hts, hi5, hown, hK.1, rfl⟩
  have hi6 : ∀ w ∈ wsX60, w ∈ wsX8_row := fun w h => List.mem_cons_of_mem _ (List.mem_append_left _ (List.mem_append_left _ (List.mem_append_left _ (List.mem_append_left _ (List.mem_append_left _ (List.mem_append_right _ h))))))
  have hf6 : fctx s m _ RX8 wsX8_row D tc RX6 TX6 4 6 := ⟨hts, hi6, hown, hK.1, rfl⟩
  have hi7 : ∀ w ∈ wsX70, w ∈ wsX8_row := fun w h => List.mem_cons_of_mem _ (List.mem_append_left _ (List.mem_append_left _ (List.mem_append_left _ (List.mem_append_left _ (List.mem_append_right _ h)))))
  have hf7 : fctx s m _ RX8 wsX8_row D tc RX7 TX7 8 7 := ⟨hts, hi7, hown, hK.1, rfl⟩
  have lk97 := hts (.fieldLink RX8 97 (TX6 0).1 (TX6 0).2.1 (TX6 0).2.2.1) (gj_X8_row_0 _ (gp_h))
  have lk135 := hts (.fieldLink RX8 135 (TX7 3).1 (TX7 3).2.1 (TX7 3).2.2.1) (gj_X8_row_0 _ (gp_1 gp_h))
  have hc0 : cnt 0 = 1 := hFx.at 0 1 (by decide)
  have hc15 : cnt 15 = 30 := hFx.at 15 30 (by decide)
  have hc21 : cnt 21 = cnt 19 := hFx.2.1 21 (by decide)
  have hc27 : cnt 27 = cnt 26 := hFx.2.2
  have hl : lv_has ls 5 [(0, .ref (ad 0 0)), (1, .int (jI x)), (2, .int (jI k)), (3, .int (jI n))] := hl
  have ftc : 0 ≤ X 0 0 3 ∧ X 0 0 3 ≤ 30 := hR 0 0 3
  have fty : 0 ≤ X 0 0 1 ∧ X 0 0 1 ≤ 8 := hR 0 0 1
  have hct : cnt 19 = X 0 0 1 := hCI.2.2.2.1.1
  have hfj : 0 ≤ X 29 0 3 ∧ X 29 0 3 ≤ 4 := hR 29 0 3
  have hfn : 0 ≤ X 29 0 1 ∧ X 29 0 1 ≤ 80 := hR 29 0 1
  refine lv_aload_n hx hb dX8_row_0 rfl (lv_at hl 0 rfl) ?_
  refine lv_iload_n hx hb dX8_row_1 rfl (lv_at hl 1 rfl) ?_
  refine lv_iload_n hx hb dX8_row_2 rfl (lv_at hl 2 rfl) ?_
  refine gos_r (run_V (As := [.int (jI x), .int (jI k)]) (rest := []) hx hb hml hown hts (c_X8_thingWithField l D tc base ad cnt X Y ln hR hFx hLn hCI x k (by omega) (by omega)) (cwV 2 hts gX8_row_X8_thingWithField rfl rfl rfl (by first | exact hd_X8_thingWithField | decide +kernel) ⟨Nat.le_of_ble_eq_true rfl, Nat.le_of_ble_eq_true rfl⟩) hK hw (by first | exact Int.le_refl 0 | omega) (by first | exact zlt hc0 | omega) sl_0_0 rfl rfl hl.1 rfl (Nat.le_of_ble_eq_true rfl) dX8_row_3 ⟨(by show _ ≤ (2 : Nat); omega), (by show _ ≤ (14 : Nat); omega)⟩) hS (fun u2 H locs p3 hw hS => ?_) (fun z1 u2 H locs p3 hw hS => ?_)
  · obtain ⟨eu2, hsp3, hnp3⟩ := p3
    subst eu2
    refine lv_astoreN (lv' := [(4, .null), (0, .ref (ad 0 0)), (1, .int (jI x)), (2, .int (jI k)), (3, .int (jI n))]) hx hb dX8_row_6 hl (by decide) rfl (fun ls hl => ?_)
    refine lv_aloadN hx hb dX8_row_8 (lv_at hl 0 rfl) ?_
    refine lv_ifnonnullN hx hb dX8_row_10 ?_
    refine lv_iconst (v := jI (-1)) hx hb dX8_row_13 rfl ?_
    rw [hQ9]
    refine ret_i (mc := 2) (ms := 14) hx hb hr hlocks hw hS (by first | exact Nat.le_of_ble_eq_true rfl | omega) (by first | exact Nat.le_of_ble_eq_true rfl | omega) dX8_row_14 ?_
    have h9n4 : ¬ (0 ≤ x ∧ x < X 0 0 3 ∧ 0 ≤ k ∧ k < X 19 (tyo (Y 15 x 0)) 1) := hnp3 rfl
    exact ⟨ad, cnt, X, Y, ln, rfl, hE9 _ _ _ hE, hFx, hOw, hLn, hR, Frm.rf, Frm.rf, hCI, by omega, (by exact Or.inl ⟨(fun q => by (try delta Hid at *); omega), (by (try delta Hid at *); omega)⟩), fun g9 a b => funext fun j9 => rfl, fun _ => ⟨Frm.rf, rfl⟩, fun q => (by exfalso; omega)⟩
  · obtain ⟨eu2, hsp3, hnp3⟩ := p3
    subst eu2
    obtain ⟨ezz1, p3, h1p3, h2p3, h3p3, h4p3, h5p3⟩ := hsp3 z1 rfl
    refine lv_astore (lv' := [(4, .ref (ad 15 z1)), (0, .ref (ad 0 0)), (1, .int (jI x)), (2, .int (jI k)), (3, .int (jI n))]) hx hb dX8_row_6 hl (by decide) rfl (fun ls hl => ?_)
    refine lv_aload hx hb dX8_row_8 (lv_at hl 0 rfl) ?_
    refine lv_ifnonnull (tgt := 15) hx hb dX8_row_10 (by decide) ?_
    refine lv_iload_n hx hb dX8_row_15 rfl (lv_at hl 4 rfl) ?_
    refine lv_bipush (v := jI 12) hx hb dX8_row_16 (by decide) ?_
    refine x_icmp_le (tgt := 24) hx hb (by omega) (by omega) dX8_row_18 (by decide) (fun c5 => ?_) (fun c5 => ?_)
    · refine lv_aload hx hb dX8_row_24 (lv_at hl 0 rfl) ?_
      refine x_getr (jz := 0) hx hb hf6 hw (by omega) (by omega) sl_15_0 rfl lk97 dX8_row_26 (fun y6 => ?_) (fun r7 y6 gr7 lr7 => ?_)
      · exfalso
        exact absurd y6 (hCI.2.2.2.2.1 z1 (by omega) (by omega))
      · refine x_geto hx hb hf7 hw (by omega) (by omega) sl_19_3 lk135 dX8_row_29 ?_
        refine lv_iload_n hx hb dX8_row_32 rfl (lv_at hl 3 rfl) ?_
        refine x_iald hx hb hK.1 hw (by omega) (by omega) ar_21 (len_E ar_21 (by first | exact Nat.ne_of_beq_eq_false rfl | decide)) (by omega) (by omega) (by omega) dX8_row_33 ?_
        have f8 : 0 ≤ X 21 r7 k ∧ X 21 r7 k ≤ 5 := hR 21 r7 k
        refine gos_i (run_S (As := [.int (jI (X 21 r7 k))]) (rest := []) hx hb hml hown hts (c_X8_isRowLane l D tc base ad cnt X Y ln (X 21 r7 k) (by omega)) (cwS 1 hts gX8_row_X8_isRowLane rfl rfl rfl (by first | exact hd_X8_isRowLane | decide +kernel) ⟨Nat.le_of_ble_eq_true rfl, Nat.le_of_ble_eq_true rfl⟩) hK hw rfl hl.1 rfl (Nat.le_of_ble_eq_true rfl) dX8_row_34 ⟨(by show _ ≤ (2 : Nat); omega), (by show _ ≤ (14 : Nat); omega)⟩) hS (fun z9 u10 H locs p11 hw hS => ?_)
        obtain ⟨eu10, p11⟩ := p11
        subst eu10
        rcases p11 with ⟨ez9, p11⟩ | ⟨ez9, p11⟩
        · subst ez9
          refine x_if_neT (tgt := 45) hx hb (by omega) (by decide) dX8_row_37 (by decide) ?_
          refine lv_iload_n hx hb dX8_row_45 rfl (lv_at hl 4 rfl) ?_
          refine lv_iconst (v := jI (-1)) hx hb dX8_row_46 rfl ?_
          refine x_icmp_ge (tgt := 55) hx hb (by omega) (by omega) dX8_row_47 (by decide) (fun c12 => ?_) (fun c12 => ?_)
          · refine lv_aload_n hx hb dX8_row_55 rfl (lv_at hl 1 rfl) ?_
            refine lv_aload hx hb dX8_row_56 (lv_at hl 0 rfl) ?_
            refine lv_iload_n hx hb dX8_row_58 rfl (lv_at hl 3 rfl) ?_
            refine lv_iload_n hx hb dX8_row_59 rfl (lv_at hl 4 rfl) ?_
            refine lv_iconst (v := jI (-1)) hx hb dX8_row_60 rfl ?_
            refine x_icmp_ne (tgt := 68) hx hb (by omega) (by omega) dX8_row_61 (by decide) (fun c13 => ?_) (fun c13 => ?_)
            · refine g_new (E := []) (G := []) (ci := 5) (fs := [.null, .int 0]) hx hb hf5 ⟨tyX5_ok, nmX5⟩ (hts (.classLink RX8 42 RX5) (by first | exact gj_X8_row_0 _ (gp_1 (gp_1 gp_h)) | decide +kernel)) (hts (.instantiable RX5 2) (by first | exact gj_X8_row_0 _ (gp_1 (gp_1 (gp_1 gp_h))) | decide +kernel)) (hts (.initialized RX5) (by first | exact gj_X8_row_0 _ (gp_4 gp_h) | decide +kernel)) (wx_of hw) hS hbs (fun j hj => by rcases (show j = 0 ∨ j = 1 by omega) with rfl | rfl <;> rfl) (by show _ ≤ (2 : Nat); omega) (by show _ ≤ (14 : Nat); omega) dX8_row_68 (fun q14 H hwx hS => ?_)
              have hwx : wx D tc base (ad, cnt, X, Y, ln) ([] ++ [(q14, .inr (5, [.null, .int 0]))]) H := hwx
              have hw := wx_wd hwx
              refine lv_dup hx hb dX8_row_71 rfl ?_
              refine lv_iload_n hx hb dX8_row_72 rfl (lv_at hl 4 rfl) ?_
              refine gos_x (run_I (As := [.int (jI n)]) (rest := [.ref q14, .int (jI k), .ref (ad 15 z1), .ref (ad 0 0)]) hx hb hml hown hts (c_X5_init l D tc base (ad, cnt, X, Y, ln) [] q14 n (by omega)) (cwI 1 hts gX8_row_X5_init rfl rfl rfl (hts (.initialized RX5) (by first | exact gj_X8_row_0 _ (gp_4 gp_h) | decide +kernel)) (hts (.methodLink RX8 153 yX5_init) (by first | exact gj_X8_row_1 _ (gp_4 (gp_1 (gp_1 gp_h))) | decide +kernel)) (hts (.instanceMethod yX5_init) (by first | exact gj_X8_row_1 _ (gp_4 (gp_1 (gp_1 (gp_1 gp_h)))) | decide +kernel)) rfl (by decide +kernel) ⟨Nat.le_of_ble_eq_true rfl, Nat.le_of_ble_eq_true rfl⟩) hK hwx rfl hl.1 rfl (Nat.le_of_ble_eq_true rfl) dX8_row_73 ⟨by show _ ≤ (2 : Nat); omega, by show _ ≤ (14 : Nat); omega⟩) hS (fun u9 E15 H locs p16 hwx hS => ?_)
              obtain ⟨g17, hg17⟩ : ∃ g, g = cnt 26 := ⟨_, rfl⟩
              obtain ⟨rfl, q21, rfl⟩ := p16
              have hwx := (show wx D tc base (ad, cnt, X, Y, ln) ([] ++ _) H from hwx)
              obtain ⟨ad, cnt, X18, ln, hw, hE19, hFx, hOw, hLn, hRX18, hG20, hCIX18, hkg17, hag17, hlng17, hz0g17, hx7g17⟩ := born_row hwx (by omega) hFx hOw (by omega) hR hLn hCI
              rw [← hg17] at hkg17 hag17 hlng17 hz0g17 hx7g17
              have hFX18 : Frm [2802, 2803, 2902, 2602, 2700] X X18 := Frm.tr Frm.rf (Frm.mono hG20 (by first | exact nls_of rfl | decide))
              have hE := Ext.tr hE hE19
              have hm22 := hE19.2.1 19
              have hm23 := hE19.2.1 25
              have hm24 := hE19.2.1 26
              have hN : 0 ≤ cnt 25 ∧ 0 ≤ cnt 26 := by omega
              have ha25 := hE19.1 15 z1 (by omega) (by omega)
              have ha26 := hE19.1 0 0 (by omega) (by omega)
              have hc0 : cnt 0 = 1 := hFx.at 0 1 (by decide)
              have hc15 : cnt 15 = 30 := hFx.at 15 30 (by decide)
              have hc21 : cnt 21 = cnt 19 := hFx.2.1 21 (by decide)
              have hc27 : cnt 27 = cnt 26 := hFx.2.2
              have hl : lv_has ls 5 [(4, .ref (ad 15 z1)), (0, .ref (ad 0 0)), (1, .int (jI x)), (2, .int (jI k)), (3, .int (jI n))] := by rw [ha25, ha26]; exact hl
              refine W.eq (g2 := F0 m 76 ls [.ref (ad 26 g17), .int (jI k), .ref (ad 15 z1), .ref (ad 0 0)]) (by first | rfl | (rw [ha25, ha26, hag17]; done) | (rw [ha25, ha26, hag17]; rfl)) ?_
              refine gos_i (run_V (As := [.ref (ad 15 z1), .int (jI k), .ref (ad 26 g17)]) (rest := []) hx hb hml hown hts (c_X8_changeRow_r l D tc base ad cnt X18 Y ln hRX18 hFx hLn hCIX18 z1 k g17 (by omega) (by omega) (by omega)) (cwV 3 hts gX8_row_X8_changeRow rfl rfl rfl (by first | exact hd_X8_changeRow | decide +kernel) ⟨Nat.le_of_ble_eq_true rfl, Nat.le_of_ble_eq_true rfl⟩) hK hw (by first | exact Int.le_refl 0 | omega) (by first | exact zlt hc0 | omega) sl_0_0 rfl rfl hl.1 rfl (Nat.le_of_ble_eq_true rfl) dX8_row_76 ⟨(by show _ ≤ (2 : Nat); omega), (by show _ ≤ (14 : Nat); omega)⟩) hS (fun z27 u28 H locs p29 hw hS => ?_)
              obtain ⟨X30, Y31, eu28, hRX30, hG32, hJ33, hCIX30, p29, hcvX30⟩ := p29
              subst eu28
              have hFX30 : Frm [2802, 2803, 2902, 2602, 2700] X X30 := Frm.tr hFX18 (Frm.mono hG32 (by first | exact nls_of rfl | decide))
              have hHY31 : Frm [2801, 2804, 1700] Y Y31 := Frm.tr Frm.rf (Frm.mono hJ33 (by first | exact nls_of rfl | decide))
              rw [hQ9]
              refine ret_i (mc := 2) (ms := 14) hx hb hr hlocks hw hS (by first | exact Nat.le_of_ble_eq_true rfl | omega) (by first | exact Nat.le_of_ble_eq_true rfl | omega) dX8_row_79 ?_
              have hT34 : tyo (Y 15 x 0) = r7 := by rw [← ezz1]; exact tyo_some y6
              have hk35 : k < X 19 r7 1 := h5p3 r7 (by rw [← ezz1]; exact y6)
              have e2936 : X18 29 0 1 = X 29 0 1 := (by rw [hG20 29 0 1 (show 2902 ∉ [2602, 2700] by first | exact nlm_ni rfl | decide)])
              have q37 : Frm [2602, 2700] X X18 := Frm.tr Frm.rf (Frm.mono hG20 (by first | exact nls_of rfl | decide))
              rcases hcvX30 with ⟨c1, c2, c3, c4⟩ | ⟨c1, c2, c3, c4, c5, c6⟩
              · exact ⟨ad, cnt, X30, Y31, ln, rfl, hE9 _ _ _ hE, hFx, hOw, hLn, hRX30, hFX30, hHY31, hCIX30, by omega, (by rw [hT34]; first | (have h9z : (z27 : Int) = -1 := (by omega); exact Or.inl ⟨(fun q => by (try delta Hid at *); omega), (by (try delta Hid at *); omega)⟩) | (have h9z : (z27 : Int) = -2 := (by omega); exact Or.inr (Or.inl ⟨(by (try delta Hid at *); omega), (by (try delta Hid at *); omega), (by (try delta Hid at *); omega)⟩)) | (have h9z : (z27 : Int) = -14 := (by omega); exact Or.inr (Or.inr (Or.inl ⟨(by (try delta Hid at *); omega), (by (try delta Hid at *); omega), (by (try delta Hid at *); omega), (by (try delta Hid at *); omega)⟩))) | (have h9z : (z27 : Int) = -13 := (by omega); exact Or.inr (Or.inr (Or.inr (Or.inl ⟨(by (try delta Hid at *); omega), (by (try delta Hid at *); omega), (by (try delta Hid at *); omega), (by (try delta Hid at *); omega), (by (try delta Hid at *); omega)⟩)))) | (have h9z : (z27 : Int) = -4 := (by omega); exact Or.inr (Or.inr (Or.inr (Or.inr (Or.inl ⟨(by (try delta Hid at *); omega), (by (try delta Hid at *); omega), (by (try delta Hid at *); omega), (by (try delta Hid at *); omega), (by (try delta Hid at *); omega), (by (try delta Hid at *); omega)⟩))))) | (have h9z : (z27 : Int) = 1 := (by omega); exact Or.inr (Or.inr (Or.inr (Or.inr (Or.inr (⟨(by (try delta Hid at *); omega), (by (try delta Hid at *); omega), (by (try delta Hid at *); omega), (by (try delta Hid at *); omega), (by (try delta Hid at *); omega), (by (try delta Hid at *); omega)⟩)))))) | exact Or.inl ⟨(fun q => by (try delta Hid at *); omega), (by (try delta Hid at *); omega)⟩ | exact Or.inr (Or.inl ⟨(by (try delta Hid at *); omega), (by (try delta Hid at *); omega), (by (try delta Hid at *); omega)⟩) | exact Or.inr (Or.inr (Or.inl ⟨(by (try delta Hid at *); omega), (by (try delta Hid at *); omega), (by (try delta Hid at *); omega), (by (try delta Hid at *); omega)⟩)) | exact Or.inr (Or.inr (Or.inr (Or.inl ⟨(by (try delta Hid at *); omega), (by (try delta Hid at *); omega), (by (try delta Hid at *); omega), (by (try delta Hid at *); omega), (by (try delta Hid at *); omega)⟩))) | exact Or.inr (Or.inr (Or.inr (Or.inr (Or.inl ⟨(by (try delta Hid at *); omega), (by (try delta Hid at *); omega), (by (try delta Hid at *); omega), (by (try delta Hid at *); omega), (by (try delta Hid at *); omega), (by (try delta Hid at *); omega)⟩)))) | exact Or.inr (Or.inr (Or.inr (Or.inr (Or.inr (⟨(by (try delta Hid at *); omega), (by (try delta Hid at *); omega), (by (try delta Hid at *); omega), (by (try delta Hid at *); omega), (by (try delta Hid at *); omega), (by (try delta Hid at *); omega)⟩)))))), fun g9 a b => funext fun j9 => (by rw [hG32 27 g9 j9 (show 2700 ∉ [2802, 2803, 2902] by first | exact nlm_ni rfl | decide)]; exact (congrFun (hx7g17 27 g9 (by omega)) j9)), fun _ => ⟨(by rw [c3]; exact q37), c4⟩, fun q => (by exfalso; omega)⟩
              · exact ⟨ad, cnt, X30, Y31, ln, rfl, hE9 _ _ _ hE, hFx, hOw, hLn, hRX30, hFX30, hHY31, hCIX30, by omega, (by rw [hT34]; first | (have h9z : (z27 : Int) = -1 := (by omega); exact Or.inl ⟨(fun q => by (try delta Hid at *); omega), (by (try delta Hid at *); omega)⟩) | (have h9z : (z27 : Int) = -2 := (by omega); exact Or.inr (Or.inl ⟨(by (try delta Hid at *); omega), (by (try delta Hid at *); omega), (by (try delta Hid at *); omega)⟩)) | (have h9z : (z27 : Int) = -14 := (by omega); exact Or.inr (Or.inr (Or.inl ⟨(by (try delta Hid at *); omega), (by (try delta Hid at *); omega), (by (try delta Hid at *); omega), (by (try delta Hid at *); omega)⟩))) | (have h9z : (z27 : Int) = -13 := (by omega); exact Or.inr (Or.inr (Or.inr (Or.inl ⟨(by (try delta Hid at *); omega), (by (try delta Hid at *); omega), (by (try delta Hid at *); omega), (by (try delta Hid at *); omega), (by (try delta Hid at *); omega)⟩)))) | (have h9z : (z27 : Int) = -4 := (by omega); exact Or.inr (Or.inr (Or.inr (Or.inr (Or.inl ⟨(by (try delta Hid at *); omega), (by (try delta Hid at *); omega), (by (try delta Hid at *); omega), (by (try delta Hid at *); omega), (by (try delta Hid at *); omega), (by (try delta Hid at *); omega)⟩))))) | (have h9z : (z27 : Int) = 1 := (by omega); exact Or.inr (Or.inr (Or.inr (Or.inr (Or.inr (⟨(by (try delta Hid at *); omega), (by (try delta Hid at *); omega), (by (try delta Hid at *); omega), (by (try delta Hid at *); omega), (by (try delta Hid at *); omega), (by (try delta Hid at *); omega)⟩)))))) | exact Or.inl ⟨(fun q => by (try delta Hid at *); omega), (by (try delta Hid at *); omega)⟩ | exact Or.inr (Or.inl ⟨(by (try delta Hid at *); omega), (by (try delta Hid at *); omega), (by (try delta Hid at *); omega)⟩) | exact Or.inr (Or.inr (Or.inl ⟨(by (try delta Hid at *); omega), (by (try delta Hid at *); omega), (by (try delta Hid at *); omega), (by (try delta Hid at *); omega)⟩)) | exact Or.inr (Or.inr (Or.inr (Or.inl ⟨(by (try delta Hid at *); omega), (by (try delta Hid at *); omega), (by (try delta Hid at *); omega), (by (try delta Hid at *); omega), (by (try delta Hid at *); omega)⟩))) | exact Or.inr (Or.inr (Or.inr (Or.inr (Or.inl ⟨(by (try delta Hid at *); omega), (by (try delta Hid at *); omega), (by (try delta Hid at *); omega), (by (try delta Hid at *); omega), (by (try delta Hid at *); omega), (by (try delta Hid at *); omega)⟩)))) | exact Or.inr (Or.inr (Or.inr (Or.inr (Or.inr (⟨(by (try delta Hid at *); omega), (by (try delta Hid at *); omega), (by (try delta Hid at *); omega), (by (try delta Hid at *); omega), (by (try delta Hid at *); omega), (by (try delta Hid at *); omega)⟩)))))), fun g9 a b => funext fun j9 => (by rw [hG32 27 g9 j9 (show 2700 ∉ [2802, 2803, 2902] by first | exact nlm_ni rfl | decide)]; exact (congrFun (hx7g17 27 g9 (by omega)) j9)), fun q => (by exfalso; omega), fun _ => (by rw [← ezz1]; exact ⟨(by have h9 := eNoteC.from (M := [2602, 2700]) (N := []) c3 q37 Frm.rf (by decide) (fun n j => q37 28 n j (by rw [fcode28]; simp only [List.mem_cons, List.not_mem_nil, or_false]; omega)) (fun n j => rfl); rw [(show X18 16 z1 k = X 16 z1 k from (by rw [hG20 16 z1 k (show 1600 ∉ [2602, 2700] by first | exact nlm_ni rfl | decide)]))] at h9; exact h9), c5, (fun p9 q9 => (c6 p9 q9).trans (by rw [hG20 16 p9 q9 (show 1600 ∉ [2602, 2700] by first | exact nlm_ni rfl | decide)])), Or.inr ⟨by omega, g17, c4, by omega, by omega, hlng17, fun i9 => (by rw [hG32 27 g17 i9 (show 2700 ∉ [2802, 2803, 2902] by first | exact nlm_ni rfl | decide)]; exact hz0g17 i9)⟩⟩)⟩
            · refine lv_null hx hb dX8_row_64 ?_
              refine lv_goto (tgt := 76) hx hb dX8_row_65 (by decide) ?_
              refine gos_i (run_V (As := [.ref (ad 15 z1), .int (jI k), .null]) (rest := []) hx hb hml hown hts (c_X8_changeRow_n l D tc base ad cnt X Y ln hR hFx hLn hCI z1 k (by omega) (by omega)) (cwV 3 hts gX8_row_X8_changeRow rfl rfl rfl (by first | exact hd_X8_changeRow | decide +kernel) ⟨Nat.le_of_ble_eq_true rfl, Nat.le_of_ble_eq_true rfl⟩) hK hw (by first | exact Int.le_refl 0 | omega) (by first | exact zlt hc0 | omega) sl_0_0 rfl rfl hl.1 rfl (Nat.le_of_ble_eq_true rfl) dX8_row_76 ⟨(by show _ ≤ (2 : Nat); omega), (by show _ ≤ (14 : Nat); omega)⟩) hS (fun z39 u40 H locs p41 hw hS => ?_)
              obtain ⟨X42, Y43, eu40, hRX42, hG44, hJ45, hCIX42, p41, hcvX42⟩ := p41
              subst eu40
              have hFX42 : Frm [2802, 2803, 2902, 2602, 2700] X X42 := Frm.tr Frm.rf (Frm.mono hG44 (by first | exact nls_of rfl | decide))
              have hHY43 : Frm [2801, 2804, 1700] Y Y43 := Frm.tr Frm.rf (Frm.mono hJ45 (by first | exact nls_of rfl | decide))
              rw [hQ9]
              refine ret_i (mc := 2) (ms := 14) hx hb hr hlocks hw hS (by first | exact Nat.le_of_ble_eq_true rfl | omega) (by first | exact Nat.le_of_ble_eq_true rfl | omega) dX8_row_79 ?_
              have hT46 : tyo (Y 15 x 0) = r7 := by rw [← ezz1]; exact tyo_some y6
              have hk47 : k < X 19 r7 1 := h5p3 r7 (by rw [← ezz1]; exact y6)
              rcases hcvX42 with ⟨c1, c2, c3, c4⟩ | ⟨c1, c2, c3, c4, c5, c6⟩
              · exact ⟨ad, cnt, X42, Y43, ln, rfl, hE9 _ _ _ hE, hFx, hOw, hLn, hRX42, hFX42, hHY43, hCIX42, by omega, (by rw [hT46]; first | (have h9z : (z39 : Int) = -1 := (by omega); exact Or.inl ⟨(fun q => by (try delta Hid at *); omega), (by (try delta Hid at *); omega)⟩) | (have h9z : (z39 : Int) = -2 := (by omega); exact Or.inr (Or.inl ⟨(by (try delta Hid at *); omega), (by (try delta Hid at *); omega), (by (try delta Hid at *); omega)⟩)) | (have h9z : (z39 : Int) = -14 := (by omega); exact Or.inr (Or.inr (Or.inl ⟨(by (try delta Hid at *); omega), (by (try delta Hid at *); omega), (by (try delta Hid at *); omega), (by (try delta Hid at *); omega)⟩))) | (have h9z : (z39 : Int) = -13 := (by omega); exact Or.inr (Or.inr (Or.inr (Or.inl ⟨(by (try delta Hid at *); omega), (by (try delta Hid at *); omega), (by (try delta Hid at *); omega), (by (try delta Hid at *); omega), (by (try delta Hid at *); omega)⟩)))) | (have h9z : (z39 : Int) = -4 := (by omega); exact Or.inr (Or.inr (Or.inr (Or.inr (Or.inl ⟨(by (try delta Hid at *); omega), (by (try delta Hid at *); omega), (by (try delta Hid at *); omega), (by (try delta Hid at *); omega), (by (try delta Hid at *); omega), (by (try delta Hid at *); omega)⟩))))) | (have h9z : (z39 : Int) = 1 := (by omega); exact Or.inr (Or.inr (Or.inr (Or.inr (Or.inr (⟨(by (try delta Hid at *); omega), (by (try delta Hid at *); omega), (by (try delta Hid at *); omega), (by (try delta Hid at *); omega), (by (try delta Hid at *); omega), (by (try delta Hid at *); omega)⟩)))))) | exact Or.inl ⟨(fun q => by (try delta Hid at *); omega), (by (try delta Hid at *); omega)⟩ | exact Or.inr (Or.inl ⟨(by (try delta Hid at *); omega), (by (try delta Hid at *); omega), (by (try delta Hid at *); omega)⟩) | exact Or.inr (Or.inr (Or.inl ⟨(by (try delta Hid at *); omega), (by (try delta Hid at *); omega), (by (try delta Hid at *); omega), (by (try delta Hid at *); omega)⟩)) | exact Or.inr (Or.inr (Or.inr (Or.inl ⟨(by (try delta Hid at *); omega), (by (try delta Hid at *); omega), (by (try delta Hid at *); omega), (by (try delta Hid at *); omega), (by (try delta Hid at *); omega)⟩))) | exact Or.inr (Or.inr (Or.inr (Or.inr (Or.inl ⟨(by (try delta Hid at *); omega), (by (try delta Hid at *); omega), (by (try delta Hid at *); omega), (by (try delta Hid at *); omega), (by (try delta Hid at *); omega), (by (try delta Hid at *); omega)⟩)))) | exact Or.inr (Or.inr (Or.inr (Or.inr (Or.inr (⟨(by (try delta Hid at *); omega), (by (try delta Hid at *); omega), (by (try delta Hid at *); omega), (by (try delta Hid at *); omega), (by (try delta Hid at *); omega), (by (try delta Hid at *); omega)⟩)))))), fun g9 a b => funext fun j9 => (by rw [hG44 27 g9 j9 (show 2700 ∉ [2802, 2803, 2902] by first | exact nlm_ni rfl | decide)]), fun _ => ⟨(by rw [c3]; exact Frm.rf), c4⟩, fun q => (by exfalso; omega)⟩
              · exact ⟨ad, cnt, X42, Y43, ln, rfl, hE9 _ _ _ hE, hFx, hOw, hLn, hRX42, hFX42, hHY43, hCIX42, by omega, (by rw [hT46]; first | (have h9z : (z39 : Int) = -1 := (by omega); exact Or.inl ⟨(fun q => by (try delta Hid at *); omega), (by (try delta Hid at *); omega)⟩) | (have h9z : (z39 : Int) = -2 := (by omega); exact Or.inr (Or.inl ⟨(by (try delta Hid at *); omega), (by (try delta Hid at *); omega), (by (try delta Hid at *); omega)⟩)) | (have h9z : (z39 : Int) = -14 := (by omega); exact Or.inr (Or.inr (Or.inl ⟨(by (try delta Hid at *); omega), (by (try delta Hid at *); omega), (by (try delta Hid at *); omega), (by (try delta Hid at *); omega)⟩))) | (have h9z : (z39 : Int) = -13 := (by omega); exact Or.inr (Or.inr (Or.inr (Or.inl ⟨(by (try delta Hid at *); omega), (by (try delta Hid at *); omega), (by (try delta Hid at *); omega), (by (try delta Hid at *); omega), (by (try delta Hid at *); omega)⟩)))) | (have h9z : (z39 : Int) = -4 := (by omega); exact Or.inr (Or.inr (Or.inr (Or.inr (Or.inl ⟨(by (try delta Hid at *); omega), (by (try delta Hid at *); omega), (by (try delta Hid at *); omega), (by (try delta Hid at *); omega), (by (try delta Hid at *); omega), (by (try delta Hid at *); omega)⟩))))) | (have h9z : (z39 : Int) = 1 := (by omega); exact Or.inr (Or.inr (Or.inr (Or.inr (Or.inr (⟨(by (try delta Hid at *); omega), (by (try delta Hid at *); omega), (by (try delta Hid at *); omega), (by (try delta Hid at *); omega), (by (try delta Hid at *); omega), (by (try delta Hid at *); omega)⟩)))))) | exact Or.inl ⟨(fun q => by (try delta Hid at *); omega), (by (try delta Hid at *); omega)⟩ | exact Or.inr (Or.inl ⟨(by (try delta Hid at *); omega), (by (try delta Hid at *); omega), (by (try delta Hid at *); omega)⟩) | exact Or.inr (Or.inr (Or.inl ⟨(by (try delta Hid at *); omega), (by (try delta Hid at *); omega), (by (try delta Hid at *); omega), (by (try delta Hid at *); omega)⟩)) | exact Or.inr (Or.inr (Or.inr (Or.inl ⟨(by (try delta Hid at *); omega), (by (try delta Hid at *); omega), (by (try delta Hid at *); omega), (by (try delta Hid at *); omega), (by (try delta Hid at *); omega)⟩))) | exact Or.inr (Or.inr (Or.inr (Or.inr (Or.inl ⟨(by (try delta Hid at *); omega), (by (try delta Hid at *); omega), (by (try delta Hid at *); omega), (by (try delta Hid at *); omega), (by (try delta Hid at *); omega), (by (try delta Hid at *); omega)⟩)))) | exact Or.inr (Or.inr (Or.inr (Or.inr (Or.inr (⟨(by (try delta Hid at *); omega), (by (try delta Hid at *); omega), (by (try delta Hid at *); omega), (by (try delta Hid at *); omega), (by (try delta Hid at *); omega), (by (try delta Hid at *); omega)⟩)))))), fun g9 a b => funext fun j9 => (by rw [hG44 27 g9 j9 (show 2700 ∉ [2802, 2803, 2902] by first | exact nlm_ni rfl | decide)]), fun q => (by exfalso; omega), fun _ => (by rw [← ezz1]; exact ⟨c3, c5, c6, Or.inl ⟨by omega, c4⟩⟩)⟩
          · refine lv_iconst (v := jI 3) hx hb dX8_row_50 rfl ?_
            refine gos_i (run_S (As := [.int (jI 3)]) (rest := []) hx hb hml hown hts (c_X8_failed l D tc base ad cnt X Y ln 3 (by omega)) (cwS 1 hts gX8_row_X8_failed rfl rfl rfl (by first | exact hd_X8_failed | decide +kernel) ⟨Nat.le_of_ble_eq_true rfl, Nat.le_of_ble_eq_true rfl⟩) hK hw rfl hl.1 rfl (Nat.le_of_ble_eq_true rfl) dX8_row_51 ⟨(by show _ ≤ (2 : Nat); omega), (by show _ ≤ (14 : Nat); omega)⟩) hS (fun z48 u49 H locs p50 hw hS => ?_)
            obtain ⟨eu49, p50⟩ := p50
            subst eu49
            rw [hQ9]
            refine ret_i (mc := 2) (ms := 14) hx hb hr hlocks hw hS (by first | exact Nat.le_of_ble_eq_true rfl | omega) (by first | exact Nat.le_of_ble_eq_true rfl | omega) dX8_row_54 ?_
            have hT51 : tyo (Y 15 x 0) = r7 := by rw [← ezz1]; exact tyo_some y6
            have hk52 : k < X 19 r7 1 := h5p3 r7 (by rw [← ezz1]; exact y6)
            exact ⟨ad, cnt, X, Y, ln, rfl, hE9 _ _ _ hE, hFx, hOw, hLn, hR, Frm.rf, Frm.rf, hCI, by omega, (by rw [hT51]; first | (have h9z : (z48 : Int) = -1 := (by omega); exact Or.inl ⟨(fun q => by (try delta Hid at *); omega), (by (try delta Hid at *); omega)⟩) | (have h9z : (z48 : Int) = -2 := (by omega); exact Or.inr (Or.inl ⟨(by (try delta Hid at *); omega), (by (try delta Hid at *); omega), (by (try delta Hid at *); omega)⟩)) | (have h9z : (z48 : Int) = -14 := (by omega); exact Or.inr (Or.inr (Or.inl ⟨(by (try delta Hid at *); omega), (by (try delta Hid at *); omega), (by (try delta Hid at *); omega), (by (try delta Hid at *); omega)⟩))) | (have h9z : (z48 : Int) = -13 := (by omega); exact Or.inr (Or.inr (Or.inr (Or.inl ⟨(by (try delta Hid at *); omega), (by (try delta Hid at *); omega), (by (try delta Hid at *); omega), (by (try delta Hid at *); omega), (by (try delta Hid at *); omega)⟩)))) | (have h9z : (z48 : Int) = -4 := (by omega); exact Or.inr (Or.inr (Or.inr (Or.inr (Or.inl ⟨(by (try delta Hid at *); omega), (by (try delta Hid at *); omega), (by (try delta Hid at *); omega), (by (try delta Hid at *); omega), (by (try delta Hid at *); omega), (by (try delta Hid at *); omega)⟩))))) | (have h9z : (z48 : Int) = 1 := (by omega); exact Or.inr (Or.inr (Or.inr (Or.inr (Or.inr (⟨(by (try delta Hid at *); omega), (by (try delta Hid at *); omega), (by (try delta Hid at *); omega), (by (try delta Hid at *); omega), (by (try delta Hid at *); omega), (by (try delta Hid at *); omega)⟩)))))) | exact Or.inl ⟨(fun q => by (try delta Hid at *); omega), (by (try delta Hid at *); omega)⟩ | exact Or.inr (Or.inl ⟨(by (try delta Hid at *); omega), (by (try delta Hid at *); omega), (by (try delta Hid at *); omega)⟩) | exact Or.inr (Or.inr (Or.inl ⟨(by (try delta Hid at *); omega), (by (try delta Hid at *); omega), (by (try delta Hid at *); omega), (by (try delta Hid at *); omega)⟩)) | exact Or.inr (Or.inr (Or.inr (Or.inl ⟨(by (try delta Hid at *); omega), (by (try delta Hid at *); omega), (by (try delta Hid at *); omega), (by (try delta Hid at *); omega), (by (try delta Hid at *); omega)⟩))) | exact Or.inr (Or.inr (Or.inr (Or.inr (Or.inl ⟨(by (try delta Hid at *); omega), (by (try delta Hid at *); omega), (by (try delta Hid at *); omega), (by (try delta Hid at *); omega), (by (try delta Hid at *); omega), (by (try delta Hid at *); omega)⟩)))) | exact Or.inr (Or.inr (Or.inr (Or.inr (Or.inr (⟨(by (try delta Hid at *); omega), (by (try delta Hid at *); omega), (by (try delta Hid at *); omega), (by (try delta Hid at *); omega), (by (try delta Hid at *); omega), (by (try delta Hid at *); omega)⟩)))))), fun g9 a b => funext fun j9 => rfl, fun _ => ⟨Frm.rf, rfl⟩, fun q => (by exfalso; omega)⟩
        · subst ez9
          refine x_if_neF (tgt := 45) hx hb (by omega) (by decide) dX8_row_37 (by decide) ?_
          refine lv_iconst (v := jI 4) hx hb dX8_row_40 rfl ?_
          refine gos_i (run_S (As := [.int (jI 4)]) (rest := []) hx hb hml hown hts (c_X8_failed l D tc base ad cnt X Y ln 4 (by omega)) (cwS 1 hts gX8_row_X8_failed rfl rfl rfl (by first | exact hd_X8_failed | decide +kernel) ⟨Nat.le_of_ble_eq_true rfl, Nat.le_of_ble_eq_true rfl⟩) hK hw rfl hl.1 rfl (Nat.le_of_ble_eq_true rfl) dX8_row_41 ⟨(by show _ ≤ (2 : Nat); omega), (by show _ ≤ (14 : Nat); omega)⟩) hS (fun z53 u54 H locs p55 hw hS => ?_)
          obtain ⟨eu54, p55⟩ := p55
          subst eu54
          rw [hQ9]
          refine ret_i (mc := 2) (ms := 14) hx hb hr hlocks hw hS (by first | exact Nat.le_of_ble_eq_true rfl | omega) (by first | exact Nat.le_of_ble_eq_true rfl | omega) dX8_row_44 ?_
          have hT56 : tyo (Y 15 x 0) = r7 := by rw [← ezz1]; exact tyo_some y6
          have hk57 : k < X 19 r7 1 := h5p3 r7 (by rw [← ezz1]; exact y6)
          exact ⟨ad, cnt, X, Y, ln, rfl, hE9 _ _ _ hE, hFx, hOw, hLn, hR, Frm.rf, Frm.rf, hCI, by omega, (by rw [hT56]; first | (have h9z : (z53 : Int) = -1 := (by omega); exact Or.inl ⟨(fun q => by (try delta Hid at *); omega), (by (try delta Hid at *); omega)⟩) | (have h9z : (z53 : Int) = -2 := (by omega); exact Or.inr (Or.inl ⟨(by (try delta Hid at *); omega), (by (try delta Hid at *); omega), (by (try delta Hid at *); omega)⟩)) | (have h9z : (z53 : Int) = -14 := (by omega); exact Or.inr (Or.inr (Or.inl ⟨(by (try delta Hid at *); omega), (by (try delta Hid at *); omega), (by (try delta Hid at *); omega), (by (try delta Hid at *); omega)⟩))) | (have h9z : (z53 : Int) = -13 := (by omega); exact Or.inr (Or.inr (Or.inr (Or.inl ⟨(by (try delta Hid at *); omega), (by (try delta Hid at *); omega), (by (try delta Hid at *); omega), (by (try delta Hid at *); omega), (by (try delta Hid at *); omega)⟩)))) | (have h9z : (z53 : Int) = -4 := (by omega); exact Or.inr (Or.inr (Or.inr (Or.inr (Or.inl ⟨(by (try delta Hid at *); omega), (by (try delta Hid at *); omega), (by (try delta Hid at *); omega), (by (try delta Hid at *); omega), (by (try delta Hid at *); omega), (by (try delta Hid at *); omega)⟩))))) | (have h9z : (z53 : Int) = 1 := (by omega); exact Or.inr (Or.inr (Or.inr (Or.inr (Or.inr (⟨(by (try delta Hid at *); omega), (by (try delta Hid at *); omega), (by (try delta Hid at *); omega), (by (try delta Hid at *); omega), (by (try delta Hid at *); omega), (by (try delta Hid at *); omega)⟩)))))) | exact Or.inl ⟨(fun q => by (try delta Hid at *); omega), (by (try delta Hid at *); omega)⟩ | exact Or.inr (Or.inl ⟨(by (try delta Hid at *); omega), (by (try delta Hid at *); omega), (by (try delta Hid at *); omega)⟩) | exact Or.inr (Or.inr (Or.inl ⟨(by (try delta Hid at *); omega), (by (try delta Hid at *); omega), (by (try delta Hid at *); omega), (by (try delta Hid at *); omega)⟩)) | exact Or.inr (Or.inr (Or.inr (Or.inl ⟨(by (try delta Hid at *); omega), (by (try delta Hid at *); omega), (by (try delta Hid at *); omega), (by (try delta Hid at *); omega), (by (try delta Hid at *); omega)⟩))) | exact Or.inr (Or.inr (Or.inr (Or.inr (Or.inl ⟨(by (try delta Hid at *); omega), (by (try delta Hid at *); omega), (by (try delta Hid at *); omega), (by (try delta Hid at *); omega), (by (try delta Hid at *); omega), (by (try delta Hid at *); omega)⟩)))) | exact Or.inr (Or.inr (Or.inr (Or.inr (Or.inr (⟨(by (try delta Hid at *); omega), (by (try delta Hid at *); omega), (by (try delta Hid at *); omega), (by (try delta Hid at *); omega), (by (try delta Hid at *); omega), (by (try delta Hid at *); omega)⟩)))))), fun g9 a b => funext fun j9 => rfl, fun _ => ⟨Frm.rf, rfl⟩, fun q => (by exfalso; omega)⟩
    · refine lv_bipush (v := jI (-2)) hx hb dX8_row_21 (by decide) ?_
      rw [hQ9]
      refine ret_i (mc := 2) (ms := 14) hx hb hr hlocks hw hS (by first | exact Nat.le_of_ble_eq_true rfl | omega) (by first | exact Nat.le_of_ble_eq_true rfl | omega) dX8_row_23 ?_
      obtain ⟨r58, y59⟩ := Option.ne_none_iff_exists'.mp (hCI.2.2.2.2.1 z1 (by omega) (by omega))
      have hT60 : tyo (Y 15 x 0) = r58 := by rw [← ezz1]; exact tyo_some y59
      have hk61 : k < X 19 r58 1 := h5p3 r58 (by rw [← ezz1]; exact y59)
      exact ⟨ad, cnt, X, Y, ln, rfl, hE9 _ _ _ hE, hFx, hOw, hLn, hR, Frm.rf, Frm.rf, hCI, by omega, (by rw [hT60]; exact Or.inr (Or.inl ⟨(by (try delta Hid at *); omega), (by (try delta Hid at *); omega), (by (try delta Hid at *); omega)⟩)), fun g9 a b => funext fun j9 => rfl, fun _ => ⟨Frm.rf, rfl⟩, fun q => (by exfalso; omega)⟩

set_option maxHeartbeats 4000000 in
set_option maxRecDepth 100000 in
theorem c_X8_check (l : Launch) (D : va_G) (tc : Nat → ClassId) (base : Nat) (ad : Nat → Int → Nat) (cnt : Nat → Int) (X : Nat → Int → Int → Int) (Y : Nat → Int → Int → Option Int) (ln : Int → Int) (hR : Rng X) (hFx : Fx cnt) (hLn : LnOK ln) (hCI : CInv cnt X Y ln) (hOw : Own cnt) (hN : 0 ≤ cnt 25 ∧ 0 ≤ cnt 26) (t kd a b v : Int) (ht : -2147483648 ≤ t ∧ t ≤ 2147483647) (hkd : -2147483648 ≤ kd ∧ kd ≤ 2147483647) (ha : -2147483648 ≤ a ∧ a ≤ 2147483647) (hb : -2147483648 ≤ b ∧ b ≤ 2147483647) (hv : -9223372036854775808 ≤ v ∧ v ≤ 9223372036854775807) : KI l D tc base yX8_check wsX8_check ({ frames := 2, cells := 1, slots := 4, locals := 42 } : Room) [.ref (ad 0 0), .int (jI t), .int (jI kd), .int (jI a), .int (jI b), .long (jL v)] (ad, cnt, X, Y, ln) 1 4 (fun z u => ∃ (ad1 : Nat → Int → Nat) (cnt1 : Nat → Int) (X1 : Nat → Int → Int → Int) (Y1 : Nat → Int → Int → Option Int) (ln1 : Int → Int), u = (ad1, cnt1, X1, Y1, ln1) ∧ Ext ad cnt ln ad1 cnt1 ln1 ∧ Fx cnt1 ∧ Own cnt1 ∧ LnOK ln1 ∧ Rng X1 ∧ Frm [2501, 2502, 2503, 2504, 1907] X X1 ∧ Frm [2400] Y Y1 ∧ CInv cnt1 X1 Y1 ln1 ∧ (-2147483648 ≤ z ∧ z ≤ 2147483647) ∧ ((¬ (0 ≤ t ∧ t < X 0 0 1) ∧ z = -1 ∧ X1 19 t 6 = X 19 t 6) ∨ (0 ≤ t ∧ t < X 0 0 1 ∧ ¬ (0 ≤ kd ∧ kd < 6 ∧ 0 ≤ a ∧ a < 5 ∧ 0 ≤ b ∧ b < 5) ∧ z = -2 ∧ X1 19 t 6 = X 19 t 6) ∨ (0 ≤ t ∧ t < X 0 0 1 ∧ (0 ≤ kd ∧ kd < 6 ∧ 0 ≤ a ∧ a < 5 ∧ 0 ≤ b ∧ b < 5) ∧ 4 ≤ X 19 t 6 ∧ z = -4 ∧ X1 19 t 6 = X 19 t 6) ∨ (0 ≤ t ∧ t < X 0 0 1 ∧ (0 ≤ kd ∧ kd < 6 ∧ 0 ≤ a ∧ a < 5 ∧ 0 ≤ b ∧ b < 5) ∧ X 19 t 6 ≤ 3 ∧ z = X 19 t 6 + 1 ∧ X1 19 t 6 = X 19 t 6 + 1)) ∧ (∀ y, y ≠ t → X1 19 y 6 = X 19 y 6) ∧ (0 ≤ z → ∃ g, Y1 24 t (X 19 t 6) = some g ∧ cnt 25 ≤ g ∧ g < cnt1 25 ∧ X1 25 g 0 = kd ∧ X1 25 g 1 = a ∧ X1 25 g 2 = b ∧ X1 25 g 3 = v) ∧ (∀ g, 0 ≤ g → g < cnt 25 → ∀ j, X1 25 g j = X 25 g j) ∧ ∀ y j, ¬ (0 ≤ z ∧ y = t ∧ j = X 19 t 6) → Y1 24 y j = Y 24 y j) := by
  refine K_of (cc := cX8_check) (maxL := 8) (ret := (some .int)) (by decide) rfl (Nat.le_of_ble_eq_true rfl) ?_
  intro p e s m below meth c ls hx hb hr hml hown hts hlocks hl hK hw hS
  have hown : s.vm.findClass RX8 = some m.cls := hown
  have hbs : base ≤ s.heap.size := wd_size hw
  obtain ⟨av9, hav9⟩ : ∃ a9 : Array Value, a9 = ([.ref (ad 0 0), .int (jI t), .int (jI kd), .int (jI a), .int (jI b), .long (jL v)] : List Value).toArray := ⟨_, rfl⟩
  rw [← hav9] at hts ⊢
  obtain ⟨Q9, hQ9⟩ : ∃ q9Q : State → Prop, q9Q = MQ below (QI D tc base (fun z u => ∃ (ad1 : Nat → Int → Nat) (cnt1 : Nat → Int) (X1 : Nat → Int → Int → Int) (Y1 : Nat → Int → Int → Option Int) (ln1 : Int → Int), u = (ad1, cnt1, X1, Y1, ln1) ∧ Ext ad cnt ln ad1 cnt1 ln1 ∧ Fx cnt1 ∧ Own cnt1 ∧ LnOK ln1 ∧ Rng X1 ∧ Frm [2501, 2502, 2503, 2504, 1907] X X1 ∧ Frm [2400] Y Y1 ∧ CInv cnt1 X1 Y1 ln1 ∧ (-2147483648 ≤ z ∧ z ≤ 2147483647) ∧ ((¬ (0 ≤ t ∧ t < X 0 0 1) ∧ z = -1 ∧ X1 19 t 6 = X 19 t 6) ∨ (0 ≤ t ∧ t < X 0 0 1 ∧ ¬ (0 ≤ kd ∧ kd < 6 ∧ 0 ≤ a ∧ a < 5 ∧ 0 ≤ b ∧ b < 5) ∧ z = -2 ∧ X1 19 t 6 = X 19 t 6) ∨ (0 ≤ t ∧ t < X 0 0 1 ∧ (0 ≤ kd ∧ kd < 6 ∧ 0 ≤ a ∧ a < 5 ∧ 0 ≤ b ∧ b < 5) ∧ 4 ≤ X 19 t 6 ∧ z = -4 ∧ X1 19 t 6 = X 19 t 6) ∨ (0 ≤ t ∧ t < X 0 0 1 ∧ (0 ≤ kd ∧ kd < 6 ∧ 0 ≤ a ∧ a < 5 ∧ 0 ≤ b ∧ b < 5) ∧ X 19 t 6 ≤ 3 ∧ z = X 19 t 6 + 1 ∧ X1 19 t 6 = X 19 t 6 + 1)) ∧ (∀ y, y ≠ t → X1 19 y 6 = X 19 y 6) ∧ (0 ≤ z → ∃ g, Y1 24 t (X 19 t 6) = some g ∧ cnt 25 ≤ g ∧ g < cnt1 25 ∧ X1 25 g 0 = kd ∧ X1 25 g 1 = a ∧ X1 25 g 2 = b ∧ X1 25 g 3 = v) ∧ (∀ g, 0 ≤ g → g < cnt 25 → ∀ j, X1 25 g j = X 25 g j) ∧ ∀ y j, ¬ (0 ≤ z ∧ y = t ∧ j = X 19 t 6) → Y1 24 y j = Y 24 y j)) av9 s 1 4 (frA base) := ⟨_, rfl⟩
  rw [← hQ9]
  obtain ⟨ad0, ha0⟩ : ∃ a, a = ad := ⟨_, rfl⟩
  obtain ⟨cnt0, hc0⟩ : ∃ a, a = cnt := ⟨_, rfl⟩
  obtain ⟨ln0, hl0⟩ : ∃ a, a = ln := ⟨_, rfl⟩
  have hE9 : ∀ a c n, Ext ad0 cnt0 ln0 a c n → Ext ad cnt ln a c n := by rw [ha0, hc0, hl0]; exact fun _ _ _ h => h
  have hE : Ext ad0 cnt0 ln0 ad cnt ln := by rw [ha0, hc0, hl0]; exact Ext.rf
  clear ha0 hc0 hl0
  have hi0 : ∀ w ∈ wsX00, w ∈ wsX8_check := fun w h => List.mem_cons_of_mem _ (List.mem_append_left _ (List.mem_append_right _ h))
  have hf0 : fctx s m _ RX8 wsX8_check D tc RX0 TX0 4 0 := ⟨hts, hi0, hown, hK.1, rfl⟩
  have hi7 : ∀ w ∈ wsX70, w ∈ wsX8_check := fun w h => List.mem_cons_of_mem _ (List.mem_append_left _ (List.mem_append_left _ (List.mem_append_right _ h)))
  have hf7 : fctx s m _ RX8 wsX8_check D tc RX7 TX7 8 7 := ⟨hts, hi7, hown, hK.1, rfl⟩
  have lk115 := hts (.fieldLink RX8 115 (TX7 6).1 (TX7 6).2.1 (TX7 6).2.2.1) (gj_X8_check_0 _ (gp_h))
  have lk118 := hts (.fieldLink RX8 118 (TX7 7).1 (TX7 7).2.1 (TX7 7).2.2.1) (gj_X8_check_0 _ (gp_1 gp_h))
  have hc0 : cnt 0 = 1 := hFx.at 0 1 (by decide)
  have hc24 : cnt 24 = cnt 19 := hFx.2.1 24 (by decide)
  have hl : lv_has ls 8 [(0, .ref (ad 0 0)), (1, .int (jI t)), (2, .int (jI kd)), (3, .int (jI a)), (4, .int (jI b)), (5, .long (jL v))] := hl
  have ftc : 0 ≤ X 0 0 3 ∧ X 0 0 3 ≤ 30 := hR 0 0 3
  have fty : 0 ≤ X 0 0 1 ∧ X 0 0 1 ≤ 8 := hR 0 0 1
  have hct : cnt 19 = X 0 0 1 := hCI.2.2.2.1.1
  have hfj : 0 ≤ X 29 0 3 ∧ X 29 0 3 ≤ 4 := hR 29 0 3
  have hfn : 0 ≤ X 29 0 1 ∧ X 29 0 1 ≤ 80 := hR 29 0 1
  refine lv_aload_n hx hb dX8_check_0 rfl (lv_at hl 0 rfl) ?_
  refine lv_iload_n hx hb dX8_check_1 rfl (lv_at hl 1 rfl) ?_
  refine gos_r (run_V (As := [.int (jI t)]) (rest := []) hx hb hml hown hts (c_X8_typeNumbered l D tc base ad cnt X Y ln hR hFx hLn hCI t (by omega)) (cwV 1 hts gX8_check_X8_typeNumbered rfl rfl rfl (by first | exact hd_X8_typeNumbered | decide +kernel) ⟨Nat.le_of_ble_eq_true rfl, Nat.le_of_ble_eq_true rfl⟩) hK hw (by first | exact Int.le_refl 0 | omega) (by first | exact zlt hc0 | omega) sl_0_0 rfl rfl hl.1 rfl (Nat.le_of_ble_eq_true rfl) dX8_check_2 ⟨(by show _ ≤ (1 : Nat); omega), (by show _ ≤ (4 : Nat); omega)⟩) hS (fun u2 H locs p3 hw hS => ?_) (fun z1 u2 H locs p3 hw hS => ?_)
  · obtain ⟨eu2, hsp3, hnp3⟩ := p3
    subst eu2
    refine lv_astoreN (lv' := [(7, .null), (0, .ref (ad 0 0)), (1, .int (jI t)), (2, .int (jI kd)), (3, .int (jI a)), (4, .int (jI b)), (5, .long (jL v))]) hx hb dX8_check_5 hl (by decide) rfl (fun ls hl => ?_)
    refine lv_aloadN hx hb dX8_check_7 (lv_at hl 0 rfl) ?_
    refine lv_ifnonnullN hx hb dX8_check_9 ?_
    refine lv_iconst (v := jI (-1)) hx hb dX8_check_12 rfl ?_
    rw [hQ9]
    refine ret_i (mc := 1) (ms := 4) hx hb hr hlocks hw hS (by first | exact Nat.le_of_ble_eq_true rfl | omega) (by first | exact Nat.le_of_ble_eq_true rfl | omega) dX8_check_13 ?_
    exact ⟨ad, cnt, X, Y, ln, rfl, hE9 _ _ _ hE, hFx, hOw, hLn, hR, Frm.rf, Frm.rf, hCI, by omega, (by have h9n : ¬ (0 ≤ t ∧ t < X 0 0 1) := hnp3 rfl; exact Or.inl ⟨h9n, by omega, by omega⟩), fun y hy => (by rfl), fun q => (by exfalso; omega), fun g9 a b j9 => rfl, fun y j _ => rfl⟩
  · obtain ⟨eu2, hsp3, hnp3⟩ := p3
    subst eu2
    obtain ⟨ezz1, p3⟩ := hsp3 z1 rfl
    refine lv_astore (lv' := [(7, .ref (ad 19 z1)), (0, .ref (ad 0 0)), (1, .int (jI t)), (2, .int (jI kd)), (3, .int (jI a)), (4, .int (jI b)), (5, .long (jL v))]) hx hb dX8_check_5 hl (by decide) rfl (fun ls hl => ?_)
    refine lv_aload hx hb dX8_check_7 (lv_at hl 0 rfl) ?_
    refine lv_ifnonnull (tgt := 14) hx hb dX8_check_9 (by decide) ?_
    refine lv_iload_n hx hb dX8_check_14 rfl (lv_at hl 3 rfl) ?_
    refine lv_bipush (v := jI 6) hx hb dX8_check_15 (by decide) ?_
    refine gos_i (run_S (As := [.int (jI kd), .int (jI 6)]) (rest := []) hx hb hml hown hts (c_X8_isBelow l D tc base ad cnt X Y ln kd 6 (by omega) (by omega)) (cwS 2 hts gX8_check_X8_isBelow rfl rfl rfl (by first | exact hd_X8_isBelow | decide +kernel) ⟨Nat.le_of_ble_eq_true rfl, Nat.le_of_ble_eq_true rfl⟩) hK hw rfl hl.1 rfl (Nat.le_of_ble_eq_true rfl) dX8_check_17 ⟨(by show _ ≤ (1 : Nat); omega), (by show _ ≤ (4 : Nat); omega)⟩) hS (fun z4 u5 H locs p6 hw hS => ?_)
    obtain ⟨eu5, p6⟩ := p6
    subst eu5
    rcases p6 with ⟨ez4, p6⟩ | ⟨ez4, p6⟩
    · subst ez4
      refine x_if_eqF (tgt := 40) hx hb (by omega) (by decide) dX8_check_20 (by decide) ?_
      refine lv_iload_n hx hb dX8_check_23 rfl (lv_at hl 4 rfl) ?_
      refine lv_iconst (v := jI 5) hx hb dX8_check_24 rfl ?_
      refine gos_i (run_S (As := [.int (jI a), .int (jI 5)]) (rest := []) hx hb hml hown hts (c_X8_isBelow l D tc base ad cnt X Y ln a 5 (by omega) (by omega)) (cwS 2 hts gX8_check_X8_isBelow rfl rfl rfl (by first | exact hd_X8_isBelow | decide +kernel) ⟨Nat.le_of_ble_eq_true rfl, Nat.le_of_ble_eq_true rfl⟩) hK hw rfl hl.1 rfl (Nat.le_of_ble_eq_true rfl) dX8_check_25 ⟨(by show _ ≤ (1 : Nat); omega), (by show _ ≤ (4 : Nat); omega)⟩) hS (fun z7 u8 H locs p9 hw hS => ?_)
      obtain ⟨eu8, p9⟩ := p9
      subst eu8
      rcases p9 with ⟨ez7, p9⟩ | ⟨ez7, p9⟩
      · subst ez7
        refine x_if_eqF (tgt := 40) hx hb (by omega) (by decide) dX8_check_28 (by decide) ?_
        refine lv_iload hx hb dX8_check_31 (lv_at hl 5 rfl) ?_
        refine lv_iconst (v := jI 5) hx hb dX8_check_33 rfl ?_
        refine gos_i (run_S (As := [.int (jI b), .int (jI 5)]) (rest := []) hx hb hml hown hts (c_X8_isBelow l D tc base ad cnt X Y ln b 5 (by omega) (by omega)) (cwS 2 hts gX8_check_X8_isBelow rfl rfl rfl (by first | exact hd_X8_isBelow | decide +kernel) ⟨Nat.le_of_ble_eq_true rfl, Nat.le_of_ble_eq_true rfl⟩) hK hw rfl hl.1 rfl (Nat.le_of_ble_eq_true rfl) dX8_check_34 ⟨(by show _ ≤ (1 : Nat); omega), (by show _ ≤ (4 : Nat); omega)⟩) hS (fun z10 u11 H locs p12 hw hS => ?_)
        obtain ⟨eu11, p12⟩ := p12
        subst eu11
        rcases p12 with ⟨ez10, p12⟩ | ⟨ez10, p12⟩
        · subst ez10
          refine x_if_neT (tgt := 43) hx hb (by omega) (by decide) dX8_check_37 (by decide) ?_
          refine lv_aload hx hb dX8_check_43 (lv_at hl 0 rfl) ?_
          refine x_geti (jz := 6) hx hb hf7 hw (by omega) (by omega) sl_19_6 rfl lk115 dX8_check_45 ?_
          have f13 : 0 ≤ X 19 z1 6 ∧ X 19 z1 6 ≤ 4 := hR 19 z1 6
          refine lv_iconst (v := jI 4) hx hb dX8_check_48 rfl ?_
          refine x_icmp_lt (tgt := 55) hx hb (by omega) (by omega) dX8_check_49 (by decide) (fun c14 => ?_) (fun c14 => ?_)
          · refine lv_aload hx hb dX8_check_55 (lv_at hl 0 rfl) ?_
            refine x_geto hx hb hf7 hw (by omega) (by omega) sl_19_7 lk118 dX8_check_57 ?_
            refine lv_aload hx hb dX8_check_60 (lv_at hl 0 rfl) ?_
            refine x_geti (jz := 6) hx hb hf7 hw (by omega) (by omega) sl_19_6 rfl lk115 dX8_check_62 ?_
            have f15 : 0 ≤ X 19 z1 6 ∧ X 19 z1 6 ≤ 4 := hR 19 z1 6
            refine g_new (E := []) (G := []) (ci := 0) (fs := [.int 0, .int 0, .int 0, .long 0]) hx hb hf0 ⟨tyX0_ok, nmX0⟩ (hts (.classLink RX8 122 RX0) (by first | exact gj_X8_check_0 _ (gp_1 (gp_1 gp_h)) | decide +kernel)) (hts (.instantiable RX0 4) (by first | exact gj_X8_check_0 _ (gp_1 (gp_1 (gp_1 gp_h))) | decide +kernel)) (hts (.initialized RX0) (by first | exact gj_X8_check_0 _ (gp_4 gp_h) | decide +kernel)) (wx_of hw) hS hbs (fun j hj => by rcases (show j = 0 ∨ j = 1 ∨ j = 2 ∨ j = 3 by omega) with rfl | rfl | rfl | rfl <;> rfl) (by show _ ≤ (1 : Nat); omega) (by show _ ≤ (4 : Nat); omega) dX8_check_65 (fun q16 H hwx hS => ?_)
            have hwx : wx D tc base (ad, cnt, X, Y, ln) ([] ++ [(q16, .inr (0, [.int 0, .int 0, .int 0, .long 0]))]) H := hwx
            have hw := wx_wd hwx
            refine lv_dup hx hb dX8_check_68 rfl ?_
            refine lv_iload_n hx hb dX8_check_69 rfl (lv_at hl 3 rfl) ?_
            refine lv_iload_n hx hb dX8_check_70 rfl (lv_at hl 4 rfl) ?_
            refine lv_iload hx hb dX8_check_71 (lv_at hl 5 rfl) ?_
            refine lv_lload hx hb dX8_check_73 (lv_at hl 6 rfl) ?_
            refine gos_x (run_I (As := [.int (jI kd), .int (jI a), .int (jI b), .long (jL v)]) (rest := [.ref q16, .int (jI (X 19 z1 6)), .ref (ad 24 z1)]) hx hb hml hown hts (c_X0_init l D tc base (ad, cnt, X, Y, ln) [] q16 kd a b v) (cwI 4 hts gX8_check_X0_init rfl rfl rfl (hts (.initialized RX0) (by first | exact gj_X8_check_0 _ (gp_4 gp_h) | decide +kernel)) (hts (.methodLink RX8 124 yX0_init) (by first | exact gj_X8_check_0 _ (gp_4 (gp_4 (gp_4 (gp_1 (gp_1 (gp_1 gp_h)))))) | decide +kernel)) (hts (.instanceMethod yX0_init) (by first | exact gj_X8_check_0 _ (gp_16 gp_h) | decide +kernel)) rfl (by decide +kernel) ⟨Nat.le_of_ble_eq_true rfl, Nat.le_of_ble_eq_true rfl⟩) hK hwx rfl hl.1 rfl (Nat.le_of_ble_eq_true rfl) dX8_check_75 ⟨by show _ ≤ (1 : Nat); omega, by show _ ≤ (4 : Nat); omega⟩) hS (fun u9 E17 H locs p18 hwx hS => ?_)
            obtain ⟨g19, hg19⟩ : ∃ g, g = cnt 25 := ⟨_, rfl⟩
            obtain ⟨rfl, rfl⟩ := p18
            have hwx := (show wx D tc base (ad, cnt, X, Y, ln) ([] ++ _) H from hwx)
            obtain ⟨ad, cnt, X20, ln, hw, hE21, hFx, hOw, hLn, hRX20, hG22, hCIX20, hkg19, hag19, hckg19, hx7g19⟩ := born_check hwx (by omega) (by omega) (by omega) (by omega) hFx hOw (by omega) hR hLn hCI
            rw [← hg19] at hkg19 hag19 hckg19 hx7g19
            have hFX20 : Frm [2501, 2502, 2503, 2504, 1907] X X20 := Frm.tr Frm.rf (Frm.mono hG22 (by first | exact nls_of rfl | decide))
            have hE := Ext.tr hE hE21
            have hm23 := hE21.2.1 19
            have hm24 := hE21.2.1 25
            have hm25 := hE21.2.1 26
            have hN : 0 ≤ cnt 25 ∧ 0 ≤ cnt 26 := by omega
            have ha26 := hE21.1 19 z1 (by omega) (by omega)
            have ha27 := hE21.1 0 0 (by omega) (by omega)
            have ha28 := hE21.1 24 z1 (by omega) (by omega)
            have hc0 : cnt 0 = 1 := hFx.at 0 1 (by decide)
            have hc24 : cnt 24 = cnt 19 := hFx.2.1 24 (by decide)
            have hl : lv_has ls 8 [(7, .ref (ad 19 z1)), (0, .ref (ad 0 0)), (1, .int (jI t)), (2, .int (jI kd)), (3, .int (jI a)), (4, .int (jI b)), (5, .long (jL v))] := by rw [ha26, ha27]; exact hl
            refine W.eq (g2 := F0 m 78 ls [.ref (ad 25 g19), .int (jI (X 19 z1 6)), .ref (ad 24 z1)]) (by first | rfl | (rw [ha28, hag19]; done) | (rw [ha28, hag19]; rfl)) ?_
            refine x_aast hx hb hK.1 hw hS (by omega) (by omega) ar_24 rfl rfl sl_25_0 (len_E ar_24 (by first | exact Nat.ne_of_beq_eq_false rfl | decide)) (by omega) (by omega) (by omega) (by omega) (by omega) dX8_check_78 (fun H locs hw hS => ?_)
            obtain ⟨Y29, hY29⟩ : ∃ Yq, Yq = u3 Y 24 z1 (X 19 z1 6) (some g19) := ⟨_, rfl⟩
            rw [← hY29] at hw
            have hVY29 : Y29 24 z1 (X 19 z1 6) = (some g19) := by rw [hY29]; exact u3_s _ _ _ _ _
            have hHY29 : Frm [2400] Y Y29 := by rw [hY29]; exact Frm.set Frm.rf (show 2400 ∈ [2400] by first | exact nlm_in rfl | decide)
            refine lv_aload hx hb dX8_check_79 (lv_at hl 0 rfl) ?_
            refine lv_dup hx hb dX8_check_81 rfl ?_
            refine x_geti (jz := 6) hx hb hf7 hw (by omega) (by omega) sl_19_6 rfl lk115 dX8_check_82 ?_
            have e30 : X20 19 z1 6 = X 19 z1 6 := by rw [hG22 19 z1 6 (show 1907 ∉ [2501, 2502, 2503, 2504] by first | exact nlm_ni rfl | decide)]
            rw [e30]
            have f31 : 0 ≤ X 19 z1 6 ∧ X 19 z1 6 ≤ 4 := hR 19 z1 6
            refine lv_iconst (v := jI 1) hx hb dX8_check_85 rfl ?_
            refine x_iadd hx hb dX8_check_86 ?_
            refine x_puti (jz := 6) hx hb hf7 ⟨tyX7_ok, nmX7⟩ hw hS (by omega) (by omega) sl_19_6 rfl lk115 rfl (tyX7_ok 6 (by decide)) rfl rfl dX8_check_87 (fun H locs hw hS => ?_)
            obtain ⟨X32, hX32⟩ : ∃ Xq, Xq = u3 X20 19 z1 6 ((X 19 z1 6) + 1) := ⟨_, rfl⟩
            rw [← hX32] at hw
            have hRX32 : Rng X32 := by rw [hX32]; exact rng_set hRX20 (show 0 ≤ ((X 19 z1 6) + 1) ∧ ((X 19 z1 6) + 1) ≤ 4 by omega)
            have hVX32 : X32 19 z1 6 = ((X 19 z1 6) + 1) := by rw [hX32]; exact u3_s _ _ _ _ _
            have hFX32 : Frm [2501, 2502, 2503, 2504, 1907] X X32 := by rw [hX32]; exact Frm.set hFX20 (show 1907 ∈ [2501, 2502, 2503, 2504, 1907] by first | exact nlm_in rfl | decide)
            refine lv_aload hx hb dX8_check_90 (lv_at hl 0 rfl) ?_
            refine x_geti (jz := 6) hx hb hf7 hw (by omega) (by omega) sl_19_6 rfl lk115 dX8_check_92 ?_
            rw [hVX32]
            rw [hQ9]
            refine ret_i (mc := 1) (ms := 4) hx hb hr hlocks hw hS (by first | exact Nat.le_of_ble_eq_true rfl | omega) (by first | exact Nat.le_of_ble_eq_true rfl | omega) dX8_check_95 ?_
            have e33 : X20 19 z1 6 = X 19 z1 6 := (by rw [hG22 19 z1 6 (show 1907 ∉ [2501, 2502, 2503, 2504] by first | exact nlm_ni rfl | decide)])
            have q34 : Frm [1907] X20 X32 := by rw [hX32]; exact Frm.set Frm.rf (show 1907 ∈ [1907] by first | exact nlm_in rfl | decide)
            exact ⟨ad, cnt, X32, Y29, ln, rfl, hE9 _ _ _ hE, hFx, hOw, hLn, hRX32, hFX32, hHY29, cinv_checks (q := z1) hCIX20 q34 hHY29 (fun i hi => (by rw [hX32, u3_ij (by omega)])) (fun i j h => by rw [hY29, u3_ij (fun w => h ⟨w.1, by rw [w.2, e33]; exact Int.le_refl _⟩)]) (fun j a b c => by rw [hVX32] at b; rw [e33] at c; rw [show j = X 19 z1 6 by omega, hVY29]; exact fun q => by cases q), by omega, (by rw [← ezz1]; exact Or.inr (Or.inr (Or.inr (⟨by omega, by omega, (by (try delta Hid at *); omega), by omega, by omega, by omega⟩)))), fun y hy => (by rw [hX32, u3_ij (by omega), hG22 19 y 6 (show 1907 ∉ [2501, 2502, 2503, 2504] by first | exact nlm_ni rfl | decide)]), fun _ => (by rw [← ezz1]; exact ⟨g19, hVY29, by omega, by omega, (by rw [hX32, u3_k _ _ _ _ (by first | exact Nat.ne_of_beq_eq_false rfl | decide)]; exact hckg19.1), (by rw [hX32, u3_k _ _ _ _ (by first | exact Nat.ne_of_beq_eq_false rfl | decide)]; exact hckg19.2.1), (by rw [hX32, u3_k _ _ _ _ (by first | exact Nat.ne_of_beq_eq_false rfl | decide)]; exact hckg19.2.2.1), (by rw [hX32, u3_k _ _ _ _ (by first | exact Nat.ne_of_beq_eq_false rfl | decide)]; exact hckg19.2.2.2)⟩), fun g9 a b j9 => (by rw [hX32, u3_k _ _ _ _ (by first | exact Nat.ne_of_beq_eq_false rfl | decide)]; exact congrFun (hx7g19 25 g9 (by omega)) j9), fun y j h9 => (by rw [hY29, u3_ij (fun q9 => h9 ⟨by omega, by omega, (by rw [← ezz1]; omega)⟩)])⟩
          · refine lv_bipush (v := jI (-4)) hx hb dX8_check_52 (by decide) ?_
            rw [hQ9]
            refine ret_i (mc := 1) (ms := 4) hx hb hr hlocks hw hS (by first | exact Nat.le_of_ble_eq_true rfl | omega) (by first | exact Nat.le_of_ble_eq_true rfl | omega) dX8_check_54 ?_
            exact ⟨ad, cnt, X, Y, ln, rfl, hE9 _ _ _ hE, hFx, hOw, hLn, hR, Frm.rf, Frm.rf, hCI, by omega, (by rw [← ezz1]; exact Or.inr (Or.inr (Or.inl ⟨by omega, by omega, (by (try delta Hid at *); omega), by omega, by omega, by omega⟩))), fun y hy => (by rfl), fun q => (by exfalso; omega), fun g9 a b j9 => rfl, fun y j _ => rfl⟩
        · subst ez10
          refine x_if_neF (tgt := 43) hx hb (by omega) (by decide) dX8_check_37 (by decide) ?_
          refine lv_bipush (v := jI (-2)) hx hb dX8_check_40 (by decide) ?_
          rw [hQ9]
          refine ret_i (mc := 1) (ms := 4) hx hb hr hlocks hw hS (by first | exact Nat.le_of_ble_eq_true rfl | omega) (by first | exact Nat.le_of_ble_eq_true rfl | omega) dX8_check_42 ?_
          exact ⟨ad, cnt, X, Y, ln, rfl, hE9 _ _ _ hE, hFx, hOw, hLn, hR, Frm.rf, Frm.rf, hCI, by omega, (by rw [← ezz1]; exact Or.inr (Or.inl ⟨by omega, by omega, (fun q => by (try delta Hid at *); omega), by omega, by omega⟩)), fun y hy => (by rfl), fun q => (by exfalso; omega), fun g9 a b j9 => rfl, fun y j _ => rfl⟩
      · subst ez7
        refine x_if_eqT (tgt := 40) hx hb (by omega) (by decide) dX8_check_28 (by decide) ?_
        refine lv_bipush (v := jI (-2)) hx hb dX8_check_40 (by decide) ?_
        rw [hQ9]
        refine ret_i (mc := 1) (ms := 4) hx hb hr hlocks hw hS (by first | exact Nat.le_of_ble_eq_true rfl | omega) (by first | exact Nat.le_of_ble_eq_true rfl | omega) dX8_check_42 ?_
        exact ⟨ad, cnt, X, Y, ln, rfl, hE9 _ _ _ hE, hFx, hOw, hLn, hR, Frm.rf, Frm.rf, hCI, by omega, (by rw [← ezz1]; exact Or.inr (Or.inl ⟨by omega, by omega, (fun q => by (try delta Hid at *); omega), by omega, by omega⟩)), fun y hy => (by rfl), fun q => (by exfalso; omega), fun g9 a b j9 => rfl, fun y j _ => rfl⟩
    · subst ez4
      refine x_if_eqT (tgt := 40) hx hb (by omega) (by decide) dX8_check_20 (by decide) ?_
      refine lv_bipush (v := jI (-2)) hx hb dX8_check_40 (by decide) ?_
      rw [hQ9]
      refine ret_i (mc := 1) (ms := 4) hx hb hr hlocks hw hS (by first | exact Nat.le_of_ble_eq_true rfl | omega) (by first | exact Nat.le_of_ble_eq_true rfl | omega) dX8_check_42 ?_
      exact ⟨ad, cnt, X, Y, ln, rfl, hE9 _ _ _ hE, hFx, hOw, hLn, hR, Frm.rf, Frm.rf, hCI, by omega, (by rw [← ezz1]; exact Or.inr (Or.inl ⟨by omega, by omega, (fun q => by (try delta Hid at *); omega), by omega, by omega⟩)), fun y hy => (by rfl), fun q => (by exfalso; omega), fun g9 a b j9 => rfl, fun y j _ => rfl⟩

set_option maxHeartbeats 4000000 in
set_option maxRecDepth 100000 in
theorem c_X8_type (l : Launch) (D : va_G) (tc : Nat → ClassId) (base : Nat) (ad : Nat → Int → Nat) (cnt : Nat → Int) (X : Nat → Int → Int → Int) (Y : Nat → Int → Int → Option Int) (ln : Int → Int) (hR : Rng X) (hFx : Fx cnt) (hLn : LnOK ln) (hCI : CInv cnt X Y ln) (hOw : Own cnt) (hN : 0 ≤ cnt 25 ∧ 0 ≤ cnt 26)  : KI l D tc base yX8_type wsX8_type ({ frames := 2, cells := 6, slots := 32, locals := 33 } : Room) [.ref (ad 0 0)] (ad, cnt, X, Y, ln) 6 32 (fun z u => ∃ (ad1 : Nat → Int → Nat) (cnt1 : Nat → Int) (X1 : Nat → Int → Int → Int) (Y1 : Nat → Int → Int → Option Int) (ln1 : Int → Int), u = (ad1, cnt1, X1, Y1, ln1) ∧ Ext ad cnt ln ad1 cnt1 ln1 ∧ Fx cnt1 ∧ Own cnt1 ∧ LnOK ln1 ∧ Rng X1 ∧ Frm [1901, 1902, 1907, 2000, 2100, 2200, 2300, 2] X X1 ∧ Frm [2400, 100] Y Y1 ∧ CInv cnt1 X1 Y1 ln1 ∧ (-4 ≤ z ∧ z ≤ 7) ∧ ((8 ≤ X 0 0 1 ∧ z = -4 ∧ X1 0 0 1 = X 0 0 1) ∨ (X 0 0 1 < 8 ∧ z = X 0 0 1 ∧ X1 0 0 1 = X 0 0 1 + 1 ∧ X1 19 (X 0 0 1) 1 = 0 ∧ X1 19 (X 0 0 1) 6 = 0)) ∧ (∀ y, y ≠ X 0 0 1 → X1 19 y = X 19 y ∧ X1 20 y = X 20 y ∧ X1 21 y = X 21 y ∧ X1 22 y = X 22 y ∧ X1 23 y = X 23 y) ∧ (∀ y, y ≠ X 0 0 1 → Y1 24 y = Y 24 y)) := by
  refine K_of (cc := cX8_type) (maxL := 1) (ret := (some .int)) (by decide) rfl (Nat.le_of_ble_eq_true rfl) ?_
  intro p e s m below meth c ls hx hb hr hml hown hts hlocks hl hK hw hS
  have hown : s.vm.findClass RX8 = some m.cls := hown
  have hbs : base ≤ s.heap.size := wd_size hw
  obtain ⟨av9, hav9⟩ : ∃ a9 : Array Value, a9 = ([.ref (ad 0 0)] : List Value).toArray := ⟨_, rfl⟩
  rw [← hav9] at hts ⊢
  obtain ⟨Q9, hQ9⟩ : ∃ q9Q : State → Prop, q9Q = MQ below (QI D tc base (fun z u => ∃ (ad1 : Nat → Int → Nat) (cnt1 : Nat → Int) (X1 : Nat → Int → Int → Int) (Y1 : Nat → Int → Int → Option Int) (ln1 : Int → Int), u = (ad1, cnt1, X1, Y1, ln1) ∧ Ext ad cnt ln ad1 cnt1 ln1 ∧ Fx cnt1 ∧ Own cnt1 ∧ LnOK ln1 ∧ Rng X1 ∧ Frm [1901, 1902, 1907, 2000, 2100, 2200, 2300, 2] X X1 ∧ Frm [2400, 100] Y Y1 ∧ CInv cnt1 X1 Y1 ln1 ∧ (-4 ≤ z ∧ z ≤ 7) ∧ ((8 ≤ X 0 0 1 ∧ z = -4 ∧ X1 0 0 1 = X 0 0 1) ∨ (X 0 0 1 < 8 ∧ z = X 0 0 1 ∧ X1 0 0 1 = X 0 0 1 + 1 ∧ X1 19 (X 0 0 1) 1 = 0 ∧ X1 19 (X 0 0 1) 6 = 0)) ∧ (∀ y, y ≠ X 0 0 1 → X1 19 y = X 19 y ∧ X1 20 y = X 20 y ∧ X1 21 y = X 21 y ∧ X1 22 y = X 22 y ∧ X1 23 y = X 23 y) ∧ (∀ y, y ≠ X 0 0 1 → Y1 24 y = Y 24 y))) av9 s 6 32 (frA base) := ⟨_, rfl⟩
  rw [← hQ9]
  obtain ⟨ad0, ha0⟩ : ∃ a, a = ad := ⟨_, rfl⟩
  obtain ⟨cnt0, hc0⟩ : ∃ a, a = cnt := ⟨_, rfl⟩
  obtain ⟨ln0, hl0⟩ : ∃ a, a = ln := ⟨_, rfl⟩
  have hE9 : ∀ a c n, Ext ad0 cnt0 ln0 a c n → Ext ad cnt ln a c n := by rw [ha0, hc0, hl0]; exact fun _ _ _ h => h
  have hE : Ext ad0 cnt0 ln0 ad cnt ln := by rw [ha0, hc0, hl0]; exact Ext.rf
  clear ha0 hc0 hl0
  have hi7 : ∀ w ∈ wsX70, w ∈ wsX8_type := fun w h => List.mem_cons_of_mem _ (List.mem_append_right _ h)
  have hf7 : fctx s m _ RX8 wsX8_type D tc RX7 TX7 8 7 := ⟨hts, hi7, hown, hK.1, rfl⟩
  have hi8 : ∀ w ∈ wsX80, w ∈ wsX8_type := fun w h => List.mem_cons_of_mem _ (List.mem_append_left _ (List.mem_append_right _ h))
  have hf8 : fctx s m _ RX8 wsX8_type D tc RX8 TX8 12 8 := ⟨hts, hi8, hown, hK.1, rfl⟩
  have lk11 := hts (.fieldLink RX8 11 (TX8 0).1 (TX8 0).2.1 (TX8 0).2.2.1) (gj_X8_type_0 _ (gp_1 gp_h))
  have lk63 := hts (.fieldLink RX8 63 (TX8 1).1 (TX8 1).2.1 (TX8 1).2.2.1) (gj_X8_type_0 _ (gp_h))
  have hc0 : cnt 0 = 1 := hFx.at 0 1 (by decide)
  have hc1 : cnt 1 = 1 := hFx.at 1 1 (by decide)
  have hc20 : cnt 20 = cnt 19 := hFx.2.1 20 (by decide)
  have hc21 : cnt 21 = cnt 19 := hFx.2.1 21 (by decide)
  have hc22 : cnt 22 = cnt 19 := hFx.2.1 22 (by decide)
  have hc23 : cnt 23 = cnt 19 := hFx.2.1 23 (by decide)
  have hc24 : cnt 24 = cnt 19 := hFx.2.1 24 (by decide)
  have hl : lv_has ls 1 [(0, .ref (ad 0 0))] := hl
  have ftc : 0 ≤ X 0 0 3 ∧ X 0 0 3 ≤ 30 := hR 0 0 3
  have fty : 0 ≤ X 0 0 1 ∧ X 0 0 1 ≤ 8 := hR 0 0 1
  have hct : cnt 19 = X 0 0 1 := hCI.2.2.2.1.1
  have hfj : 0 ≤ X 29 0 3 ∧ X 29 0 3 ≤ 4 := hR 29 0 3
  have hfn : 0 ≤ X 29 0 1 ∧ X 29 0 1 ≤ 80 := hR 29 0 1
  refine lv_aload_n hx hb dX8_type_0 rfl (lv_at hl 0 rfl) ?_
  refine x_geti (jz := 1) hx hb hf8 hw (by first | exact Int.le_refl 0 | omega) (by first | exact zlt hc0 | omega) sl_0_1 rfl lk63 dX8_type_1 ?_
  have f1 : 0 ≤ X 0 0 1 ∧ X 0 0 1 ≤ 8 := hR 0 0 1
  refine lv_bipush (v := jI 8) hx hb dX8_type_4 (by decide) ?_
  refine x_icmp_lt (tgt := 12) hx hb (by omega) (by omega) dX8_type_6 (by decide) (fun c2 => ?_) (fun c2 => ?_)
  · refine lv_aload_n hx hb dX8_type_12 rfl (lv_at hl 0 rfl) ?_
    refine x_geto hx hb hf8 hw (by first | exact Int.le_refl 0 | omega) (by first | exact zlt hc0 | omega) sl_0_0 lk11 dX8_type_13 ?_
    refine lv_aload_n hx hb dX8_type_16 rfl (lv_at hl 0 rfl) ?_
    refine x_geti (jz := 1) hx hb hf8 hw (by first | exact Int.le_refl 0 | omega) (by first | exact zlt hc0 | omega) sl_0_1 rfl lk63 dX8_type_17 ?_
    have f3 : 0 ≤ X 0 0 1 ∧ X 0 0 1 ≤ 8 := hR 0 0 1
    refine g_new (E := []) (G := []) (ci := 7) (fs := [.int 0, .int 0, .null, .null, .null, .null, .int 0, .null]) hx hb hf7 ⟨tyX7_ok, nmX7⟩ (hts (.classLink RX8 9 RX7) (by first | exact gj_X8_type_0 _ (gp_1 (gp_1 gp_h)) | decide +kernel)) (hts (.instantiable RX7 8) (by first | exact gj_X8_type_0 _ (gp_1 (gp_1 (gp_1 gp_h))) | decide +kernel)) (hts (.initialized RX7) (by first | exact gj_X8_type_0 _ (gp_4 gp_h) | decide +kernel)) (wx_of hw) hS hbs (fun j hj => by rcases (show j = 0 ∨ j = 1 ∨ j = 2 ∨ j = 3 ∨ j = 4 ∨ j = 5 ∨ j = 6 ∨ j = 7 by omega) with rfl | rfl | rfl | rfl | rfl | rfl | rfl | rfl <;> rfl) (by show _ ≤ (6 : Nat); omega) (by show _ ≤ (32 : Nat); omega) dX8_type_20 (fun q4 H hwx hS => ?_)
    have hwx : wx D tc base (ad, cnt, X, Y, ln) ([] ++ [(q4, .inr (7, [.int 0, .int 0, .null, .null, .null, .null, .int 0, .null]))]) H := hwx
    have hw := wx_wd hwx
    refine lv_dup hx hb dX8_type_23 rfl ?_
    refine lv_aload_n hx hb dX8_type_24 rfl (lv_at hl 0 rfl) ?_
    refine x_geti (jz := 1) hx hb hf8 hw (by first | exact Int.le_refl 0 | omega) (by first | exact zlt hc0 | omega) sl_0_1 rfl lk63 dX8_type_25 ?_
    have f5 : 0 ≤ X 0 0 1 ∧ X 0 0 1 ≤ 8 := hR 0 0 1
    refine gos_x (run_I (As := [.int (jI (X 0 0 1))]) (rest := [.ref q4, .int (jI (X 0 0 1)), .ref (ad 1 0)]) hx hb hml hown hts (c_X7_init l D tc base (ad, cnt, X, Y, ln) [] q4 (X 0 0 1)) (cwI 1 hts gX8_type_X7_init rfl rfl rfl (hts (.initialized RX7) (by first | exact gj_X8_type_0 _ (gp_4 gp_h) | decide +kernel)) (hts (.methodLink RX8 67 yX7_init) (by first | exact gj_X8_type_0 _ (gp_4 (gp_1 gp_h)) | decide +kernel)) (hts (.instanceMethod yX7_init) (by first | exact gj_X8_type_0 _ (gp_4 (gp_1 (gp_1 gp_h))) | decide +kernel)) rfl (by decide +kernel) ⟨Nat.le_of_ble_eq_true rfl, Nat.le_of_ble_eq_true rfl⟩) hK hwx rfl hl.1 rfl (Nat.le_of_ble_eq_true rfl) dX8_type_28 ⟨by show _ ≤ (6 : Nat); omega, by show _ ≤ (32 : Nat); omega⟩) hS (fun u9 E6 H locs p7 hwx hS => ?_)
    obtain ⟨g8, hg8⟩ : ∃ g, g = cnt 19 := ⟨_, rfl⟩
    obtain ⟨rfl, q1, q2, q3, q4, q5, rfl⟩ := p7
    have hwx := (show wx D tc base (ad, cnt, X, Y, ln) ([] ++ _) H from hwx)
    obtain ⟨ad, cnt, X9, Y10, ln, hw, hE11, hFx, hOw, hLn, hRX9, hG12, hJ13, hkg8, hag8, hty1, hty2, hty3, hty4, hty5, hty6, hty7⟩ := born_type hwx (by omega) hFx hOw (by omega) hR hLn
    rw [← hg8] at hkg8 hag8 hty1 hty2 hty3 hty4 hty6 hty7
    have hFX9 : Frm [1901, 1902, 1907, 2000, 2100, 2200, 2300, 2] X X9 := Frm.tr Frm.rf (Frm.mono hG12 (by first | exact nls_of rfl | decide))
    have hHY10 : Frm [2400, 100] Y Y10 := Frm.tr Frm.rf (Frm.mono hJ13 (by first | exact nls_of rfl | decide))
    have hE := Ext.tr hE hE11
    have hm14 := hE11.2.1 19
    have hm15 := hE11.2.1 25
    have hm16 := hE11.2.1 26
    have hN : 0 ≤ cnt 25 ∧ 0 ≤ cnt 26 := by omega
    have ha17 := hE11.1 0 0 (by omega) (by omega)
    have ha18 := hE11.1 1 0 (by omega) (by omega)
    have hc0 : cnt 0 = 1 := hFx.at 0 1 (by decide)
    have hc1 : cnt 1 = 1 := hFx.at 1 1 (by decide)
    have hc20 : cnt 20 = cnt 19 := hFx.2.1 20 (by decide)
    have hc21 : cnt 21 = cnt 19 := hFx.2.1 21 (by decide)
    have hc22 : cnt 22 = cnt 19 := hFx.2.1 22 (by decide)
    have hc23 : cnt 23 = cnt 19 := hFx.2.1 23 (by decide)
    have hc24 : cnt 24 = cnt 19 := hFx.2.1 24 (by decide)
    have hl : lv_has ls 1 [(0, .ref (ad 0 0))] := by rw [ha17]; exact hl
    refine W.eq (g2 := F0 m 31 ls [.ref (ad 19 g8), .int (jI (X 0 0 1)), .ref (ad 1 0)]) (by first | rfl | (rw [ha18, hag8]; done) | (rw [ha18, hag8]; rfl)) ?_
    refine x_aast hx hb hK.1 hw hS (by first | exact Int.le_refl 0 | omega) (by first | exact zlt hc1 | omega) ar_1 rfl rfl sl_19_0 (len_E ar_1 (by first | exact Nat.ne_of_beq_eq_false rfl | decide)) (by omega) (by omega) (by omega) (by omega) (by omega) dX8_type_31 (fun H locs hw hS => ?_)
    obtain ⟨Y19, hY19⟩ : ∃ Yq, Yq = u3 Y10 1 0 (X 0 0 1) (some g8) := ⟨_, rfl⟩
    rw [← hY19] at hw
    have hVY19 : Y19 1 0 (X 0 0 1) = (some g8) := by rw [hY19]; exact u3_s _ _ _ _ _
    have hHY19 : Frm [2400, 100] Y Y19 := by rw [hY19]; exact Frm.set hHY10 (show 100 ∈ [2400, 100] by first | exact nlm_in rfl | decide)
    refine lv_aload_n hx hb dX8_type_32 rfl (lv_at hl 0 rfl) ?_
    refine lv_dup hx hb dX8_type_33 rfl ?_
    refine x_geti (jz := 1) hx hb hf8 hw (by first | exact Int.le_refl 0 | omega) (by first | exact zlt hc0 | omega) sl_0_1 rfl lk63 dX8_type_34 ?_
    have e20 : X9 0 0 1 = X 0 0 1 := by rw [hG12 0 0 1 (show 2 ∉ [1901, 1902, 1907, 2000, 2100, 2200, 2300] by first | exact nlm_ni rfl | decide)]
    rw [e20]
    have f21 : 0 ≤ X 0 0 1 ∧ X 0 0 1 ≤ 8 := hR 0 0 1
    refine lv_iconst (v := jI 1) hx hb dX8_type_37 rfl ?_
    refine x_iadd hx hb dX8_type_38 ?_
    refine x_puti (jz := 1) hx hb hf8 ⟨tyX8_ok, nmX8⟩ hw hS (by first | exact Int.le_refl 0 | omega) (by first | exact zlt hc0 | omega) sl_0_1 rfl lk63 rfl (tyX8_ok 1 (by decide)) rfl rfl dX8_type_39 (fun H locs hw hS => ?_)
    obtain ⟨X22, hX22⟩ : ∃ Xq, Xq = u3 X9 0 0 1 ((X 0 0 1) + 1) := ⟨_, rfl⟩
    rw [← hX22] at hw
    have hRX22 : Rng X22 := by rw [hX22]; exact rng_set hRX9 (show 0 ≤ ((X 0 0 1) + 1) ∧ ((X 0 0 1) + 1) ≤ 8 by omega)
    have hVX22 : X22 0 0 1 = ((X 0 0 1) + 1) := by rw [hX22]; exact u3_s _ _ _ _ _
    have hFX22 : Frm [1901, 1902, 1907, 2000, 2100, 2200, 2300, 2] X X22 := by rw [hX22]; exact Frm.set hFX9 (show 2 ∈ [1901, 1902, 1907, 2000, 2100, 2200, 2300, 2] by first | exact nlm_in rfl | decide)
    refine lv_aload_n hx hb dX8_type_42 rfl (lv_at hl 0 rfl) ?_
    refine x_geti (jz := 1) hx hb hf8 hw (by first | exact Int.le_refl 0 | omega) (by first | exact zlt hc0 | omega) sl_0_1 rfl lk63 dX8_type_43 ?_
    rw [hVX22]
    refine lv_iconst (v := jI 1) hx hb dX8_type_46 rfl ?_
    refine x_isub hx hb dX8_type_47 ?_
    rw [hQ9]
    refine ret_i (mc := 6) (ms := 32) hx hb hr hlocks hw hS (by first | exact Nat.le_of_ble_eq_true rfl | omega) (by first | exact Nat.le_of_ble_eq_true rfl | omega) dX8_type_48 ?_
    have hT9 : X 0 0 1 = g8 := by first | exact (hg8.trans hct).symm | omega
    have hx7 : ∀ (k : Nat) (y : Int), k ≠ 0 → y ≠ g8 → X22 k y = X k y := fun k y hk hy => by rw [hX22, u3_k _ _ _ _ hk]; exact hty7 k y hy
    have hx8 : ∀ y : Int, y ≠ X 0 0 1 → X22 19 y = X 19 y ∧ X22 20 y = X 20 y ∧ X22 21 y = X 21 y ∧ X22 22 y = X 22 y ∧ X22 23 y = X 23 y := by
      intro y hy
      have h9 : y ≠ g8 := fun q => hy (q.trans hT9.symm)
      exact ⟨hx7 19 y (by decide) h9, hx7 20 y (by decide) h9, hx7 21 y (by decide) h9, hx7 22 y (by decide) h9, hx7 23 y (by decide) h9⟩
    exact ⟨ad, cnt, X22, Y19, ln, rfl, hE9 _ _ _ hE, hFx, hOw, hLn, hRX22, hFX22, hHY19, cinv_type (T := X 0 0 1) hCI rfl (by omega) hFX22 hHY19 hVX22 (fun i hi => ⟨by rw [hX22, u3_k _ _ _ _ (by first | exact Nat.ne_of_beq_eq_false rfl | decide), hty3 i (fun q9 => hi (q9.trans hT9.symm))], by rw [hX22, u3_k _ _ _ _ (by first | exact Nat.ne_of_beq_eq_false rfl | decide), hty3 i (fun q9 => hi (q9.trans hT9.symm))], fun j => by rw [hY19, u3_k _ _ _ _ (by first | exact Nat.ne_of_beq_eq_false rfl | decide), hty4 i (fun q9 => hi (q9.trans hT9.symm))], by rw [hY19, u3_ij (fun q9 => hi q9.2), hJ13 1 0 i (show 100 ∉ [2400] by first | exact nlm_ni rfl | decide)]⟩) ⟨by rw [hX22, u3_k _ _ _ _ (by first | exact Nat.ne_of_beq_eq_false rfl | decide), hT9]; rw [hT9] at hty1; exact hty1, by rw [hX22, u3_k _ _ _ _ (by first | exact Nat.ne_of_beq_eq_false rfl | decide), hT9]; exact hty2, by rw [hVY19, hT9]⟩ (funext hty5), by omega, Or.inr ⟨by omega, (by first | exact Int.add_sub_cancel _ _ | omega), (by first | exact hVX22 | omega), (by rw [hX22, u3_k _ _ _ _ (by first | exact Nat.ne_of_beq_eq_false rfl | decide), hT9]; exact hty6), (by rw [hX22, u3_k _ _ _ _ (by first | exact Nat.ne_of_beq_eq_false rfl | decide), hT9]; exact hty2)⟩, hx8, fun y hy => (by rw [hY19, u3_k _ _ _ _ (by first | exact Nat.ne_of_beq_eq_false rfl | decide)]; exact hty4 y (fun q9 => hy (q9.trans hT9.symm)))⟩
  · refine lv_bipush (v := jI (-4)) hx hb dX8_type_9 (by decide) ?_
    rw [hQ9]
    refine ret_i (mc := 6) (ms := 32) hx hb hr hlocks hw hS (by first | exact Nat.le_of_ble_eq_true rfl | omega) (by first | exact Nat.le_of_ble_eq_true rfl | omega) dX8_type_11 ?_
    exact ⟨ad, cnt, X, Y, ln, rfl, hE9 _ _ _ hE, hFx, hOw, hLn, hR, Frm.rf, Frm.rf, hCI, by omega, Or.inl ⟨by omega, by omega, rfl⟩, fun y hy => ⟨rfl, rfl, rfl, rfl, rfl⟩, fun y hy => rfl⟩
end
section
/-! throwing and catching -/
section Rows2
variable {p : Program} {l : Launch} {e : Env} {R : Room} {s : State} {m : MethodId} {args : Array Value} {below : List Frame} {meth : Method} {c : Code} {H : Heap} {locs : List Loc} {cells slots : Nat} {Q : State → Prop}
variable {mc ms : Nat} {free : Addr → Prop} {A0 A1 : Nat → Prop} {H0 : Heap} {a : Array Value} {pc : Nat} {ls : Array Slot} {st0 rest : List Value}
/-- caught by the row x of this method's table; the rows ahead don't take it -/
theorem vx_catch {own name : String} {E : String} {ce : Cell} {q : Addr} (hown : s.vm.findClass own = some m.cls) (pre : List ExceptionTableEntry) (x : ExceptionTableEntry) (suf : List ExceptionTableEntry) (hsplit : c.exceptionTable.toList = pre ++ x :: suf)
    (hpass : ∀ z ∈ pre, covers z pc = false ∨ (z.catchType ≠ 0 ∧ ∃ nm : String, (Cond.classLink own z.catchType nm).before args s = true ∧ va_Nc E nm s)) (hx : covers x pc = true) (h0 : x.catchType ≠ 0)
    (hlink : (Cond.classLink own x.catchType name).before args s = true) (hcast : (Cond.castable E name).before args s = true) (hcell : H[q]? = some ce) (hv : ce.vm = .none) (hcl : s.vm.findClass E = some ce.cls)
    (kk : W p l e R s m args below meth c H locs cells slots Q (F0 m x.handlerPc ls [.ref q])) : vx_W p l e R s m args below meth c H locs cells slots Q (F0 m pc ls rest) q := by
  intro T hT X
  have hpl : e.platform.magicAccessors = ({} : Platform).magicAccessors := by rw [X.admits.platform]
  obtain ⟨c3, c4, hc3, hc4, hasg⟩ := Cond.castable_spec hcast
  cases Option.some.inj (hc3.symm.trans hcl)
  obtain ⟨c5, hc5, hcl5⟩ := Cond.classLink_spec hown hlink e.platform hpl
  cases Option.some.inj (hc4.symm.trans hc5)
  obtain ⟨vm', X', st⟩ := X.thenCaughtThrough q (g := F0 m pc ls rest) rfl (Steps.refl _) (by rw [hT]; exact hcell) (by rw [hv]; rfl) (by obtain ⟨k9, h9, -⟩ := Vm.findClass_spec hcl; exact ⟨k9, h9⟩) pre x suf hsplit
    (fun z hz => by
      rcases hpass z hz with h | ⟨hz0, nm, hl1, hn1⟩
      · exact Or.inl h
      · obtain ⟨c6, hc6, hcl6⟩ := Cond.classLink_spec hown hl1 e.platform hpl
        obtain ⟨a8, b8, h1, h2, h3⟩ := hn1
        cases Option.some.inj (h1.symm.trans hcl)
        cases Option.some.inj (h2.symm.trans hc6)
        exact Or.inr ⟨hz0, _, hcl6, h3⟩) hx (Or.inr ⟨h0, c4, hcl5, hasg⟩)
  obtain ⟨t, a1, b1⟩ := kk (T.setVm vm') hT X'
  exact ⟨t, st.trans a1, b1⟩
end Rows2
/-- what a throw stands on -/
def dI1 : MethodName := ⟨"java/lang/RuntimeException", "<init>", "(Ljava/lang/String;)V"⟩
def dI2 : MethodName := ⟨"java/lang/Exception", "<init>", "(Ljava/lang/String;)V"⟩
def dI3 : MethodName := ⟨"java/lang/Throwable", "<init>", "(Ljava/lang/String;)V"⟩
abbrev eA : String := "java/lang/IllegalArgumentException"
abbrev eI : String := "java/lang/IndexOutOfBoundsException"
abbrev eS : String := "java/lang/IllegalStateException"
abbrev eNs : List String := ["java/lang/RuntimeException", "java/lang/Exception"]
def TS (U : State) : Prop := (∃ a, vk_R RX8 183 "no such thing" a U) ∧ (∃ a, vk_R RX8 190 "no such field" a U) ∧ (∃ a, vk_R RX8 198 "no lane of rows" a U) ∧ (∃ a, vk_R RX8 201 "no row" a U) ∧ (∃ a, vk_R RX8 203 "no such item" a U)
def TD (U : State) : Prop := va_Nw (.declares dI1) U ∧ va_Nw (.declares dI2) U ∧ va_Nw (.declares dI3) U
def TC (U : State) : Prop := va_Nw (.castable eA eA) U ∧ va_Nw (.castable eI eI) U ∧ va_Nw (.castable eS eS) U
def TN (U : State) : Prop := va_Nc eI eA U ∧ va_Nc eS eA U ∧ va_Nc eI eS U
def TZ (base : Nat) (U : State) (H : Heap) : Prop := vx_Zq Bundle.tN "UNASSIGNED_STACK" Bundle.steD (frA base) U H ∧ vx_Zq Bundle.tN "SUPPRESSED_SENTINEL" Bundle.listD (frA base) U H
def TK (base : Nat) (U : State) (H : Heap) : Prop := TS U ∧ TD U ∧ TC U ∧ TN U ∧ TZ base U H
theorem TK.go {base : Nat} {s U : State} {H0 H : Heap} {locs : List Loc} (h : TK base s H0) (hS : va_S (frA base) H0 H locs) (hW : s.WarmedH U.vm) : TK base U H := by
  obtain ⟨⟨⟨a1, h1⟩, ⟨a2, h2⟩, ⟨a3, h3⟩, ⟨a4, h4⟩, ⟨a5, h5⟩⟩, ⟨d1, d2, d3⟩, ⟨c1, c2, c3⟩, ⟨n1, n2, n3⟩, z1, z2⟩ := h
  exact ⟨⟨⟨a1, vk_R.warm hW h1⟩, ⟨a2, vk_R.warm hW h2⟩, ⟨a3, vk_R.warm hW h3⟩, ⟨a4, vk_R.warm hW h4⟩, ⟨a5, vk_R.warm hW h5⟩⟩, ⟨va_Nw.warmD hW d1, va_Nw.warmD hW d2, va_Nw.warmD hW d3⟩, ⟨va_Nw.warmC hW c1, va_Nw.warmC hW c2, va_Nw.warmC hW c3⟩, ⟨va_Nc.moved hW.alike n1, va_Nc.moved hW.alike n2, va_Nc.moved hW.alike n3⟩, vx_Zq.moved hW.alike (z1.kept hS.2.1), vx_Zq.moved hW.alike (z2.kept hS.2.1)⟩
theorem TK.call {base : Nat} {U : State} {H : Heap} {g : JFrame} {mk : MethodId} {a : Array Value} (h : TK base U H) : TK base (U.calling g mk a) H := by
  obtain ⟨⟨⟨a1, h1⟩, ⟨a2, h2⟩, ⟨a3, h3⟩, ⟨a4, h4⟩, ⟨a5, h5⟩⟩, ⟨d1, d2, d3⟩, ⟨c1, c2, c3⟩, ⟨n1, n2, n3⟩, z1, z2⟩ := h
  exact ⟨⟨⟨a1, vk_R.same rfl h1⟩, ⟨a2, vk_R.same rfl h2⟩, ⟨a3, vk_R.same rfl h3⟩, ⟨a4, vk_R.same rfl h4⟩, ⟨a5, vk_R.same rfl h5⟩⟩, ⟨va_Nw.same rfl rfl d1, va_Nw.same rfl rfl d2, va_Nw.same rfl rfl d3⟩, ⟨va_Nw.same rfl rfl c1, va_Nw.same rfl rfl c2, va_Nw.same rfl rfl c3⟩, ⟨va_Nc.moved (u := U) (U := U.calling g mk a) (Vm.Alike.refl U.vm) n1, va_Nc.moved (u := U) (U := U.calling g mk a) (Vm.Alike.refl U.vm) n2, va_Nc.moved (u := U) (U := U.calling g mk a) (Vm.Alike.refl U.vm) n3⟩, vx_Zq.moved (u := U) (U := U.calling g mk a) (Vm.Alike.refl U.vm) z1, vx_Zq.moved (u := U) (U := U.calling g mk a) (Vm.Alike.refl U.vm) z2⟩
def PcT (D : va_G) (tc : Nat → ClassId) (base : Nat) (u : St) (av : List Value) : Array Value → State → Prop := va_Pc av (fun U => wd D tc base u U.heap ∧ Kx D tc U ∧ TK base U U.heap)
theorem PcT.blind {D : va_G} {tc : Nat → ClassId} {base : Nat} {u : St} {av : List Value} : FrameBlind (PcT D tc base u av) := fun a U g mk q => ⟨q.1, q.2.1, q.2.2.1.call, q.2.2.2.call⟩
def XT (D : va_G) (tc : Nat → ClassId) (base : Nat) (u : St) (Es : List String) : String → State → State → Prop := vx_X (fun (_ : Unit) => True) (fun E _ t => E ∈ Es ∧ wd D tc base u t.heap) (frA base)
def KT (l : Launch) (D : va_G) (tc : Nat → ClassId) (base : Nat) (y : MethodName) (ws : List Cond) (rm : Room) (av : List Value) (u : St) (mc ms : Nat) (post : Int → St → Prop) (Es : List String) : Prop := vx_Met l y ws rm (PcT D tc base u av) (QL D tc base post) (XT D tc base u Es) mc ms (frA base)
theorem KT_of {l : Launch} {D : va_G} {tc : Nat → ClassId} {base : Nat} {y : MethodName} {ws ws' : List Cond} {rm : Room} {av : List Value} {u : St} {mc ms : Nat} {Qc : Array Value → State → Outcome → State → Prop} {XC : String → State → State → Prop} {cc : ByteArray} {maxL : Nat} {ret : Option FieldType}
    (hy : plainName y.cls = true) (hw : ws = Cond.code y cc maxL ret :: ws') (hsl : (lg_sl av).length ≤ maxL)
    (body : ∀ (p : Program) (e : Env) (s : State) (m : MethodId) (below : List Frame) (meth : Method) (c : Code) (ls : Array Slot), p.tables.exec = Jvm.exec → c.code = cc → meth.sig.returnType = ret → c.maxLocals = maxL → s.vm.findClass y.cls = some m.cls → (∀ w ∈ ws, w.before av.toArray s = true) → meth.locks = false → (∀ x ∈ c.exceptionTable.toList, False) → lv_has ls maxL (lv_args 0 av) → Kx D tc s → TK base s s.heap → wd D tc base u s.heap → va_S (frA base) s.heap s.heap [] →
      W p l e rm s m av.toArray below meth c s.heap [] 0 0 (vx_MQ below Qc XC av.toArray s mc ms (frA base)) (F0 m 0 ls [])) : vx_Met l y ws rm (PcT D tc base u av) Qc XC mc ms (frA base) := by
  refine vx_ofW (cc := cc) (maxL := maxL) (ret := ret) hy hw ?_
  intro p e s m args below meth c s₁ B hml hex hv
  obtain ⟨rfl, hW, hK, hT⟩ := hv
  have hl := lv_entry av (n := maxL) hsl
  rw [lg_entry_eq]
  exact body p e s m below meth c _ B.exec B.bytes B.returns hml (findClass_of_methodNamed B.named) (atoms_spec (ws := ws) B.pre) B.notSynchronized hex hl hK hT hW va_S.rf
theorem wd_kept {D : va_G} {tc : Nat → ClassId} {base : Nat} {u : St} {H H1 : Heap} (h : wd D tc base u H) (hz : H.size ≤ H1.size) (hq : ∀ q : Nat, q < H.size → H1[q]? = H[q]?) : wd D tc base u H1 := by
  obtain ⟨⟨RL, h1, h2, h3⟩, h4, h5⟩ := h
  exact ⟨⟨RL, h1, h2.kept (fun k q hk => hq _ (h2 k q hk).lt), h3⟩, h4, Nat.le_trans h5 hz⟩
/-- the throw of a new exception with a text -/
theorem t_throw {p : Program} {l : Launch} {e : Env} {R : Room} {s : State} {m : MethodId} {args : Array Value} {below : List Frame} {meth : Method} {c : Code} {H : Heap} {locs : List Loc} {cells slots : Nat} {ls : Array Slot} {rest : List Value} {Qc : Array Value → State → Outcome → State → Prop} {D : va_G} {tc : Nat → ClassId} {base : Nat} {u : St} {Es : List String}
    {cc : ByteArray} {pc : Nat} (hx : p.tables.exec = Jvm.exec) (hb : c.code = cc) (hl : l.stackTraces = false) {cls text : String} {ik is ic mc ms sa : Nat} (hown : s.vm.findClass RX8 = some m.cls) (hcls : Bundle.fit cls = true)
    (hk : (Cond.classLink RX8 ik cls).before args s = true) (hini : (Cond.initialized cls).before args s = true) (hstr : vk_R RX8 is text sa s) (hat : ∀ w ∈ (vx_atS RX8 ic cls eNs).filter goodWord, w.before args s = true)
    (hb2 : ∀ w ∈ (vx_atS RX8 ic cls eNs).filter (fun w => !goodWord w), w ∈ [Cond.declares dI1, Cond.declares dI2, Cond.declares dI3, Cond.castable cls cls]) (hcc : va_Nw (.castable cls cls) s) (hT : TK base s s.heap)
    (hgood : ∀ w ∈ Cond.classLink RX8 ik cls :: Cond.initialized cls :: vx_atS RX8 ic cls eNs, vx_ot w = true)
    (hw : wd D tc base u H) (hS : va_S (frA base) s.heap H locs) (hsize : ls.size = c.maxLocals)
    (d0 : decode cc pc = .ok (.new ik, 3)) (d3 : decode cc (pc + 3) = .ok (.dup, 1)) (d4 : decode cc (pc + 4) = .ok (.ldc is, 2)) (d6 : decode cc (pc + 6) = .ok (.invokespecial ic, 3)) (d9 : decode cc (pc + 9) = .ok (.athrow, 1))
    (hout : ∀ x ∈ c.exceptionTable.toList, False) (hRframes : 5 < R.frames) (hRlocals : (rest.map fun v => v.category).sum + 82 ≤ R.locals) (hRcells : cells + 1 ≤ R.cells) (hRslots : slots + 6 ≤ R.slots) (hlocks : meth.locks = false) (hm : cls ∈ Es) (hc : cells + 1 ≤ mc) (hs : slots + 6 ≤ ms) :
    W p l e R s m args below meth c H locs cells slots (vx_MQ below Qc (XT D tc base u Es) args s mc ms (frA base)) (F0 m pc ls rest) := by
  obtain ⟨hTS, ⟨hd1, hd2, hd3⟩, hTC, hTN, hz1, hz2⟩ := hT
  refine vx_throwS hx hb hl hown hcls (by decide +kernel) hk hini hstr (vx_hat hat hb2 (vx_c (va_Nw.use rfl hd1) (vx_c (va_Nw.use rfl hd2) (vx_c (va_Nw.use rfl hd3) (vx_c (va_Nw.use rfl hcc) vx_n))))) hgood hz1 hz2 hS hsize d0 d3 d4 d6 d9 (fun x hx => (hout x hx).elim) hRframes hRlocals hRcells hRslots hlocks ?_ hS.2.2 hc hs
  intro t ht h1 h2
  refine ⟨(), trivial, ⟨hm, wd_kept hw h1 h2⟩, ?_⟩
  exact ⟨Nat.le_trans hS.1 h1, fun q hq hA => (h2 q (Nat.lt_of_lt_of_le hq hS.1)).trans (hS.2.1 q hq hA)⟩
end
section
set_option maxHeartbeats 4000000 in
set_option maxRecDepth 100000 in
theorem c_X8_at (l : Launch) (hlT : l.stackTraces = false) (D : va_G) (tc : Nat → ClassId) (base : Nat) (ad : Nat → Int → Nat) (cnt : Nat → Int) (X : Nat → Int → Int → Int) (Y : Nat → Int → Int → Option Int) (ln : Int → Int) (hR : Rng X) (hFx : Fx cnt) (hLn : LnOK ln) (hCI : CInv cnt X Y ln) (x k : Int) (hx : -2147483648 ≤ x ∧ x ≤ 2147483647) (hk : -2147483648 ≤ k ∧ k ≤ 2147483647) : KT l D tc base yX8_at wsX8_at ({ frames := 6, cells := 1, slots := 6, locals := 82 } : Room) [.ref (ad 0 0), .int (jI x), .int (jI k)] (ad, cnt, X, Y, ln) 1 6 (fun z u => u = (ad, cnt, X, Y, ln) ∧ (-9223372036854775808 ≤ z ∧ z ≤ 9223372036854775807)) [eA, eI] := by
  refine KT_of (cc := cX8_at) (maxL := 5) (ret := (some .long)) (by decide) rfl (Nat.le_of_ble_eq_true rfl) ?_
  intro p e s m below meth c ls hx hb hr hml hown hts hlocks hex hl hK hT hw hS
  have hown : s.vm.findClass RX8 = some m.cls := hown
  have hi5 : ∀ w ∈ wsX50, w ∈ wsX8_at := fun w h => List.mem_cons_of_mem _ (List.mem_append_left _ (List.mem_append_left _ (List.mem_append_left _ (List.mem_append_right _ h))))
  have hf5 : fctx s m _ RX8 wsX8_at D tc RX5 TX5 2 5 := ⟨hts, hi5, hown, hK.1, rfl⟩
  have hi6 : ∀ w ∈ wsX60, w ∈ wsX8_at := fun w h => List.mem_cons_of_mem _ (List.mem_append_left _ (List.mem_append_left _ (List.mem_append_left _ (List.mem_append_left _ (List.mem_append_left _ (List.mem_append_right _ h))))))
  have hf6 : fctx s m _ RX8 wsX8_at D tc RX6 TX6 4 6 := ⟨hts, hi6, hown, hK.1, rfl⟩
  have hi7 : ∀ w ∈ wsX70, w ∈ wsX8_at := fun w h => List.mem_cons_of_mem _ (List.mem_append_left _ (List.mem_append_left _ (List.mem_append_left _ (List.mem_append_left _ (List.mem_append_right _ h)))))
  have hf7 : fctx s m _ RX8 wsX8_at D tc RX7 TX7 8 7 := ⟨hts, hi7, hown, hK.1, rfl⟩
  have lk97 := hts (.fieldLink RX8 97 (TX6 0).1 (TX6 0).2.1 (TX6 0).2.2.1) (gj_X8_at_0 _ (gp_4 gp_h))
  have lk135 := hts (.fieldLink RX8 135 (TX7 3).1 (TX7 3).2.1 (TX7 3).2.2.1) (gj_X8_at_0 _ (gp_4 (gp_1 gp_h)))
  have lk158 := hts (.fieldLink RX8 158 (TX6 2).1 (TX6 2).2.1 (TX6 2).2.2.1) (gj_X8_at_0 _ (gp_4 (gp_1 (gp_1 (gp_1 gp_h)))))
  have lk161 := hts (.fieldLink RX8 161 (TX5 0).1 (TX5 0).2.1 (TX5 0).2.2.1) (gj_X8_at_0 _ (gp_4 (gp_4 (gp_1 gp_h))))
  have lk193 := hts (.fieldLink RX8 193 (TX6 1).1 (TX6 1).2.1 (TX6 1).2.2.1) (gj_X8_at_0 _ (gp_4 (gp_1 (gp_1 gp_h))))
  have hc0 : cnt 0 = 1 := hFx.at 0 1 (by decide)
  have hc15 : cnt 15 = 30 := hFx.at 15 30 (by decide)
  have hc16 : cnt 16 = 30 := hFx.at 16 30 (by decide)
  have hc17 : cnt 17 = 30 := hFx.at 17 30 (by decide)
  have hc21 : cnt 21 = cnt 19 := hFx.2.1 21 (by decide)
  have hc27 : cnt 27 = cnt 26 := hFx.2.2
  have hl : lv_has ls 5 [(0, .ref (ad 0 0)), (1, .int (jI x)), (2, .int (jI k))] := hl
  have ftc : 0 ≤ X 0 0 3 ∧ X 0 0 3 ≤ 30 := hR 0 0 3
  have fty : 0 ≤ X 0 0 1 ∧ X 0 0 1 ≤ 8 := hR 0 0 1
  have hct : cnt 19 = X 0 0 1 := hCI.2.2.2.1.1
  have hfj : 0 ≤ X 29 0 3 ∧ X 29 0 3 ≤ 4 := hR 29 0 3
  have hfn : 0 ≤ X 29 0 1 ∧ X 29 0 1 ≤ 80 := hR 29 0 1
  refine lv_aload_n hx hb dX8_at_0 rfl (lv_at hl 0 rfl) ?_
  refine lv_iload_n hx hb dX8_at_1 rfl (lv_at hl 1 rfl) ?_
  refine x_i2l hx hb (by omega) dX8_at_2 ?_
  refine gos_r (run_V (As := [.long (jL x)]) (rest := []) hx hb hml hown hts (c_X8_thingNumbered l D tc base ad cnt X Y ln hR hFx hLn hCI x (by omega)) (cwV 1 hts gX8_at_X8_thingNumbered rfl rfl rfl (by first | exact hd_X8_thingNumbered | decide +kernel) ⟨Nat.le_of_ble_eq_true rfl, Nat.le_of_ble_eq_true rfl⟩) hK hw (by first | exact Int.le_refl 0 | omega) (by first | exact zlt hc0 | omega) sl_0_0 rfl rfl hl.1 rfl (Nat.le_of_ble_eq_true rfl) dX8_at_3 ⟨(by show _ ≤ (1 : Nat); omega), (by show _ ≤ (6 : Nat); omega)⟩) hS (fun u2 H locs p3 hw hS => ?_) (fun z1 u2 H locs p3 hw hS => ?_)
  · obtain ⟨eu2, hsp3, hnp3⟩ := p3
    subst eu2
    refine lv_astore_nN (lv' := [(3, .null), (0, .ref (ad 0 0)), (1, .int (jI x)), (2, .int (jI k))]) hx hb dX8_at_6 rfl hl (by decide) rfl (fun ls hl => ?_)
    refine lv_aload_nN hx hb dX8_at_7 rfl (lv_at hl 0 rfl) ?_
    refine lv_ifnonnullN hx hb dX8_at_8 ?_
    obtain ⟨sa, hsa⟩ := hT.1.1
    exact t_throw hx hb hlT hown (by decide +kernel) (hts (.classLink RX8 181 eA) (by decide +kernel)) (hts (.initialized eA) (by decide +kernel)) hsa (fun w hq => hts w (List.mem_cons_of_mem _ (List.mem_append_left _ (List.mem_append_right _ hq)))) (by decide +kernel) hT.2.2.1.1 hT (by decide +kernel) hw hS (hl.1.trans hml.symm) dX8_at_11 dX8_at_14 dX8_at_15 dX8_at_17 dX8_at_20 hex (Nat.le_of_ble_eq_true rfl) (Nat.le_of_ble_eq_true rfl) (by show _ ≤ (1 : Nat); omega) (by show _ ≤ (6 : Nat); omega) hlocks (by decide) (by omega) (by omega)
  · obtain ⟨eu2, hsp3, hnp3⟩ := p3
    subst eu2
    obtain ⟨ezz1, p3⟩ := hsp3 z1 rfl
    refine lv_astore_n (lv' := [(3, .ref (ad 15 z1)), (0, .ref (ad 0 0)), (1, .int (jI x)), (2, .int (jI k))]) hx hb dX8_at_6 rfl hl (by decide) rfl (fun ls hl => ?_)
    refine lv_aload_n hx hb dX8_at_7 rfl (lv_at hl 0 rfl) ?_
    refine lv_ifnonnull (tgt := 21) hx hb dX8_at_8 (by decide) ?_
    refine lv_aload_n hx hb dX8_at_21 rfl (lv_at hl 0 rfl) ?_
    refine x_getr (jz := 0) hx hb hf6 hw (by omega) (by omega) sl_15_0 rfl lk97 dX8_at_22 (fun y4 => ?_) (fun r5 y4 gr5 lr5 => ?_)
    · exfalso
      exact absurd y4 (hCI.2.2.2.2.1 z1 (by omega) (by omega))
    · refine lv_iload_n hx hb dX8_at_25 rfl (lv_at hl 3 rfl) ?_
      refine gos_i (run_V (As := [.int (jI k)]) (rest := []) hx hb hml hown hts (c_X7_hasField l D tc base ad cnt X Y ln hR hFx hLn r5 k (by omega) (by omega)) (cwV 1 hts gX8_at_X7_hasField rfl rfl rfl (by first | exact hd_X7_hasField | decide +kernel) ⟨Nat.le_of_ble_eq_true rfl, Nat.le_of_ble_eq_true rfl⟩) hK hw (by first | exact Int.le_refl 0 | omega) (by first | exact zlt hc19 | omega) sl_19_0 rfl rfl hl.1 rfl (Nat.le_of_ble_eq_true rfl) dX8_at_26 ⟨(by show _ ≤ (1 : Nat); omega), (by show _ ≤ (6 : Nat); omega)⟩) hS (fun z6 u7 H locs p8 hw hS => ?_)
      obtain ⟨eu7, p8⟩ := p8
      subst eu7
      rcases p8 with ⟨ez6, p8⟩ | ⟨ez6, p8⟩
      · subst ez6
        refine x_if_neT (tgt := 42) hx hb (by omega) (by decide) dX8_at_29 (by decide) ?_
        refine lv_aload_n hx hb dX8_at_42 rfl (lv_at hl 0 rfl) ?_
        refine x_getr (jz := 0) hx hb hf6 hw (by omega) (by omega) sl_15_0 rfl lk97 dX8_at_43 (fun y9 => ?_) (fun r10 y9 gr10 lr10 => ?_)
        · exfalso
          rw [y4] at y9; cases y9
        · have er10 : r10 = r5 := by rw [y4] at y9; cases y9; rfl
          rw [er10]
          refine x_geto hx hb hf7 hw (by omega) (by omega) sl_19_3 lk135 dX8_at_46 ?_
          refine lv_iload_n hx hb dX8_at_49 rfl (lv_at hl 3 rfl) ?_
          refine x_iald hx hb hK.1 hw (by omega) (by omega) ar_21 (len_E ar_21 (by first | exact Nat.ne_of_beq_eq_false rfl | decide)) (by omega) (by omega) (by omega) dX8_at_50 ?_
          have f11 : 0 ≤ X 21 r5 k ∧ X 21 r5 k ≤ 5 := hR 21 r5 k
          refine gos_i (run_S (As := [.int (jI (X 21 r5 k))]) (rest := []) hx hb hml hown hts (c_X8_isRowLane l D tc base ad cnt X Y ln (X 21 r5 k) (by omega)) (cwS 1 hts gX8_at_X8_isRowLane rfl rfl rfl (by first | exact hd_X8_isRowLane | decide +kernel) ⟨Nat.le_of_ble_eq_true rfl, Nat.le_of_ble_eq_true rfl⟩) hK hw rfl hl.1 rfl (Nat.le_of_ble_eq_true rfl) dX8_at_51 ⟨(by show _ ≤ (1 : Nat); omega), (by show _ ≤ (6 : Nat); omega)⟩) hS (fun z12 u13 H locs p14 hw hS => ?_)
          obtain ⟨eu13, p14⟩ := p14
          subst eu13
          rcases p14 with ⟨ez12, p14⟩ | ⟨ez12, p14⟩
          · subst ez12
            refine x_if_neT (tgt := 64) hx hb (by omega) (by decide) dX8_at_54 (by decide) ?_
            refine lv_aload_n hx hb dX8_at_64 rfl (lv_at hl 0 rfl) ?_
            refine x_geto hx hb hf6 hw (by omega) (by omega) sl_15_2 lk158 dX8_at_65 ?_
            refine lv_iload_n hx hb dX8_at_68 rfl (lv_at hl 3 rfl) ?_
            refine x_aald hx hb hK.1 hw (by omega) (by omega) ar_17 rfl (len_E ar_17 (by first | exact Nat.ne_of_beq_eq_false rfl | decide)) (by omega) (by omega) (by omega) dX8_at_69 (fun y15 => ?_) (fun r16 y15 gr16 lr16 => ?_)
            · refine lv_astoreN (lv' := [(4, .null), (3, .ref (ad 15 z1)), (0, .ref (ad 0 0)), (1, .int (jI x)), (2, .int (jI k))]) hx hb dX8_at_70 hl (by decide) rfl (fun ls hl => ?_)
              refine lv_aloadN hx hb dX8_at_72 (lv_at hl 0 rfl) ?_
              refine lv_ifnonnullN hx hb dX8_at_74 ?_
              refine lv_ldc2 (v := jL (-1)) hx hb hown (hts (.constantLong RX8 88 (-1)) (by first | exact gj_X8_at_0 _ (gp_4 (gp_4 gp_h)) | decide +kernel)) dX8_at_77 ?_
              refine lv_goto (tgt := 90) hx hb dX8_at_80 (by decide) ?_
              refine vx_ret ?_
              refine ret_l (mc := 1) (ms := 6) hx hb hr hlocks hw hS (by first | exact Nat.le_of_ble_eq_true rfl | omega) (by first | exact Nat.le_of_ble_eq_true rfl | omega) dX8_at_90 ?_
              exact ⟨rfl, by omega⟩
            · refine lv_astore (lv' := [(4, .ref (ad 26 r16)), (3, .ref (ad 15 z1)), (0, .ref (ad 0 0)), (1, .int (jI x)), (2, .int (jI k))]) hx hb dX8_at_70 hl (by decide) rfl (fun ls hl => ?_)
              refine lv_aload hx hb dX8_at_72 (lv_at hl 0 rfl) ?_
              refine lv_ifnonnull (tgt := 83) hx hb dX8_at_74 (by decide) ?_
              refine lv_aload hx hb dX8_at_83 (lv_at hl 0 rfl) ?_
              refine x_geto hx hb hf5 hw (by omega) (by omega) sl_26_0 lk161 dX8_at_85 ?_
              have f17 : 0 ≤ ln r16 ∧ ln r16 ≤ 12 := hLn r16
              refine x_alenl hx hb hK.1 hw (by omega) (by omega) ar_27 (show lenE ln 27 r16 = ln r16 from rfl) (by omega) dX8_at_88 ?_
              refine x_i2l hx hb (by omega) dX8_at_89 ?_
              refine vx_ret ?_
              refine ret_l (mc := 1) (ms := 6) hx hb hr hlocks hw hS (by first | exact Nat.le_of_ble_eq_true rfl | omega) (by first | exact Nat.le_of_ble_eq_true rfl | omega) dX8_at_90 ?_
              exact ⟨rfl, by omega⟩
          · subst ez12
            refine x_if_neF (tgt := 64) hx hb (by omega) (by decide) dX8_at_54 (by decide) ?_
            refine lv_aload_n hx hb dX8_at_57 rfl (lv_at hl 0 rfl) ?_
            refine x_geto hx hb hf6 hw (by omega) (by omega) sl_15_1 lk193 dX8_at_58 ?_
            refine lv_iload_n hx hb dX8_at_61 rfl (lv_at hl 3 rfl) ?_
            refine x_lald hx hb hK.1 hw (by omega) (by omega) ar_16 (len_E ar_16 (by first | exact Nat.ne_of_beq_eq_false rfl | decide)) (by omega) (by omega) (by omega) dX8_at_62 ?_
            have f18 : (-9223372036854775808) ≤ X 16 z1 k ∧ X 16 z1 k ≤ 9223372036854775807 := hR 16 z1 k
            refine vx_ret ?_
            refine ret_l (mc := 1) (ms := 6) hx hb hr hlocks hw hS (by first | exact Nat.le_of_ble_eq_true rfl | omega) (by first | exact Nat.le_of_ble_eq_true rfl | omega) dX8_at_63 ?_
            exact ⟨rfl, by omega⟩
      · subst ez6
        refine x_if_neF (tgt := 42) hx hb (by omega) (by decide) dX8_at_29 (by decide) ?_
        obtain ⟨sa, hsa⟩ := hT.1.2.1
        exact t_throw hx hb hlT hown (by decide +kernel) (hts (.classLink RX8 188 eI) (by decide +kernel)) (hts (.initialized eI) (by decide +kernel)) hsa (fun w hq => hts w (List.mem_cons_of_mem _ (List.mem_append_right _ hq))) (by decide +kernel) hT.2.2.1.2.1 hT (by decide +kernel) hw hS (hl.1.trans hml.symm) dX8_at_32 dX8_at_35 dX8_at_36 dX8_at_38 dX8_at_41 hex (Nat.le_of_ble_eq_true rfl) (Nat.le_of_ble_eq_true rfl) (by show _ ≤ (1 : Nat); omega) (by show _ ≤ (6 : Nat); omega) hlocks (by decide) (by omega) (by omega)

set_option maxHeartbeats 4000000 in
set_option maxRecDepth 100000 in
theorem c_X8_itemAt (l : Launch) (hlT : l.stackTraces = false) (D : va_G) (tc : Nat → ClassId) (base : Nat) (ad : Nat → Int → Nat) (cnt : Nat → Int) (X : Nat → Int → Int → Int) (Y : Nat → Int → Int → Option Int) (ln : Int → Int) (hR : Rng X) (hFx : Fx cnt) (hLn : LnOK ln) (hCI : CInv cnt X Y ln) (x k i : Int) (hx : -2147483648 ≤ x ∧ x ≤ 2147483647) (hk : -2147483648 ≤ k ∧ k ≤ 2147483647) (hi : -2147483648 ≤ i ∧ i ≤ 2147483647) : KT l D tc base yX8_itemAt wsX8_itemAt ({ frames := 6, cells := 1, slots := 6, locals := 82 } : Room) [.ref (ad 0 0), .int (jI x), .int (jI k), .int (jI i)] (ad, cnt, X, Y, ln) 1 6 (fun z u => u = (ad, cnt, X, Y, ln) ∧ (-9223372036854775808 ≤ z ∧ z ≤ 9223372036854775807)) [eA, eI, eS] := by
  refine KT_of (cc := cX8_itemAt) (maxL := 6) (ret := (some .long)) (by decide) rfl (Nat.le_of_ble_eq_true rfl) ?_
  intro p e s m below meth c ls hx hb hr hml hown hts hlocks hex hl hK hT hw hS
  have hown : s.vm.findClass RX8 = some m.cls := hown
  have hi5 : ∀ w ∈ wsX50, w ∈ wsX8_itemAt := fun w h => List.mem_cons_of_mem _ (List.mem_append_left _ (List.mem_append_left _ (List.mem_append_left _ (List.mem_append_left _ (List.mem_append_right _ h)))))
  have hf5 : fctx s m _ RX8 wsX8_itemAt D tc RX5 TX5 2 5 := ⟨hts, hi5, hown, hK.1, rfl⟩
  have hi6 : ∀ w ∈ wsX60, w ∈ wsX8_itemAt := fun w h => List.mem_cons_of_mem _ (List.mem_append_left _ (List.mem_append_left _ (List.mem_append_left _ (List.mem_append_left _ (List.mem_append_left _ (List.mem_append_left _ (List.mem_append_right _ h)))))))
  have hf6 : fctx s m _ RX8 wsX8_itemAt D tc RX6 TX6 4 6 := ⟨hts, hi6, hown, hK.1, rfl⟩
  have hi7 : ∀ w ∈ wsX70, w ∈ wsX8_itemAt := fun w h => List.mem_cons_of_mem _ (List.mem_append_left _ (List.mem_append_left _ (List.mem_append_left _ (List.mem_append_left _ (List.mem_append_left _ (List.mem_append_right _ h))))))
  have hf7 : fctx s m _ RX8 wsX8_itemAt D tc RX7 TX7 8 7 := ⟨hts, hi7, hown, hK.1, rfl⟩
  have lk97 := hts (.fieldLink RX8 97 (TX6 0).1 (TX6 0).2.1 (TX6 0).2.2.1) (gj_X8_itemAt_0 _ (gp_4 (gp_1 (gp_1 gp_h))))
  have lk135 := hts (.fieldLink RX8 135 (TX7 3).1 (TX7 3).2.1 (TX7 3).2.2.1) (gj_X8_itemAt_0 _ (gp_4 (gp_1 (gp_1 (gp_1 gp_h)))))
  have lk158 := hts (.fieldLink RX8 158 (TX6 2).1 (TX6 2).2.1 (TX6 2).2.2.1) (gj_X8_itemAt_0 _ (gp_4 (gp_4 gp_h)))
  have lk161 := hts (.fieldLink RX8 161 (TX5 0).1 (TX5 0).2.1 (TX5 0).2.2.1) (gj_X8_itemAt_0 _ (gp_4 (gp_4 (gp_1 gp_h))))
  have hc0 : cnt 0 = 1 := hFx.at 0 1 (by decide)
  have hc15 : cnt 15 = 30 := hFx.at 15 30 (by decide)
  have hc17 : cnt 17 = 30 := hFx.at 17 30 (by decide)
  have hc21 : cnt 21 = cnt 19 := hFx.2.1 21 (by decide)
  have hc27 : cnt 27 = cnt 26 := hFx.2.2
  have hl : lv_has ls 6 [(0, .ref (ad 0 0)), (1, .int (jI x)), (2, .int (jI k)), (3, .int (jI i))] := hl
  have ftc : 0 ≤ X 0 0 3 ∧ X 0 0 3 ≤ 30 := hR 0 0 3
  have fty : 0 ≤ X 0 0 1 ∧ X 0 0 1 ≤ 8 := hR 0 0 1
  have hct : cnt 19 = X 0 0 1 := hCI.2.2.2.1.1
  have hfj : 0 ≤ X 29 0 3 ∧ X 29 0 3 ≤ 4 := hR 29 0 3
  have hfn : 0 ≤ X 29 0 1 ∧ X 29 0 1 ≤ 80 := hR 29 0 1
  refine lv_aload_n hx hb dX8_itemAt_0 rfl (lv_at hl 0 rfl) ?_
  refine lv_iload_n hx hb dX8_itemAt_1 rfl (lv_at hl 1 rfl) ?_
  refine x_i2l hx hb (by omega) dX8_itemAt_2 ?_
  refine gos_r (run_V (As := [.long (jL x)]) (rest := []) hx hb hml hown hts (c_X8_thingNumbered l D tc base ad cnt X Y ln hR hFx hLn hCI x (by omega)) (cwV 1 hts gX8_itemAt_X8_thingNumbered rfl rfl rfl (by first | exact hd_X8_thingNumbered | decide +kernel) ⟨Nat.le_of_ble_eq_true rfl, Nat.le_of_ble_eq_true rfl⟩) hK hw (by first | exact Int.le_refl 0 | omega) (by first | exact zlt hc0 | omega) sl_0_0 rfl rfl hl.1 rfl (Nat.le_of_ble_eq_true rfl) dX8_itemAt_3 ⟨(by show _ ≤ (1 : Nat); omega), (by show _ ≤ (6 : Nat); omega)⟩) hS (fun u2 H locs p3 hw hS => ?_) (fun z1 u2 H locs p3 hw hS => ?_)
  · obtain ⟨eu2, hsp3, hnp3⟩ := p3
    subst eu2
    refine lv_astoreN (lv' := [(4, .null), (0, .ref (ad 0 0)), (1, .int (jI x)), (2, .int (jI k)), (3, .int (jI i))]) hx hb dX8_itemAt_6 hl (by decide) rfl (fun ls hl => ?_)
    refine lv_aloadN hx hb dX8_itemAt_8 (lv_at hl 0 rfl) ?_
    refine lv_ifnonnullN hx hb dX8_itemAt_10 ?_
    obtain ⟨sa, hsa⟩ := hT.1.1
    exact t_throw hx hb hlT hown (by decide +kernel) (hts (.classLink RX8 181 eA) (by decide +kernel)) (hts (.initialized eA) (by decide +kernel)) hsa (fun w hq => hts w (List.mem_cons_of_mem _ (List.mem_append_left _ (List.mem_append_left _ (List.mem_append_right _ hq))))) (by decide +kernel) hT.2.2.1.1 hT (by decide +kernel) hw hS (hl.1.trans hml.symm) dX8_itemAt_13 dX8_itemAt_16 dX8_itemAt_17 dX8_itemAt_19 dX8_itemAt_22 hex (Nat.le_of_ble_eq_true rfl) (Nat.le_of_ble_eq_true rfl) (by show _ ≤ (1 : Nat); omega) (by show _ ≤ (6 : Nat); omega) hlocks (by decide) (by omega) (by omega)
  · obtain ⟨eu2, hsp3, hnp3⟩ := p3
    subst eu2
    obtain ⟨ezz1, p3⟩ := hsp3 z1 rfl
    refine lv_astore (lv' := [(4, .ref (ad 15 z1)), (0, .ref (ad 0 0)), (1, .int (jI x)), (2, .int (jI k)), (3, .int (jI i))]) hx hb dX8_itemAt_6 hl (by decide) rfl (fun ls hl => ?_)
    refine lv_aload hx hb dX8_itemAt_8 (lv_at hl 0 rfl) ?_
    refine lv_ifnonnull (tgt := 23) hx hb dX8_itemAt_10 (by decide) ?_
    refine lv_aload hx hb dX8_itemAt_23 (lv_at hl 0 rfl) ?_
    refine x_getr (jz := 0) hx hb hf6 hw (by omega) (by omega) sl_15_0 rfl lk97 dX8_itemAt_25 (fun y4 => ?_) (fun r5 y4 gr5 lr5 => ?_)
    · exfalso
      exact absurd y4 (hCI.2.2.2.2.1 z1 (by omega) (by omega))
    · refine lv_iload_n hx hb dX8_itemAt_28 rfl (lv_at hl 3 rfl) ?_
      refine gos_i (run_V (As := [.int (jI k)]) (rest := []) hx hb hml hown hts (c_X7_hasField l D tc base ad cnt X Y ln hR hFx hLn r5 k (by omega) (by omega)) (cwV 1 hts gX8_itemAt_X7_hasField rfl rfl rfl (by first | exact hd_X7_hasField | decide +kernel) ⟨Nat.le_of_ble_eq_true rfl, Nat.le_of_ble_eq_true rfl⟩) hK hw (by first | exact Int.le_refl 0 | omega) (by first | exact zlt hc19 | omega) sl_19_0 rfl rfl hl.1 rfl (Nat.le_of_ble_eq_true rfl) dX8_itemAt_29 ⟨(by show _ ≤ (1 : Nat); omega), (by show _ ≤ (6 : Nat); omega)⟩) hS (fun z6 u7 H locs p8 hw hS => ?_)
      obtain ⟨eu7, p8⟩ := p8
      subst eu7
      rcases p8 with ⟨ez6, p8⟩ | ⟨ez6, p8⟩
      · subst ez6
        refine x_if_neT (tgt := 45) hx hb (by omega) (by decide) dX8_itemAt_32 (by decide) ?_
        refine lv_aload hx hb dX8_itemAt_45 (lv_at hl 0 rfl) ?_
        refine x_getr (jz := 0) hx hb hf6 hw (by omega) (by omega) sl_15_0 rfl lk97 dX8_itemAt_47 (fun y9 => ?_) (fun r10 y9 gr10 lr10 => ?_)
        · exfalso
          rw [y4] at y9; cases y9
        · have er10 : r10 = r5 := by rw [y4] at y9; cases y9; rfl
          rw [er10]
          refine x_geto hx hb hf7 hw (by omega) (by omega) sl_19_3 lk135 dX8_itemAt_50 ?_
          refine lv_iload_n hx hb dX8_itemAt_53 rfl (lv_at hl 3 rfl) ?_
          refine x_iald hx hb hK.1 hw (by omega) (by omega) ar_21 (len_E ar_21 (by first | exact Nat.ne_of_beq_eq_false rfl | decide)) (by omega) (by omega) (by omega) dX8_itemAt_54 ?_
          have f11 : 0 ≤ X 21 r5 k ∧ X 21 r5 k ≤ 5 := hR 21 r5 k
          refine gos_i (run_S (As := [.int (jI (X 21 r5 k))]) (rest := []) hx hb hml hown hts (c_X8_isRowLane l D tc base ad cnt X Y ln (X 21 r5 k) (by omega)) (cwS 1 hts gX8_itemAt_X8_isRowLane rfl rfl rfl (by first | exact hd_X8_isRowLane | decide +kernel) ⟨Nat.le_of_ble_eq_true rfl, Nat.le_of_ble_eq_true rfl⟩) hK hw rfl hl.1 rfl (Nat.le_of_ble_eq_true rfl) dX8_itemAt_55 ⟨(by show _ ≤ (1 : Nat); omega), (by show _ ≤ (6 : Nat); omega)⟩) hS (fun z12 u13 H locs p14 hw hS => ?_)
          obtain ⟨eu13, p14⟩ := p14
          subst eu13
          rcases p14 with ⟨ez12, p14⟩ | ⟨ez12, p14⟩
          · subst ez12
            refine x_if_neT (tgt := 71) hx hb (by omega) (by decide) dX8_itemAt_58 (by decide) ?_
            refine lv_aload hx hb dX8_itemAt_71 (lv_at hl 0 rfl) ?_
            refine x_geto hx hb hf6 hw (by omega) (by omega) sl_15_2 lk158 dX8_itemAt_73 ?_
            refine lv_iload_n hx hb dX8_itemAt_76 rfl (lv_at hl 3 rfl) ?_
            refine x_aald hx hb hK.1 hw (by omega) (by omega) ar_17 rfl (len_E ar_17 (by first | exact Nat.ne_of_beq_eq_false rfl | decide)) (by omega) (by omega) (by omega) dX8_itemAt_77 (fun y15 => ?_) (fun r16 y15 gr16 lr16 => ?_)
            · refine lv_astoreN (lv' := [(5, .null), (4, .ref (ad 15 z1)), (0, .ref (ad 0 0)), (1, .int (jI x)), (2, .int (jI k)), (3, .int (jI i))]) hx hb dX8_itemAt_78 hl (by decide) rfl (fun ls hl => ?_)
              refine lv_aloadN hx hb dX8_itemAt_80 (lv_at hl 0 rfl) ?_
              refine lv_ifnonnullN hx hb dX8_itemAt_82 ?_
              obtain ⟨sa, hsa⟩ := hT.1.2.2.2.1
              exact t_throw hx hb hlT hown (by decide +kernel) (hts (.classLink RX8 196 eS) (by decide +kernel)) (hts (.initialized eS) (by decide +kernel)) hsa (fun w hq => hts w (List.mem_cons_of_mem _ (List.mem_append_right _ hq))) (by decide +kernel) hT.2.2.1.2.2 hT (by decide +kernel) hw hS (hl.1.trans hml.symm) dX8_itemAt_85 dX8_itemAt_88 dX8_itemAt_89 dX8_itemAt_91 dX8_itemAt_94 hex (Nat.le_of_ble_eq_true rfl) (Nat.le_of_ble_eq_true rfl) (by show _ ≤ (1 : Nat); omega) (by show _ ≤ (6 : Nat); omega) hlocks (by decide) (by omega) (by omega)
            · refine lv_astore (lv' := [(5, .ref (ad 26 r16)), (4, .ref (ad 15 z1)), (0, .ref (ad 0 0)), (1, .int (jI x)), (2, .int (jI k)), (3, .int (jI i))]) hx hb dX8_itemAt_78 hl (by decide) rfl (fun ls hl => ?_)
              refine lv_aload hx hb dX8_itemAt_80 (lv_at hl 0 rfl) ?_
              refine lv_ifnonnull (tgt := 95) hx hb dX8_itemAt_82 (by decide) ?_
              refine lv_iload_n hx hb dX8_itemAt_95 rfl (lv_at hl 5 rfl) ?_
              refine lv_aload hx hb dX8_itemAt_96 (lv_at hl 0 rfl) ?_
              refine x_geto hx hb hf5 hw (by omega) (by omega) sl_26_0 lk161 dX8_itemAt_98 ?_
              have f17 : 0 ≤ ln r16 ∧ ln r16 ≤ 12 := hLn r16
              refine x_alenl hx hb hK.1 hw (by omega) (by omega) ar_27 (show lenE ln 27 r16 = ln r16 from rfl) (by omega) dX8_itemAt_101 ?_
              refine gos_i (run_S (As := [.int (jI i), .int (jI (ln r16))]) (rest := []) hx hb hml hown hts (c_X8_isBelow l D tc base ad cnt X Y ln i (ln r16) (by omega) (by omega)) (cwS 2 hts gX8_itemAt_X8_isBelow rfl rfl rfl (by first | exact hd_X8_isBelow | decide +kernel) ⟨Nat.le_of_ble_eq_true rfl, Nat.le_of_ble_eq_true rfl⟩) hK hw rfl hl.1 rfl (Nat.le_of_ble_eq_true rfl) dX8_itemAt_102 ⟨(by show _ ≤ (1 : Nat); omega), (by show _ ≤ (6 : Nat); omega)⟩) hS (fun z18 u19 H locs p20 hw hS => ?_)
              obtain ⟨eu19, p20⟩ := p20
              subst eu19
              rcases p20 with ⟨ez18, p20⟩ | ⟨ez18, p20⟩
              · subst ez18
                refine x_if_neT (tgt := 118) hx hb (by omega) (by decide) dX8_itemAt_105 (by decide) ?_
                refine lv_aload hx hb dX8_itemAt_118 (lv_at hl 0 rfl) ?_
                refine x_geto hx hb hf5 hw (by omega) (by omega) sl_26_0 lk161 dX8_itemAt_120 ?_
                refine lv_iload_n hx hb dX8_itemAt_123 rfl (lv_at hl 5 rfl) ?_
                have f21 : 0 ≤ ln r16 ∧ ln r16 ≤ 12 := hLn r16
                refine x_lald hx hb hK.1 hw (by omega) (by omega) ar_27 (show lenE ln 27 r16 = ln r16 from rfl) (by omega) (by omega) (by omega) dX8_itemAt_124 ?_
                have f22 : (-9223372036854775808) ≤ X 27 r16 i ∧ X 27 r16 i ≤ 9223372036854775807 := hR 27 r16 i
                refine vx_ret ?_
                refine ret_l (mc := 1) (ms := 6) hx hb hr hlocks hw hS (by first | exact Nat.le_of_ble_eq_true rfl | omega) (by first | exact Nat.le_of_ble_eq_true rfl | omega) dX8_itemAt_125 ?_
                exact ⟨rfl, by omega⟩
              · subst ez18
                refine x_if_neF (tgt := 118) hx hb (by omega) (by decide) dX8_itemAt_105 (by decide) ?_
                obtain ⟨sa, hsa⟩ := hT.1.2.2.2.2
                exact t_throw hx hb hlT hown (by decide +kernel) (hts (.classLink RX8 188 eI) (by decide +kernel)) (hts (.initialized eI) (by decide +kernel)) hsa (fun w hq => hts w (List.mem_cons_of_mem _ (List.mem_append_left _ (List.mem_append_right _ hq)))) (by decide +kernel) hT.2.2.1.2.1 hT (by decide +kernel) hw hS (hl.1.trans hml.symm) dX8_itemAt_108 dX8_itemAt_111 dX8_itemAt_112 dX8_itemAt_114 dX8_itemAt_117 hex (Nat.le_of_ble_eq_true rfl) (Nat.le_of_ble_eq_true rfl) (by show _ ≤ (1 : Nat); omega) (by show _ ≤ (6 : Nat); omega) hlocks (by decide) (by omega) (by omega)
          · subst ez12
            refine x_if_neF (tgt := 71) hx hb (by omega) (by decide) dX8_itemAt_58 (by decide) ?_
            obtain ⟨sa, hsa⟩ := hT.1.2.2.1
            exact t_throw hx hb hlT hown (by decide +kernel) (hts (.classLink RX8 196 eS) (by decide +kernel)) (hts (.initialized eS) (by decide +kernel)) hsa (fun w hq => hts w (List.mem_cons_of_mem _ (List.mem_append_right _ hq))) (by decide +kernel) hT.2.2.1.2.2 hT (by decide +kernel) hw hS (hl.1.trans hml.symm) dX8_itemAt_61 dX8_itemAt_64 dX8_itemAt_65 dX8_itemAt_67 dX8_itemAt_70 hex (Nat.le_of_ble_eq_true rfl) (Nat.le_of_ble_eq_true rfl) (by show _ ≤ (1 : Nat); omega) (by show _ ≤ (6 : Nat); omega) hlocks (by decide) (by omega) (by omega)
      · subst ez6
        refine x_if_neF (tgt := 45) hx hb (by omega) (by decide) dX8_itemAt_32 (by decide) ?_
        obtain ⟨sa, hsa⟩ := hT.1.2.1
        exact t_throw hx hb hlT hown (by decide +kernel) (hts (.classLink RX8 188 eI) (by decide +kernel)) (hts (.initialized eI) (by decide +kernel)) hsa (fun w hq => hts w (List.mem_cons_of_mem _ (List.mem_append_left _ (List.mem_append_right _ hq)))) (by decide +kernel) hT.2.2.1.2.1 hT (by decide +kernel) hw hS (hl.1.trans hml.symm) dX8_itemAt_35 dX8_itemAt_38 dX8_itemAt_39 dX8_itemAt_41 dX8_itemAt_44 hex (Nat.le_of_ble_eq_true rfl) (Nat.le_of_ble_eq_true rfl) (by show _ ≤ (1 : Nat); omega) (by show _ ≤ (6 : Nat); omega) hlocks (by decide) (by omega) (by omega)
end
section
section
def wsL_at_r1 : List Cond := [Cond.classLink RL 13 "java/lang/IllegalArgumentException", Cond.classLink RL 15 "java/lang/IndexOutOfBoundsException", Cond.methodLink RL 7 yX8_at, Cond.instanceMethod yX8_at, Cond.selects RX8 yX8_at yX8_at, Cond.initialized RX8, Cond.code yX8_at cX8_at 5 (some .long), Cond.classLink RX8 181 "java/lang/IllegalArgumentException", Cond.initialized "java/lang/IllegalArgumentException", Cond.classLink RX8 188 "java/lang/IndexOutOfBoundsException", Cond.initialized "java/lang/IndexOutOfBoundsException", Cond.fieldLink RX8 97 "StateRecords$Thing" "type" "LStateRecords$Type;", Cond.fieldLink RX8 135 "StateRecords$Type" "lanes" "[I", Cond.fieldLink RX8 193 "StateRecords$Thing" "values" "[J", Cond.fieldLink RX8 158 "StateRecords$Thing" "rows" "[LStateRecords$Row;", Cond.constantLong RX8 88 (-1), Cond.fieldLink RX8 161 "StateRecords$Row" "items" "[J", Cond.methodLink RX8 177 yX8_thingNumbered, Cond.instanceMethod yX8_thingNumbered, Cond.selects RX8 yX8_thingNumbered yX8_thingNumbered, Cond.code yX8_thingNumbered cX8_thingNumbered 3 (some (.object "StateRecords$Thing")), Cond.fieldLink RX8 94 "StateRecords" "thingCount" "I", Cond.fieldLink RX8 17 "StateRecords" "things" "[LStateRecords$Thing;", Cond.methodLink RX8 104 yX7_hasField]
def wsL_at_r2 : List Cond := [Cond.instanceMethod yX7_hasField, Cond.selects RX7 yX7_hasField yX7_hasField, Cond.initialized RX7, Cond.code yX7_hasField cX7_hasField 2 (some .boolean), Cond.fieldLink RX7 36 "StateRecords$Type" "fieldCount" "I", Cond.static yX8_isBelow, Cond.code yX8_isBelow cX8_isBelow 2 (some .boolean), Cond.methodLink RX8 150 yX8_isRowLane, Cond.static yX8_isRowLane, Cond.code yX8_isRowLane cX8_isRowLane 1 (some .boolean)]
def wsL_at : List Cond := .codeWith yL_at cL_at 5 (some .int) [(0, 9, 12, 13), (0, 9, 16, 15)] :: ((wsL_at_r1 ++ wsL_at_r2) ++ wsX60 ++ wsX70 ++ wsX50 ++ wsX80 ++ (vx_atS RX8 185 "java/lang/IllegalArgumentException" ["java/lang/RuntimeException", "java/lang/Exception"]).filter goodWord ++ (vx_atS RX8 192 "java/lang/IndexOutOfBoundsException" ["java/lang/RuntimeException", "java/lang/Exception"]).filter goodWord)
def wsL_itemAt_r1 : List Cond := [Cond.classLink RL 13 "java/lang/IllegalArgumentException", Cond.classLink RL 21 "java/lang/IllegalStateException", Cond.classLink RL 15 "java/lang/IndexOutOfBoundsException", Cond.methodLink RL 17 yX8_itemAt, Cond.instanceMethod yX8_itemAt, Cond.selects RX8 yX8_itemAt yX8_itemAt, Cond.initialized RX8, Cond.code yX8_itemAt cX8_itemAt 6 (some .long), Cond.classLink RX8 181 "java/lang/IllegalArgumentException", Cond.initialized "java/lang/IllegalArgumentException", Cond.classLink RX8 188 "java/lang/IndexOutOfBoundsException", Cond.initialized "java/lang/IndexOutOfBoundsException", Cond.classLink RX8 196 "java/lang/IllegalStateException", Cond.initialized "java/lang/IllegalStateException", Cond.fieldLink RX8 97 "StateRecords$Thing" "type" "LStateRecords$Type;", Cond.fieldLink RX8 135 "StateRecords$Type" "lanes" "[I", Cond.fieldLink RX8 158 "StateRecords$Thing" "rows" "[LStateRecords$Row;", Cond.fieldLink RX8 161 "StateRecords$Row" "items" "[J", Cond.methodLink RX8 177 yX8_thingNumbered, Cond.instanceMethod yX8_thingNumbered, Cond.selects RX8 yX8_thingNumbered yX8_thingNumbered, Cond.code yX8_thingNumbered cX8_thingNumbered 3 (some (.object "StateRecords$Thing")), Cond.fieldLink RX8 94 "StateRecords" "thingCount" "I", Cond.fieldLink RX8 17 "StateRecords" "things" "[LStateRecords$Thing;"]
def wsL_itemAt_r2 : List Cond := [Cond.methodLink RX8 104 yX7_hasField, Cond.instanceMethod yX7_hasField, Cond.selects RX7 yX7_hasField yX7_hasField, Cond.initialized RX7, Cond.code yX7_hasField cX7_hasField 2 (some .boolean), Cond.fieldLink RX7 36 "StateRecords$Type" "fieldCount" "I", Cond.static yX8_isBelow, Cond.code yX8_isBelow cX8_isBelow 2 (some .boolean), Cond.methodLink RX8 150 yX8_isRowLane, Cond.static yX8_isRowLane, Cond.code yX8_isRowLane cX8_isRowLane 1 (some .boolean), Cond.methodLink RX8 74 yX8_isBelow]
def wsL_itemAt : List Cond := .codeWith yL_itemAt cL_itemAt 6 (some .int) [(0, 11, 14, 13), (0, 11, 18, 21), (0, 11, 22, 15)] :: ((wsL_itemAt_r1 ++ wsL_itemAt_r2) ++ wsX60 ++ wsX70 ++ wsX50 ++ wsX80 ++ (vx_atS RX8 185 "java/lang/IllegalArgumentException" ["java/lang/RuntimeException", "java/lang/Exception"]).filter goodWord ++ (vx_atS RX8 192 "java/lang/IndexOutOfBoundsException" ["java/lang/RuntimeException", "java/lang/Exception"]).filter goodWord ++ (vx_atS RX8 200 "java/lang/IllegalStateException" ["java/lang/RuntimeException", "java/lang/Exception"]).filter goodWord)
set_option maxRecDepth 20000 in
theorem ggL_at_X8_at : GoodIn wsL_at wsX8_at := goodIn_ca (goodIn_ca (goodIn_r _ [7, 8, 9, 10, 11, 12, 13, 14, 15, 16, 17, 18, 19, 20, 6, 21, 22, 23, 24, 25, 26, 27, 28, 29, 30, 31, 32, 33, 34, 35, 36, 37, 38, 39, 40, 41, 42, 43, 44, 45, 46, 47, 48, 49, 50, 51, 52, 53, 54, 55, 56, 57, 58, 59, 60] (by decide +kernel) (by decide +kernel)) (goodIn_sub (fun _ h => List.mem_cons_of_mem _ (List.mem_append_left _ (List.mem_append_right _ h))) (by decide +kernel))) (goodIn_sub (fun _ h => List.mem_cons_of_mem _ (List.mem_append_right _ h)) (by decide +kernel))
set_option maxRecDepth 20000 in
theorem gL_at_X8_at : GoodIn wsL_at (wsV RL 7 RX8 yX8_at wsX8_at) := goodIn_app (goodIn_of _ (by decide +kernel)) ggL_at_X8_at
set_option maxRecDepth 20000 in
theorem ggL_itemAt_X8_itemAt : GoodIn wsL_itemAt wsX8_itemAt := goodIn_ca (goodIn_ca (goodIn_ca (goodIn_r _ [8, 9, 10, 11, 12, 13, 14, 15, 16, 17, 18, 19, 20, 21, 7, 22, 23, 24, 25, 26, 27, 28, 29, 30, 31, 32, 33, 34, 35, 36, 37, 38, 39, 40, 41, 42, 43, 44, 45, 46, 47, 48, 49, 50, 51, 52, 53, 54, 55, 56, 57, 58, 59, 60, 61, 62] (by decide +kernel) (by decide +kernel)) (goodIn_sub (fun _ h => List.mem_cons_of_mem _ (List.mem_append_left _ (List.mem_append_left _ (List.mem_append_right _ h)))) (by decide +kernel))) (goodIn_sub (fun _ h => List.mem_cons_of_mem _ (List.mem_append_left _ (List.mem_append_right _ h))) (by decide +kernel))) (goodIn_sub (fun _ h => List.mem_cons_of_mem _ (List.mem_append_right _ h)) (by decide +kernel))
set_option maxRecDepth 20000 in
theorem gL_itemAt_X8_itemAt : GoodIn wsL_itemAt (wsV RL 17 RX8 yX8_itemAt wsX8_itemAt) := goodIn_app (goodIn_of _ (by decide +kernel)) ggL_itemAt_X8_itemAt
end
section
/-! the law's two readers: what they throw is caught -/
theorem KH_of {l : Launch} {D : va_G} {tc : Nat → ClassId} {base : Nat} {y : MethodName} {ws ws' : List Cond} {rm : Room} {av : List Value} {u : St} {mc ms : Nat} {Qc : Array Value → State → Outcome → State → Prop} {XC : String → State → State → Prop} {cc : ByteArray} {maxL : Nat} {ret : Option FieldType} {hh : List (Nat × Nat × Nat × Nat)}
    (hy : plainName y.cls = true) (hw : ws = Cond.codeWith y cc maxL ret hh :: ws') (hsl : (lg_sl av).length ≤ maxL)
    (body : ∀ (p : Program) (e : Env) (s : State) (m : MethodId) (below : List Frame) (meth : Method) (c : Code) (ls : Array Slot), p.tables.exec = Jvm.exec → c.code = cc → meth.sig.returnType = ret → c.maxLocals = maxL → s.vm.findClass y.cls = some m.cls → (∀ w ∈ ws, w.before av.toArray s = true) → meth.locks = false → c.exceptionTable.toList = tableOf hh → lv_has ls maxL (lv_args 0 av) → Kx D tc s → TK base s s.heap → wd D tc base u s.heap → va_S (frA base) s.heap s.heap [] →
      W p l e rm s m av.toArray below meth c s.heap [] 0 0 (vx_MQ below Qc XC av.toArray s mc ms (frA base)) (F0 m 0 ls [])) : vx_Met l y ws rm (PcT D tc base u av) Qc XC mc ms (frA base) := by
  refine vx_ofWH (cc := cc) (maxL := maxL) (ret := ret) (hh := hh) hy hw ?_
  intro p e s m args below meth c s₁ B hml hv
  obtain ⟨rfl, hW, hK, hT⟩ := hv
  have hl := lv_entry av (n := maxL) hsl
  rw [lg_entry_eq]
  exact body p e s m below meth c _ B.exec B.bytes B.returns hml (findClass_of_methodNamed B.named) (atoms_spec (ws := ws) B.pre) B.notSynchronized (vx_table (x := y) B (atoms_spec (ws := ws) B.pre _ (by rw [hw]; exact List.mem_cons_self))) hl hK hT hW va_S.rf
def XF (base : Nat) : String → State → State → Prop := vx_X (fun (_ : Unit) => False) (fun _ _ _ => True) (frA base)
theorem run_T {p : Program} {l : Launch} {e : Env} {R : Room} {s : State} {m : MethodId} {args : Array Value} {below : List Frame} {meth : Method} {c : Code} {H : Heap} {locs : List Loc} {cells slots : Nat}
    {cc bytes : ByteArray} {pc nL maxL mc ms n index : Nat} {ls : Array Slot} {rest st0 As : List Value} {D : va_G} {tc : Nat → ClassId} {base : Nat} {ad : Nat → Int → Nat} {cnt : Nat → Int} {X : Nat → Int → Int → Int} {Y : Nat → Int → Int → Option Int} {ln : Int → Int} {own : String} {N ci : Nat} {Ts ws : List Cond} {rm : Room} {ret : Option FieldType} {y : MethodName} {k j : Nat} {i : Int}
    {Qc : Array Value → State → Outcome → State → Prop} {XC : String → State → State → Prop} {c1 t1 : Nat} {q : vw_C} (hx : p.tables.exec = Jvm.exec) (hb : c.code = cc) (hml : c.maxLocals = nL) (hown : s.vm.findClass own = some m.cls) (hts : ∀ w ∈ Ts, w.before args s = true) (hM : vx_Met l y ws rm (PcT D tc base (ad, cnt, X, Y, ln) (.ref (ad k i) :: As)) Qc XC mc ms (frA base)) (cw : CallW R s args own q.1 index y bytes maxL ret ws rm mc ms n)
    (hK : Kx D tc s) (hT : TK base s s.heap) (hS : va_S (frA base) s.heap H locs) (hw : wd D tc base (ad, cnt, X, Y, ln) H) (h0 : 0 ≤ i) (h1 : i < cnt k) (hs : SL k j ci c1 t1 N) (hc : vwCl[ci]? = some q) (hn : As.length = n) (hl : ls.size = nL) (hstack : st0 = As.reverse ++ .ref (ad k i) :: rest) (hrm : (rest.map fun v => v.category).sum ≤ 8) (hdg : decode cc pc = .ok (.invokevirtual index, 3)) (hf : cells + mc ≤ R.cells ∧ slots + ms ≤ R.slots) :
    vx_Run p l e R s m args below meth c H locs cells slots mc ms (F0 m pc ls st0) rest (Qc (Value.ref (ad k i) :: As).toArray) XC (frA base) :=
  vx_runV ⟨hx, hb, hml, hown, hts⟩ hM cw ⟨PcT.blind, rcv hK hw h0 h1 hs hc, fun U hU hW => ⟨rfl, by rw [hU]; exact hw, hK.warm hW, by rw [hU]; exact hT.go hS hW⟩⟩ rfl hn hl hstack (lv_room hrm) hdg hf
end
section
set_option maxHeartbeats 4000000 in
set_option maxRecDepth 100000 in
theorem c_L_at (l : Launch) (hlT : l.stackTraces = false) (D : va_G) (tc : Nat → ClassId) (base : Nat) (ad : Nat → Int → Nat) (cnt : Nat → Int) (X : Nat → Int → Int → Int) (Y : Nat → Int → Int → Option Int) (ln : Int → Int) (hR : Rng X) (hFx : Fx cnt) (hLn : LnOK ln) (hCI : CInv cnt X Y ln) (x k : Int) (hqx : -2147483648 ≤ x ∧ x ≤ 2147483647) (hqk : -2147483648 ≤ k ∧ k ≤ 2147483647) : vx_Met l yL_at wsL_at ({ frames := 7, cells := 1, slots := 6, locals := 106 } : Room) (PcT D tc base (ad, cnt, X, Y, ln) [.ref (ad 0 0), .int (jI x), .int (jI k), .ref (ad 100 0)]) (QI D tc base (fun z u => ∃ X1 : Nat → Int → Int → Int, u = (ad, cnt, X1, Y, ln) ∧ Rng X1 ∧ Frm [10000] X X1 ∧ (0 ≤ z ∧ z ≤ 3))) (XF base) 1 6 (frA base) := by
  refine KH_of (cc := cL_at) (maxL := 5) (ret := some .int) (hh := [(0, 9, 12, 13), (0, 9, 16, 15)]) (by decide) rfl (Nat.le_of_ble_eq_true rfl) ?_
  intro p e s m below meth c ls hx hb hr hml hown hts hlocks htab hl hK hT hw hS
  have hown : s.vm.findClass RL = some m.cls := hown
  have hl : lv_has ls 5 [(0, .ref (ad 0 0)), (1, .int (jI x)), (2, .int (jI k)), (3, .ref (ad 100 0))] := hl
  have hc0 : cnt 0 = 1 := hFx.at 0 1 (by decide)
  have hc100 : cnt 100 = 1 := hFx.at 100 1 (by decide)
  refine lv_aload_n hx hb dL_at_0 rfl (lv_at hl 3 rfl) ?_
  refine lv_iconst (v := jI 0) hx hb dL_at_1 rfl ?_
  refine lv_aload_n hx hb dL_at_2 rfl (lv_at hl 0 rfl) ?_
  refine lv_iload_n hx hb dL_at_3 rfl (lv_at hl 1 rfl) ?_
  refine lv_iload_n hx hb dL_at_4 rfl (lv_at hl 2 rfl) ?_
  refine vx_calll (run_T (As := [.int (jI x), .int (jI k)]) (rest := [.int (jI 0), .ref (ad 100 0)]) hx hb hml hown hts (c_X8_at l hlT D tc base ad cnt X Y ln hR hFx hLn hCI x k hqx hqk) (cwV 2 hts gL_at_X8_at rfl rfl rfl (by first | exact hd_X8_at | decide +kernel) ⟨Nat.le_of_ble_eq_true rfl, Nat.le_of_ble_eq_true rfl⟩) hK hT hS hw (by omega) (by omega) sl_0_0 rfl rfl hl.1 rfl (Nat.le_of_ble_eq_true rfl) dL_at_5 ⟨Nat.le_of_ble_eq_true rfl, Nat.le_of_ble_eq_true rfl⟩) hS (fun q _ h => h) (fun q h => h) (fun q _ h => h) ?_ ?_
  · intro E ce q9 u9 t H1 locs1 ht hvm hp hB hz hk1 hS1 hcell hv hcl
    obtain ⟨hE, hw1⟩ := hB
    rw [ht] at hw1
    simp only [List.mem_cons, List.not_mem_nil, or_false] at hE
    rcases hE with rfl | rfl
    · refine vx_catch (name := eA) hown [] ⟨0, 9, 12, 13⟩ [⟨0, 9, 16, 15⟩] (by rw [htab]; rfl) (fun z hz => nomatch hz) (by decide) (by decide) (hts (.classLink RL 13 eA) (by decide +kernel)) (va_Nw.use rfl hT.2.2.1.1) hcell hv hcl ?_
      refine lv_astore (lv' := [(4, .ref q9), (0, .ref (ad 0 0)), (1, .int (jI x)), (2, .int (jI k)), (3, .ref (ad 100 0))]) hx hb dL_at_12 hl (by decide) rfl (fun ls hl => ?_)
      refine lv_iconst (v := jI 1) hx hb dL_at_14 rfl ?_
      refine vx_ret ?_
      exact ret_i (mc := 1) (ms := 6) (z := 1) hx hb hr hlocks hw1 hS1 (by omega) (by omega) dL_at_15 ⟨X, rfl, hR, Frm.rf, by omega⟩
    · refine vx_catch (name := eI) hown [⟨0, 9, 12, 13⟩] ⟨0, 9, 16, 15⟩ [] (by rw [htab]; rfl) (fun z hz => by rw [List.mem_singleton.mp hz]; exact Or.inr ⟨by decide, eA, hts (.classLink RL 13 eA) (by decide +kernel), hT.2.2.2.1.1⟩) (by decide) (by decide) (hts (.classLink RL 15 eI) (by decide +kernel)) (va_Nw.use rfl hT.2.2.1.2.1) hcell hv hcl ?_
      refine lv_astore (lv' := [(4, .ref q9), (0, .ref (ad 0 0)), (1, .int (jI x)), (2, .int (jI k)), (3, .ref (ad 100 0))]) hx hb dL_at_16 hl (by decide) rfl (fun ls hl => ?_)
      refine lv_iconst (v := jI 2) hx hb dL_at_18 rfl ?_
      refine vx_ret ?_
      exact ret_i (mc := 1) (ms := 6) (z := 2) hx hb hr hlocks hw1 hS1 (by omega) (by omega) dL_at_19 ⟨X, rfl, hR, Frm.rf, by omega⟩
  · intro r u9 t H1 locs1 ht hvm hp hB hz hk1 hS1
    obtain ⟨z, rfl, rfl, hz9⟩ := hp
    rw [ht] at hB
    refine x_last hx hb hK.1 hB hS1 (by omega) (by omega) ar_100 (len_E ar_100 (by first | exact Nat.ne_of_beq_eq_false rfl | decide)) (by omega) (by omega) (by omega) dL_at_8 (fun H locs hw hS => ?_)
    refine lv_goto (tgt := 20) hx hb dL_at_9 (by decide) ?_
    refine lv_iconst (v := jI 0) hx hb dL_at_20 rfl ?_
    refine vx_ret ?_
    exact ret_i (mc := 1) (ms := 6) (z := 0) hx hb hr hlocks hw hS (by omega) (by omega) dL_at_21 ⟨_, rfl, rng_set hR (show (-9223372036854775808) ≤ z ∧ z ≤ 9223372036854775807 by omega), Frm.set Frm.rf (by decide), by omega⟩

set_option maxHeartbeats 4000000 in
set_option maxRecDepth 100000 in
theorem c_L_itemAt (l : Launch) (hlT : l.stackTraces = false) (D : va_G) (tc : Nat → ClassId) (base : Nat) (ad : Nat → Int → Nat) (cnt : Nat → Int) (X : Nat → Int → Int → Int) (Y : Nat → Int → Int → Option Int) (ln : Int → Int) (hR : Rng X) (hFx : Fx cnt) (hLn : LnOK ln) (hCI : CInv cnt X Y ln) (x k i : Int) (hqx : -2147483648 ≤ x ∧ x ≤ 2147483647) (hqk : -2147483648 ≤ k ∧ k ≤ 2147483647) (hqi : -2147483648 ≤ i ∧ i ≤ 2147483647) : vx_Met l yL_itemAt wsL_itemAt ({ frames := 7, cells := 1, slots := 6, locals := 107 } : Room) (PcT D tc base (ad, cnt, X, Y, ln) [.ref (ad 0 0), .int (jI x), .int (jI k), .int (jI i), .ref (ad 100 0)]) (QI D tc base (fun z u => ∃ X1 : Nat → Int → Int → Int, u = (ad, cnt, X1, Y, ln) ∧ Rng X1 ∧ Frm [10000] X X1 ∧ (0 ≤ z ∧ z ≤ 3))) (XF base) 1 6 (frA base) := by
  refine KH_of (cc := cL_itemAt) (maxL := 6) (ret := some .int) (hh := [(0, 11, 14, 13), (0, 11, 18, 21), (0, 11, 22, 15)]) (by decide) rfl (Nat.le_of_ble_eq_true rfl) ?_
  intro p e s m below meth c ls hx hb hr hml hown hts hlocks htab hl hK hT hw hS
  have hown : s.vm.findClass RL = some m.cls := hown
  have hl : lv_has ls 6 [(0, .ref (ad 0 0)), (1, .int (jI x)), (2, .int (jI k)), (3, .int (jI i)), (4, .ref (ad 100 0))] := hl
  have hc0 : cnt 0 = 1 := hFx.at 0 1 (by decide)
  have hc100 : cnt 100 = 1 := hFx.at 100 1 (by decide)
  refine lv_aload hx hb dL_itemAt_0 (lv_at hl 4 rfl) ?_
  refine lv_iconst (v := jI 0) hx hb dL_itemAt_2 rfl ?_
  refine lv_aload_n hx hb dL_itemAt_3 rfl (lv_at hl 0 rfl) ?_
  refine lv_iload_n hx hb dL_itemAt_4 rfl (lv_at hl 1 rfl) ?_
  refine lv_iload_n hx hb dL_itemAt_5 rfl (lv_at hl 2 rfl) ?_
  refine lv_iload_n hx hb dL_itemAt_6 rfl (lv_at hl 3 rfl) ?_
  refine vx_calll (run_T (As := [.int (jI x), .int (jI k), .int (jI i)]) (rest := [.int (jI 0), .ref (ad 100 0)]) hx hb hml hown hts (c_X8_itemAt l hlT D tc base ad cnt X Y ln hR hFx hLn hCI x k i hqx hqk hqi) (cwV 3 hts gL_itemAt_X8_itemAt rfl rfl rfl (by first | exact hd_X8_itemAt | decide +kernel) ⟨Nat.le_of_ble_eq_true rfl, Nat.le_of_ble_eq_true rfl⟩) hK hT hS hw (by omega) (by omega) sl_0_0 rfl rfl hl.1 rfl (Nat.le_of_ble_eq_true rfl) dL_itemAt_7 ⟨Nat.le_of_ble_eq_true rfl, Nat.le_of_ble_eq_true rfl⟩) hS (fun q _ h => h) (fun q h => h) (fun q _ h => h) ?_ ?_
  · intro E ce q9 u9 t H1 locs1 ht hvm hp hB hz hk1 hS1 hcell hv hcl
    obtain ⟨hE, hw1⟩ := hB
    rw [ht] at hw1
    simp only [List.mem_cons, List.not_mem_nil, or_false] at hE
    rcases hE with rfl | rfl | rfl
    · refine vx_catch (name := eA) hown [] ⟨0, 11, 14, 13⟩ [⟨0, 11, 18, 21⟩, ⟨0, 11, 22, 15⟩] (by rw [htab]; rfl) (fun z hz => nomatch hz) (by decide) (by decide) (hts (.classLink RL 13 eA) (by decide +kernel)) (va_Nw.use rfl hT.2.2.1.1) hcell hv hcl ?_
      refine lv_astore (lv' := [(5, .ref q9), (0, .ref (ad 0 0)), (1, .int (jI x)), (2, .int (jI k)), (3, .int (jI i)), (4, .ref (ad 100 0))]) hx hb dL_itemAt_14 hl (by decide) rfl (fun ls hl => ?_)
      refine lv_iconst (v := jI 1) hx hb dL_itemAt_16 rfl ?_
      refine vx_ret ?_
      exact ret_i (mc := 1) (ms := 6) (z := 1) hx hb hr hlocks hw1 hS1 (by omega) (by omega) dL_itemAt_17 ⟨X, rfl, hR, Frm.rf, by omega⟩
    · refine vx_catch (name := eI) hown [⟨0, 11, 14, 13⟩, ⟨0, 11, 18, 21⟩] ⟨0, 11, 22, 15⟩ [] (by rw [htab]; rfl) (fun z hz => by exact (List.mem_cons.mp hz).elim (fun h => by rw [h]; exact Or.inr ⟨by decide, eA, hts (.classLink RL 13 eA) (by decide +kernel), hT.2.2.2.1.1⟩) (fun h => by rw [List.mem_singleton.mp h]; exact Or.inr ⟨by decide, eS, hts (.classLink RL 21 eS) (by decide +kernel), hT.2.2.2.1.2.2⟩)) (by decide) (by decide) (hts (.classLink RL 15 eI) (by decide +kernel)) (va_Nw.use rfl hT.2.2.1.2.1) hcell hv hcl ?_
      refine lv_astore (lv' := [(5, .ref q9), (0, .ref (ad 0 0)), (1, .int (jI x)), (2, .int (jI k)), (3, .int (jI i)), (4, .ref (ad 100 0))]) hx hb dL_itemAt_22 hl (by decide) rfl (fun ls hl => ?_)
      refine lv_iconst (v := jI 3) hx hb dL_itemAt_24 rfl ?_
      refine vx_ret ?_
      exact ret_i (mc := 1) (ms := 6) (z := 3) hx hb hr hlocks hw1 hS1 (by omega) (by omega) dL_itemAt_25 ⟨X, rfl, hR, Frm.rf, by omega⟩
    · refine vx_catch (name := eS) hown [⟨0, 11, 14, 13⟩] ⟨0, 11, 18, 21⟩ [⟨0, 11, 22, 15⟩] (by rw [htab]; rfl) (fun z hz => by rw [List.mem_singleton.mp hz]; exact Or.inr ⟨by decide, eA, hts (.classLink RL 13 eA) (by decide +kernel), hT.2.2.2.1.2.1⟩) (by decide) (by decide) (hts (.classLink RL 21 eS) (by decide +kernel)) (va_Nw.use rfl hT.2.2.1.2.2) hcell hv hcl ?_
      refine lv_astore (lv' := [(5, .ref q9), (0, .ref (ad 0 0)), (1, .int (jI x)), (2, .int (jI k)), (3, .int (jI i)), (4, .ref (ad 100 0))]) hx hb dL_itemAt_18 hl (by decide) rfl (fun ls hl => ?_)
      refine lv_iconst (v := jI 2) hx hb dL_itemAt_20 rfl ?_
      refine vx_ret ?_
      exact ret_i (mc := 1) (ms := 6) (z := 2) hx hb hr hlocks hw1 hS1 (by omega) (by omega) dL_itemAt_21 ⟨X, rfl, hR, Frm.rf, by omega⟩
  · intro r u9 t H1 locs1 ht hvm hp hB hz hk1 hS1
    obtain ⟨z, rfl, rfl, hz9⟩ := hp
    rw [ht] at hB
    refine x_last hx hb hK.1 hB hS1 (by omega) (by omega) ar_100 (len_E ar_100 (by first | exact Nat.ne_of_beq_eq_false rfl | decide)) (by omega) (by omega) (by omega) dL_itemAt_10 (fun H locs hw hS => ?_)
    refine lv_goto (tgt := 26) hx hb dL_itemAt_11 (by decide) ?_
    refine lv_iconst (v := jI 0) hx hb dL_itemAt_26 rfl ?_
    refine vx_ret ?_
    exact ret_i (mc := 1) (ms := 6) (z := 0) hx hb hr hlocks hw hS (by omega) (by omega) dL_itemAt_27 ⟨_, rfl, rng_set hR (show (-9223372036854775808) ≤ z ∧ z ≤ 9223372036854775807 by omega), Frm.set Frm.rf (by decide), by omega⟩
end
end
