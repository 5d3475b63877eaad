section
set_option maxHeartbeats 4000000 in
set_option maxRecDepth 100000 in
theorem c_X8_row (l : Launch) (D : va_G) (tc : Nat → ClassId) (base : Nat) (ad : Nat → Int → Nat) (cnt : Nat → Int) (X : Nat → Int → Int → Int) (Y : Nat → Int → Int → Option Int) (ln : Int → Int) (hR : Rng X) (hFx : Fx cnt) (hLn : LnOK ln) (hCI : CInv cnt X Y ln) (hOw : Own cnt) (hN : 0 ≤ cnt 25 ∧ 0 ≤ cnt 26) (x k n : Int) (hx : -2147483648 ≤ x ∧ x ≤ 2147483647) (hk : -2147483648 ≤ k ∧ k ≤ 2147483647) (hn : -2147483648 ≤ n ∧ n ≤ 2147483647) : KI l D tc base yX8_row wsX8_row ({ frames := 4, cells := 2, slots := 14, locals := 91 } : Room) [.ref (ad 0 0), .int (jI x), .int (jI k), .int (jI n)] (ad, cnt, X, Y, ln) 2 14 (fun z u => ∃ (ad1 : Nat → Int → Nat) (cnt1 : Nat → Int) (X1 : Nat → Int → Int → Int) (Y1 : Nat → Int → Int → Option Int) (ln1 : Int → Int), u = (ad1, cnt1, X1, Y1, ln1) ∧ Ext ad cnt ln ad1 cnt1 ln1 ∧ Fx cnt1 ∧ Own cnt1 ∧ LnOK ln1 ∧ Rng X1 ∧ Frm [2802, 2803, 2902, 2602, 2700] X X1 ∧ Frm [2801, 2804, 1700] Y Y1 ∧ CInv cnt1 X1 Y1 ln1 ∧ (-2147483648 ≤ z ∧ z ≤ 2147483647) ∧ ((¬ (0 ≤ x ∧ x < X 0 0 3 ∧ 0 ≤ k ∧ k < X 19 (tyo (Y 15 x 0)) 1) ∧ z = -1) ∨ ((0 ≤ x ∧ x < X 0 0 3 ∧ 0 ≤ k ∧ k < X 19 (tyo (Y 15 x 0)) 1) ∧ 12 < n ∧ z = -2) ∨ ((0 ≤ x ∧ x < X 0 0 3 ∧ 0 ≤ k ∧ k < X 19 (tyo (Y 15 x 0)) 1) ∧ n ≤ 12 ∧ X 21 (tyo (Y 15 x 0)) k < 3 ∧ z = -14) ∨ ((0 ≤ x ∧ x < X 0 0 3 ∧ 0 ≤ k ∧ k < X 19 (tyo (Y 15 x 0)) 1) ∧ n ≤ 12 ∧ 3 ≤ X 21 (tyo (Y 15 x 0)) k ∧ n < -1 ∧ z = -13) ∨ ((0 ≤ x ∧ x < X 0 0 3 ∧ 0 ≤ k ∧ k < X 19 (tyo (Y 15 x 0)) 1) ∧ n ≤ 12 ∧ 3 ≤ X 21 (tyo (Y 15 x 0)) k ∧ -1 ≤ n ∧ 80 ≤ X 29 0 1 ∧ z = -4) ∨ ((0 ≤ x ∧ x < X 0 0 3 ∧ 0 ≤ k ∧ k < X 19 (tyo (Y 15 x 0)) 1) ∧ n ≤ 12 ∧ 3 ≤ X 21 (tyo (Y 15 x 0)) k ∧ -1 ≤ n ∧ X 29 0 1 ≤ 79 ∧ z = 1)) ∧ (∀ g, 0 ≤ g → g < cnt 26 → X1 27 g = X 27 g) ∧ (z < 0 → Frm [2602, 2700] X X1 ∧ Y1 = Y) ∧ (z = 1 → eNoteC X X1 Y Y1 (some x) k (X 16 x k) (Y 17 x k) ∧ (∀ p q, ¬ (p = x ∧ q = k) → Y1 17 p q = Y 17 p q) ∧ (∀ p q, X1 16 p q = X 16 p q) ∧ ((n = -1 ∧ Y1 17 x k = none) ∨ (0 ≤ n ∧ ∃ g, Y1 17 x k = some g ∧ cnt 26 ≤ g ∧ g < cnt1 26 ∧ ln1 g = n ∧ ∀ i, X1 27 g i = 0)))) := by
  refine K_of (cc := cX8_row) (maxL := 5) (ret := (some .int)) (by decide) rfl (Nat.le_of_ble_eq_true rfl) ?_
  intro p e s m below meth c ls hx hb hr hml hown hts hlocks hl hK hw hS
  have hown : s.vm.findClass RX8 = some m.cls := hown
  have hbs : base ≤ s.heap.size := wd_size hw
  obtain ⟨av9, hav9⟩ : ∃ a9 : Array Value, a9 = ([.ref (ad 0 0), .int (jI x), .int (jI k), .int (jI n)] : List Value).toArray := ⟨_, rfl⟩
  rw [← hav9] at hts ⊢
  obtain ⟨Q9, hQ9⟩ : ∃ q9Q : State → Prop, q9Q = MQ below (QI D tc base (fun z u => ∃ (ad1 : Nat → Int → Nat) (cnt1 : Nat → Int) (X1 : Nat → Int → Int → Int) (Y1 : Nat → Int → Int → Option Int) (ln1 : Int → Int), u = (ad1, cnt1, X1, Y1, ln1) ∧ Ext ad cnt ln ad1 cnt1 ln1 ∧ Fx cnt1 ∧ Own cnt1 ∧ LnOK ln1 ∧ Rng X1 ∧ Frm [2802, 2803, 2902, 2602, 2700] X X1 ∧ Frm [2801, 2804, 1700] Y Y1 ∧ CInv cnt1 X1 Y1 ln1 ∧ (-2147483648 ≤ z ∧ z ≤ 2147483647) ∧ ((¬ (0 ≤ x ∧ x < X 0 0 3 ∧ 0 ≤ k ∧ k < X 19 (tyo (Y 15 x 0)) 1) ∧ z = -1) ∨ ((0 ≤ x ∧ x < X 0 0 3 ∧ 0 ≤ k ∧ k < X 19 (tyo (Y 15 x 0)) 1) ∧ 12 < n ∧ z = -2) ∨ ((0 ≤ x ∧ x < X 0 0 3 ∧ 0 ≤ k ∧ k < X 19 (tyo (Y 15 x 0)) 1) ∧ n ≤ 12 ∧ X 21 (tyo (Y 15 x 0)) k < 3 ∧ z = -14) ∨ ((0 ≤ x ∧ x < X 0 0 3 ∧ 0 ≤ k ∧ k < X 19 (tyo (Y 15 x 0)) 1) ∧ n ≤ 12 ∧ 3 ≤ X 21 (tyo (Y 15 x 0)) k ∧ n < -1 ∧ z = -13) ∨ ((0 ≤ x ∧ x < X 0 0 3 ∧ 0 ≤ k ∧ k < X 19 (tyo (Y 15 x 0)) 1) ∧ n ≤ 12 ∧ 3 ≤ X 21 (tyo (Y 15 x 0)) k ∧ -1 ≤ n ∧ 80 ≤ X 29 0 1 ∧ z = -4) ∨ ((0 ≤ x ∧ x < X 0 0 3 ∧ 0 ≤ k ∧ k < X 19 (tyo (Y 15 x 0)) 1) ∧ n ≤ 12 ∧ 3 ≤ X 21 (tyo (Y 15 x 0)) k ∧ -1 ≤ n ∧ X 29 0 1 ≤ 79 ∧ z = 1)) ∧ (∀ g, 0 ≤ g → g < cnt 26 → X1 27 g = X 27 g) ∧ (z < 0 → Frm [2602, 2700] X X1 ∧ Y1 = Y) ∧ (z = 1 → eNoteC X X1 Y Y1 (some x) k (X 16 x k) (Y 17 x k) ∧ (∀ p q, ¬ (p = x ∧ q = k) → Y1 17 p q = Y 17 p q) ∧ (∀ p q, X1 16 p q = X 16 p q) ∧ ((n = -1 ∧ Y1 17 x k = none) ∨ (0 ≤ n ∧ ∃ g, Y1 17 x k = some g ∧ cnt 26 ≤ g ∧ g < cnt1 26 ∧ ln1 g = n ∧ ∀ i, X1 27 g i = 0))))) av9 s 2 14 (frA base) := ⟨_, rfl⟩
  rw [← hQ9]
  obtain ⟨ad0, ha0⟩ : ∃ a, a = ad := ⟨_, rfl⟩
  obtain ⟨cnt0, hc0⟩ : ∃ a, a = cnt := ⟨_, rfl⟩
  obtain ⟨ln0, hl0⟩ : ∃ a, a = ln := ⟨_, rfl⟩
  have hE9 : ∀ a c n, Ext ad0 cnt0 ln0 a c n → Ext ad cnt ln a c n := by rw [ha0, hc0, hl0]; exact fun _ _ _ h => h
  have hE : Ext ad0 cnt0 ln0 ad cnt ln := by rw [ha0, hc0, hl0]; exact Ext.rf
  clear ha0 hc0 hl0
  have hi5 : ∀ w ∈ wsX50, w ∈ wsX8_row := fun w h => List.mem_cons_of_mem _ (List.mem_append_left _ (List.mem_append_left _ (List.mem_append_left _ (List.mem_append_right _ h))))
  have hf5 : fctx s m _ RX8 wsX8_row D tc RX5 TX5 2 5 := ⟨hts, hi5, hown, hK.1, rfl⟩
  have hi6 : ∀ w ∈ wsX60, w ∈ wsX8_row := fun w h => List.mem_cons_of_mem _ (List.mem_append_left _ (List.mem_append_left _ (List.mem_append_left _ (List.mem_append_left _ (List.mem_append_left _ (List.mem_append_right _ h))))))
  have hf6 : fctx s m _ RX8 wsX8_row D tc RX6 TX6 4 6 := ⟨hts, hi6, hown, hK.1, rfl⟩
  have hi7 : ∀ w ∈ wsX70, w ∈ wsX8_row := fun w h => List.mem_cons_of_mem _ (List.mem_append_left _ (List.mem_append_left _ (List.mem_append_left _ (List.mem_append_left _ (List.mem_append_right _ h)))))
  have hf7 : fctx s m _ RX8 wsX8_row D tc RX7 TX7 8 7 := ⟨hts, hi7, hown, hK.1, rfl⟩
  have lk97 := hts (.fieldLink RX8 97 (TX6 0).1 (TX6 0).2.1 (TX6 0).2.2.1) (gj_X8_row_0 _ (gp_h))
  have lk135 := hts (.fieldLink RX8 135 (TX7 3).1 (TX7 3).2.1 (TX7 3).2.2.1) (gj_X8_row_0 _ (gp_1 gp_h))
  have hc0 : cnt 0 = 1 := hFx.at 0 1 (by decide)
  have hc15 : cnt 15 = 30 := hFx.at 15 30 (by decide)
  have hc21 : cnt 21 = cnt 19 := hFx.2.1 21 (by decide)
  have hc27 : cnt 27 = cnt 26 := hFx.2.2
  have hl : lv_has ls 5 [(0, .ref (ad 0 0)), (1, .int (jI x)), (2, .int (jI k)), (3, .int (jI n))] := hl
  have ftc : 0 ≤ X 0 0 3 ∧ X 0 0 3 ≤ 30 := hR 0 0 3
  have fty : 0 ≤ X 0 0 1 ∧ X 0 0 1 ≤ 8 := hR 0 0 1
  have hct : cnt 19 = X 0 0 1 := hCI.2.2.2.1.1
  have hfj : 0 ≤ X 29 0 3 ∧ X 29 0 3 ≤ 4 := hR 29 0 3
  have hfn : 0 ≤ X 29 0 1 ∧ X 29 0 1 ≤ 80 := hR 29 0 1
  refine lv_aload_n hx hb dX8_row_0 rfl (lv_at hl 0 rfl) ?_
  refine lv_iload_n hx hb dX8_row_1 rfl (lv_at hl 1 rfl) ?_
  refine lv_iload_n hx hb dX8_row_2 rfl (lv_at hl 2 rfl) ?_
  refine gos_r (run_V (As := [.int (jI x), .int (jI k)]) (rest := []) hx hb hml hown hts (c_X8_thingWithField l D tc base ad cnt X Y ln hR hFx hLn hCI x k (by omega) (by omega)) (cwV 2 hts gX8_row_X8_thingWithField rfl rfl rfl (by first | exact hd_X8_thingWithField | decide +kernel) ⟨Nat.le_of_ble_eq_true rfl, Nat.le_of_ble_eq_true rfl⟩) hK hw (by first | exact Int.le_refl 0 | omega) (by first | exact zlt hc0 | omega) sl_0_0 rfl rfl hl.1 rfl (Nat.le_of_ble_eq_true rfl) dX8_row_3 ⟨(by show _ ≤ (2 : Nat); omega), (by show _ ≤ (14 : Nat); omega)⟩) hS (fun u2 H locs p3 hw hS => ?_) (fun z1 u2 H locs p3 hw hS => ?_)
  · obtain ⟨eu2, hsp3, hnp3⟩ := p3
    subst eu2
    refine lv_astoreN (lv' := [(4, .null), (0, .ref (ad 0 0)), (1, .int (jI x)), (2, .int (jI k)), (3, .int (jI n))]) hx hb dX8_row_6 hl (by decide) rfl (fun ls hl => ?_)
    refine lv_aloadN hx hb dX8_row_8 (lv_at hl 0 rfl) ?_
    refine lv_ifnonnullN hx hb dX8_row_10 ?_
    refine lv_iconst (v := jI (-1)) hx hb dX8_row_13 rfl ?_
    rw [hQ9]
    refine ret_i (mc := 2) (ms := 14) hx hb hr hlocks hw hS (by first | exact Nat.le_of_ble_eq_true rfl | omega) (by first | exact Nat.le_of_ble_eq_true rfl | omega) dX8_row_14 ?_
    have h9n4 : ¬ (0 ≤ x ∧ x < X 0 0 3 ∧ 0 ≤ k ∧ k < X 19 (tyo (Y 15 x 0)) 1) := hnp3 rfl
    exact ⟨ad, cnt, X, Y, ln, rfl, hE9 _ _ _ hE, hFx, hOw, hLn, hR, Frm.rf, Frm.rf, hCI, by omega, (by exact Or.inl ⟨(fun q => by (try delta Hid at *); omega), (by (try delta Hid at *); omega)⟩), fun g9 a b => funext fun j9 => rfl, fun _ => ⟨Frm.rf, rfl⟩, fun q => (by exfalso; omega)⟩
  · obtain ⟨eu2, hsp3, hnp3⟩ := p3
    subst eu2
    obtain ⟨ezz1, p3, h1p3, h2p3, h3p3, h4p3, h5p3⟩ := hsp3 z1 rfl
    refine lv_astore (lv' := [(4, .ref (ad 15 z1)), (0, .ref (ad 0 0)), (1, .int (jI x)), (2, .int (jI k)), (3, .int (jI n))]) hx hb dX8_row_6 hl (by decide) rfl (fun ls hl => ?_)
    refine lv_aload hx hb dX8_row_8 (lv_at hl 0 rfl) ?_
    refine lv_ifnonnull (tgt := 15) hx hb dX8_row_10 (by decide) ?_
    refine lv_iload_n hx hb dX8_row_15 rfl (lv_at hl 4 rfl) ?_
    refine lv_bipush (v := jI 12) hx hb dX8_row_16 (by decide) ?_
    refine x_icmp_le (tgt := 24) hx hb (by omega) (by omega) dX8_row_18 (by decide) (fun c5 => ?_) (fun c5 => ?_)
    · refine lv_aload hx hb dX8_row_24 (lv_at hl 0 rfl) ?_
      refine x_getr (jz := 0) hx hb hf6 hw (by omega) (by omega) sl_15_0 rfl lk97 dX8_row_26 (fun y6 => ?_) (fun r7 y6 gr7 lr7 => ?_)
      · exfalso
        exact absurd y6 (hCI.2.2.2.2.1 z1 (by omega) (by omega))
      · refine x_geto hx hb hf7 hw (by omega) (by omega) sl_19_3 lk135 dX8_row_29 ?_
        refine lv_iload_n hx hb dX8_row_32 rfl (lv_at hl 3 rfl) ?_
        refine x_iald hx hb hK.1 hw (by omega) (by omega) ar_21 (len_E ar_21 (by first | exact Nat.ne_of_beq_eq_false rfl | decide)) (by omega) (by omega) (by omega) dX8_row_33 ?_
        have f8 : 0 ≤ X 21 r7 k ∧ X 21 r7 k ≤ 5 := hR 21 r7 k
        refine gos_i (run_S (As := [.int (jI (X 21 r7 k))]) (rest := []) hx hb hml hown hts (c_X8_isRowLane l D tc base ad cnt X Y ln (X 21 r7 k) (by omega)) (cwS 1 hts gX8_row_X8_isRowLane rfl rfl rfl (by first | exact hd_X8_isRowLane | decide +kernel) ⟨Nat.le_of_ble_eq_true rfl, Nat.le_of_ble_eq_true rfl⟩) hK hw rfl hl.1 rfl (Nat.le_of_ble_eq_true rfl) dX8_row_34 ⟨(by show _ ≤ (2 : Nat); omega), (by show _ ≤ (14 : Nat); omega)⟩) hS (fun z9 u10 H locs p11 hw hS => ?_)
        obtain ⟨eu10, p11⟩ := p11
        subst eu10
        rcases p11 with ⟨ez9, p11⟩ | ⟨ez9, p11⟩
        · subst ez9
          refine x_if_neT (tgt := 45) hx hb (by omega) (by decide) dX8_row_37 (by decide) ?_
          refine lv_iload_n hx hb dX8_row_45 rfl (lv_at hl 4 rfl) ?_
          refine lv_iconst (v := jI (-1)) hx hb dX8_row_46 rfl ?_
          refine x_icmp_ge (tgt := 55) hx hb (by omega) (by omega) dX8_row_47 (by decide) (fun c12 => ?_) (fun c12 => ?_)
          · refine lv_aload_n hx hb dX8_row_55 rfl (lv_at hl 1 rfl) ?_
            refine lv_aload hx hb dX8_row_56 (lv_at hl 0 rfl) ?_
            refine lv_iload_n hx hb dX8_row_58 rfl (lv_at hl 3 rfl) ?_
            refine lv_iload_n hx hb dX8_row_59 rfl (lv_at hl 4 rfl) ?_
            refine lv_iconst (v := jI (-1)) hx hb dX8_row_60 rfl ?_
            refine x_icmp_ne (tgt := 68) hx hb (by omega) (by omega) dX8_row_61 (by decide) (fun c13 => ?_) (fun c13 => ?_)
            · refine g_new (E := []) (G := []) (ci := 5) (fs := [.null, .int 0]) hx hb hf5 ⟨tyX5_ok, nmX5⟩ (hts (.classLink RX8 42 RX5) (by first | exact gj_X8_row_0 _ (gp_1 (gp_1 gp_h)) | decide +kernel)) (hts (.instantiable RX5 2) (by first | exact gj_X8_row_0 _ (gp_1 (gp_1 (gp_1 gp_h))) | decide +kernel)) (hts (.initialized RX5) (by first | exact gj_X8_row_0 _ (gp_4 gp_h) | decide +kernel)) (wx_of hw) hS hbs (fun j hj => by rcases (show j = 0 ∨ j = 1 by omega) with rfl | rfl <;> rfl) (by show _ ≤ (2 : Nat); omega) (by show _ ≤ (14 : Nat); omega) dX8_row_68 (fun q14 H hwx hS => ?_)
              have hwx : wx D tc base (ad, cnt, X, Y, ln) ([] ++ [(q14, .inr (5, [.null, .int 0]))]) H := hwx
              have hw := wx_wd hwx
              refine lv_dup hx hb dX8_row_71 rfl ?_
              refine lv_iload_n hx hb dX8_row_72 rfl (lv_at hl 4 rfl) ?_
              refine gos_x (run_I (As := [.int (jI n)]) (rest := [.ref q14, .int (jI k), .ref (ad 15 z1), .ref (ad 0 0)]) hx hb hml hown hts (c_X5_init l D tc base (ad, cnt, X, Y, ln) [] q14 n (by omega)) (cwI 1 hts gX8_row_X5_init rfl rfl rfl (hts (.initialized RX5) (by first | exact gj_X8_row_0 _ (gp_4 gp_h) | decide +kernel)) (hts (.methodLink RX8 153 yX5_init) (by first | exact gj_X8_row_1 _ (gp_4 (gp_1 (gp_1 gp_h))) | decide +kernel)) (hts (.instanceMethod yX5_init) (by first | exact gj_X8_row_1 _ (gp_4 (gp_1 (gp_1 (gp_1 gp_h)))) | decide +kernel)) rfl (by decide +kernel) ⟨Nat.le_of_ble_eq_true rfl, Nat.le_of_ble_eq_true rfl⟩) hK hwx rfl hl.1 rfl (Nat.le_of_ble_eq_true rfl) dX8_row_73 ⟨by show _ ≤ (2 : Nat); omega, by show _ ≤ (14 : Nat); omega⟩) hS (fun u9 E15 H locs p16 hwx hS => ?_)
              obtain ⟨g17, hg17⟩ : ∃ g, g = cnt 26 := ⟨_, rfl⟩
              obtain ⟨rfl, q21, rfl⟩ := p16
              have hwx := (show wx D tc base (ad, cnt, X, Y, ln) ([] ++ _) H from hwx)
              obtain ⟨ad, cnt, X18, ln, hw, hE19, hFx, hOw, hLn, hRX18, hG20, hCIX18, hkg17, hag17, hlng17, hz0g17, hx7g17⟩ := born_row hwx (by omega) hFx hOw (by omega) hR hLn hCI
              rw [← hg17] at hkg17 hag17 hlng17 hz0g17 hx7g17
              have hFX18 : Frm [2802, 2803, 2902, 2602, 2700] X X18 := Frm.tr Frm.rf (Frm.mono hG20 (by first | exact nls_of rfl | decide))
              have hE := Ext.tr hE hE19
              have hm22 := hE19.2.1 19
              have hm23 := hE19.2.1 25
              have hm24 := hE19.2.1 26
              have hN : 0 ≤ cnt 25 ∧ 0 ≤ cnt 26 := by omega
              have ha25 := hE19.1 15 z1 (by omega) (by omega)
              have ha26 := hE19.1 0 0 (by omega) (by omega)
              have hc0 : cnt 0 = 1 := hFx.at 0 1 (by decide)
              have hc15 : cnt 15 = 30 := hFx.at 15 30 (by decide)
              have hc21 : cnt 21 = cnt 19 := hFx.2.1 21 (by decide)
              have hc27 : cnt 27 = cnt 26 := hFx.2.2
              have hl : lv_has ls 5 [(4, .ref (ad 15 z1)), (0, .ref (ad 0 0)), (1, .int (jI x)), (2, .int (jI k)), (3, .int (jI n))] := by rw [ha25, ha26]; exact hl
              refine W.eq (g2 := F0 m 76 ls [.ref (ad 26 g17), .int (jI k), .ref (ad 15 z1), .ref (ad 0 0)]) (by first | rfl | (rw [ha25, ha26, hag17]; done) | (rw [ha25, ha26, hag17]; rfl)) ?_
              refine gos_i (run_V (As := [.ref (ad 15 z1), .int (jI k), .ref (ad 26 g17)]) (rest := []) hx hb hml hown hts (c_X8_changeRow_r l D tc base ad cnt X18 Y ln hRX18 hFx hLn hCIX18 z1 k g17 (by omega) (by omega) (by omega)) (cwV 3 hts gX8_row_X8_changeRow rfl rfl rfl (by first | exact hd_X8_changeRow | decide +kernel) ⟨Nat.le_of_ble_eq_true rfl, Nat.le_of_ble_eq_true rfl⟩) hK hw (by first | exact Int.le_refl 0 | omega) (by first | exact zlt hc0 | omega) sl_0_0 rfl rfl hl.1 rfl (Nat.le_of_ble_eq_true rfl) dX8_row_76 ⟨(by show _ ≤ (2 : Nat); omega), (by show _ ≤ (14 : Nat); omega)⟩) hS (fun z27 u28 H locs p29 hw hS => ?_)
              obtain ⟨X30, Y31, eu28, hRX30, hG32, hJ33, hCIX30, p29, hcvX30⟩ := p29
              subst eu28
              have hFX30 : Frm [2802, 2803, 2902, 2602, 2700] X X30 := Frm.tr hFX18 (Frm.mono hG32 (by first | exact nls_of rfl | decide))
              have hHY31 : Frm [2801, 2804, 1700] Y Y31 := Frm.tr Frm.rf (Frm.mono hJ33 (by first | exact nls_of rfl | decide))
              rw [hQ9]
              refine ret_i (mc := 2) (ms := 14) hx hb hr hlocks hw hS (by first | exact Nat.le_of_ble_eq_true rfl | omega) (by first | exact Nat.le_of_ble_eq_true rfl | omega) dX8_row_79 ?_
              have hT34 : tyo (Y 15 x 0) = r7 := by rw [← ezz1]; exact tyo_some y6
              have hk35 : k < X 19 r7 1 := h5p3 r7 (by rw [← ezz1]; exact y6)
              have e2936 : X18 29 0 1 = X 29 0 1 := (by rw [hG20 29 0 1 (show 2902 ∉ [2602, 2700] by first | exact nlm_ni rfl | decide)])
              have q37 : Frm [2602, 2700] X X18 := Frm.tr Frm.rf (Frm.mono hG20 (by first | exact nls_of rfl | decide))
              rcases hcvX30 with ⟨c1, c2, c3, c4⟩ | ⟨c1, c2, c3, c4, c5, c6⟩
              · exact ⟨ad, cnt, X30, Y31, ln, rfl, hE9 _ _ _ hE, hFx, hOw, hLn, hRX30, hFX30, hHY31, hCIX30, by omega, (by rw [hT34]; first | (have h9z : (z27 : Int) = -1 := (by omega); exact Or.inl ⟨(fun q => by (try delta Hid at *); omega), (by (try delta Hid at *); omega)⟩) | (have h9z : (z27 : Int) = -2 := (by omega); exact Or.inr (Or.inl ⟨(by (try delta Hid at *); omega), (by (try delta Hid at *); omega), (by (try delta Hid at *); omega)⟩)) | (have h9z : (z27 : Int) = -14 := (by omega); exact Or.inr (Or.inr (Or.inl ⟨(by (try delta Hid at *); omega), (by (try delta Hid at *); omega), (by (try delta Hid at *); omega), (by (try delta Hid at *); omega)⟩))) | (have h9z : (z27 : Int) = -13 := (by omega); exact Or.inr (Or.inr (Or.inr (Or.inl ⟨(by (try delta Hid at *); omega), (by (try delta Hid at *); omega), (by (try delta Hid at *); omega), (by (try delta Hid at *); omega), (by (try delta Hid at *); omega)⟩)))) | (have h9z : (z27 : Int) = -4 := (by omega); exact Or.inr (Or.inr (Or.inr (Or.inr (Or.inl ⟨(by (try delta Hid at *); omega), (by (try delta Hid at *); omega), (by (try delta Hid at *); omega), (by (try delta Hid at *); omega), (by (try delta Hid at *); omega), (by (try delta Hid at *); omega)⟩))))) | (have h9z : (z27 : Int) = 1 := (by omega); exact Or.inr (Or.inr (Or.inr (Or.inr (Or.inr (⟨(by (try delta Hid at *); omega), (by (try delta Hid at *); omega), (by (try delta Hid at *); omega), (by (try delta Hid at *); omega), (by (try delta Hid at *); omega), (by (try delta Hid at *); omega)⟩)))))) | exact Or.inl ⟨(fun q => by (try delta Hid at *); omega), (by (try delta Hid at *); omega)⟩ | exact Or.inr (Or.inl ⟨(by (try delta Hid at *); omega), (by (try delta Hid at *); omega), (by (try delta Hid at *); omega)⟩) | exact Or.inr (Or.inr (Or.inl ⟨(by (try delta Hid at *); omega), (by (try delta Hid at *); omega), (by (try delta Hid at *); omega), (by (try delta Hid at *); omega)⟩)) | exact Or.inr (Or.inr (Or.inr (Or.inl ⟨(by (try delta Hid at *); omega), (by (try delta Hid at *); omega), (by (try delta Hid at *); omega), (by (try delta Hid at *); omega), (by (try delta Hid at *); omega)⟩))) | exact Or.inr (Or.inr (Or.inr (Or.inr (Or.inl ⟨(by (try delta Hid at *); omega), (by (try delta Hid at *); omega), (by (try delta Hid at *); omega), (by (try delta Hid at *); omega), (by (try delta Hid at *); omega), (by (try delta Hid at *); omega)⟩)))) | exact Or.inr (Or.inr (Or.inr (Or.inr (Or.inr (⟨(by (try delta Hid at *); omega), (by (try delta Hid at *); omega), (by (try delta Hid at *); omega), (by (try delta Hid at *); omega), (by (try delta Hid at *); omega), (by (try delta Hid at *); omega)⟩)))))), fun g9 a b => funext fun j9 => (by rw [hG32 27 g9 j9 (show 2700 ∉ [2802, 2803, 2902] by first | exact nlm_ni rfl | decide)]; exact (congrFun (hx7g17 27 g9 (by omega)) j9)), fun _ => ⟨(by rw [c3]; exact q37), c4⟩, fun q => (by exfalso; omega)⟩
              · exact ⟨ad, cnt, X30, Y31, ln, rfl, hE9 _ _ _ hE, hFx, hOw, hLn, hRX30, hFX30, hHY31, hCIX30, by omega, (by rw [hT34]; first | (have h9z : (z27 : Int) = -1 := (by omega); exact Or.inl ⟨(fun q => by (try delta Hid at *); omega), (by (try delta Hid at *); omega)⟩) | (have h9z : (z27 : Int) = -2 := (by omega); exact Or.inr (Or.inl ⟨(by (try delta Hid at *); omega), (by (try delta Hid at *); omega), (by (try delta Hid at *); omega)⟩)) | (have h9z : (z27 : Int) = -14 := (by omega); exact Or.inr (Or.inr (Or.inl ⟨(by (try delta Hid at *); omega), (by (try delta Hid at *); omega), (by (try delta Hid at *); omega), (by (try delta Hid at *); omega)⟩))) | (have h9z : (z27 : Int) = -13 := (by omega); exact Or.inr (Or.inr (Or.inr (Or.inl ⟨(by (try delta Hid at *); omega), (by (try delta Hid at *); omega), (by (try delta Hid at *); omega), (by (try delta Hid at *); omega), (by (try delta Hid at *); omega)⟩)))) | (have h9z : (z27 : Int) = -4 := (by omega); exact Or.inr (Or.inr (Or.inr (Or.inr (Or.inl ⟨(by (try delta Hid at *); omega), (by (try delta Hid at *); omega), (by (try delta Hid at *); omega), (by (try delta Hid at *); omega), (by (try delta Hid at *); omega), (by (try delta Hid at *); omega)⟩))))) | (have h9z : (z27 : Int) = 1 := (by omega); exact Or.inr (Or.inr (Or.inr (Or.inr (Or.inr (⟨(by (try delta Hid at *); omega), (by (try delta Hid at *); omega), (by (try delta Hid at *); omega), (by (try delta Hid at *); omega), (by (try delta Hid at *); omega), (by (try delta Hid at *); omega)⟩)))))) | exact Or.inl ⟨(fun q => by (try delta Hid at *); omega), (by (try delta Hid at *); omega)⟩ | exact Or.inr (Or.inl ⟨(by (try delta Hid at *); omega), (by (try delta Hid at *); omega), (by (try delta Hid at *); omega)⟩) | exact Or.inr (Or.inr (Or.inl ⟨(by (try delta Hid at *); omega), (by (try delta Hid at *); omega), (by (try delta Hid at *); omega), (by (try delta Hid at *); omega)⟩)) | exact Or.inr (Or.inr (Or.inr (Or.inl ⟨(by (try delta Hid at *); omega), (by (try delta Hid at *); omega), (by (try delta Hid at *); omega), (by (try delta Hid at *); omega), (by (try delta Hid at *); omega)⟩))) | exact Or.inr (Or.inr (Or.inr (Or.inr (Or.inl ⟨(by (try delta Hid at *); omega), (by (try delta Hid at *); omega), (by (try delta Hid at *); omega), (by (try delta Hid at *); omega), (by (try delta Hid at *); omega), (by (try delta Hid at *); omega)⟩)))) | exact Or.inr (Or.inr (Or.inr (Or.inr (Or.inr (⟨(by (try delta Hid at *); omega), (by (try delta Hid at *); omega), (by (try delta Hid at *); omega), (by (try delta Hid at *); omega), (by (try delta Hid at *); omega), (by (try delta Hid at *); omega)⟩)))))), fun g9 a b => funext fun j9 => (by rw [hG32 27 g9 j9 (show 2700 ∉ [2802, 2803, 2902] by first | exact nlm_ni rfl | decide)]; exact (congrFun (hx7g17 27 g9 (by omega)) j9)), fun q => (by exfalso; omega), fun _ => (by rw [← ezz1]; exact ⟨(by have h9 := eNoteC.from (M := [2602, 2700]) (N := []) c3 q37 Frm.rf (by decide) (fun n j => q37 28 n j (by rw [fcode28]; simp only [List.mem_cons, List.not_mem_nil, or_false]; omega)) (fun n j => rfl); rw [(show X18 16 z1 k = X 16 z1 k from (by rw [hG20 16 z1 k (show 1600 ∉ [2602, 2700] by first | exact nlm_ni rfl | decide)]))] at h9; exact h9), c5, (fun p9 q9 => (c6 p9 q9).trans (by rw [hG20 16 p9 q9 (show 1600 ∉ [2602, 2700] by first | exact nlm_ni rfl | decide)])), Or.inr ⟨by omega, g17, c4, by omega, by omega, hlng17, fun i9 => (by rw [hG32 27 g17 i9 (show 2700 ∉ [2802, 2803, 2902] by first | exact nlm_ni rfl | decide)]; exact hz0g17 i9)⟩⟩)⟩
            · refine lv_null hx hb dX8_row_64 ?_
              refine lv_goto (tgt := 76) hx hb dX8_row_65 (by decide) ?_
              refine gos_i (run_V (As := [.ref (ad 15 z1), .int (jI k), .null]) (rest := []) hx hb hml hown hts (c_X8_changeRow_n l D tc base ad cnt X Y ln hR hFx hLn hCI z1 k (by omega) (by omega)) (cwV 3 hts gX8_row_X8_changeRow rfl rfl rfl (by first | exact hd_X8_changeRow | decide +kernel) ⟨Nat.le_of_ble_eq_true rfl, Nat.le_of_ble_eq_true rfl⟩) hK hw (by first | exact Int.le_refl 0 | omega) (by first | exact zlt hc0 | omega) sl_0_0 rfl rfl hl.1 rfl (Nat.le_of_ble_eq_true rfl) dX8_row_76 ⟨(by show _ ≤ (2 : Nat); omega), (by show _ ≤ (14 : Nat); omega)⟩) hS (fun z39 u40 H locs p41 hw hS => ?_)
              obtain ⟨X42, Y43, eu40, hRX42, hG44, hJ45, hCIX42, p41, hcvX42⟩ := p41
              subst eu40
              have hFX42 : Frm [2802, 2803, 2902, 2602, 2700] X X42 := Frm.tr Frm.rf (Frm.mono hG44 (by first | exact nls_of rfl | decide))
              have hHY43 : Frm [2801, 2804, 1700] Y Y43 := Frm.tr Frm.rf (Frm.mono hJ45 (by first | exact nls_of rfl | decide))
              rw [hQ9]
              refine ret_i (mc := 2) (ms := 14) hx hb hr hlocks hw hS (by first | exact Nat.le_of_ble_eq_true rfl | omega) (by first | exact Nat.le_of_ble_eq_true rfl | omega) dX8_row_79 ?_
              have hT46 : tyo (Y 15 x 0) = r7 := by rw [← ezz1]; exact tyo_some y6
              have hk47 : k < X 19 r7 1 := h5p3 r7 (by rw [← ezz1]; exact y6)
              rcases hcvX42 with ⟨c1, c2, c3, c4⟩ | ⟨c1, c2, c3, c4, c5, c6⟩
              · exact ⟨ad, cnt, X42, Y43, ln, rfl, hE9 _ _ _ hE, hFx, hOw, hLn, hRX42, hFX42, hHY43, hCIX42, by omega, (by rw [hT46]; first | (have h9z : (z39 : Int) = -1 := (by omega); exact Or.inl ⟨(fun q => by (try delta Hid at *); omega), (by (try delta Hid at *); omega)⟩) | (have h9z : (z39 : Int) = -2 := (by omega); exact Or.inr (Or.inl ⟨(by (try delta Hid at *); omega), (by (try delta Hid at *); omega), (by (try delta Hid at *); omega)⟩)) | (have h9z : (z39 : Int) = -14 := (by omega); exact Or.inr (Or.inr (Or.inl ⟨(by (try delta Hid at *); omega), (by (try delta Hid at *); omega), (by (try delta Hid at *); omega), (by (try delta Hid at *); omega)⟩))) | (have h9z : (z39 : Int) = -13 := (by omega); exact Or.inr (Or.inr (Or.inr (Or.inl ⟨(by (try delta Hid at *); omega), (by (try delta Hid at *); omega), (by (try delta Hid at *); omega), (by (try delta Hid at *); omega), (by (try delta Hid at *); omega)⟩)))) | (have h9z : (z39 : Int) = -4 := (by omega); exact Or.inr (Or.inr (Or.inr (Or.inr (Or.inl ⟨(by (try delta Hid at *); omega), (by (try delta Hid at *); omega), (by (try delta Hid at *); omega), (by (try delta Hid at *); omega), (by (try delta Hid at *); omega), (by (try delta Hid at *); omega)⟩))))) | (have h9z : (z39 : Int) = 1 := (by omega); exact Or.inr (Or.inr (Or.inr (Or.inr (Or.inr (⟨(by (try delta Hid at *); omega), (by (try delta Hid at *); omega), (by (try delta Hid at *); omega), (by (try delta Hid at *); omega), (by (try delta Hid at *); omega), (by (try delta Hid at *); omega)⟩)))))) | exact Or.inl ⟨(fun q => by (try delta Hid at *); omega), (by (try delta Hid at *); omega)⟩ | exact Or.inr (Or.inl ⟨(by (try delta Hid at *); omega), (by (try delta Hid at *); omega), (by (try delta Hid at *); omega)⟩) | exact Or.inr (Or.inr (Or.inl ⟨(by (try delta Hid at *); omega), (by (try delta Hid at *); omega), (by (try delta Hid at *); omega), (by (try delta Hid at *); omega)⟩)) | exact Or.inr (Or.inr (Or.inr (Or.inl ⟨(by (try delta Hid at *); omega), (by (try delta Hid at *); omega), (by (try delta Hid at *); omega), (by (try delta Hid at *); omega), (by (try delta Hid at *); omega)⟩))) | exact Or.inr (Or.inr (Or.inr (Or.inr (Or.inl ⟨(by (try delta Hid at *); omega), (by (try delta Hid at *); omega), (by (try delta Hid at *); omega), (by (try delta Hid at *); omega), (by (try delta Hid at *); omega), (by (try delta Hid at *); omega)⟩)))) | exact Or.inr (Or.inr (Or.inr (Or.inr (Or.inr (⟨(by (try delta Hid at *); omega), (by (try delta Hid at *); omega), (by (try delta Hid at *); omega), (by (try delta Hid at *); omega), (by (try delta Hid at *); omega), (by (try delta Hid at *); omega)⟩)))))), fun g9 a b => funext fun j9 => (by rw [hG44 27 g9 j9 (show 2700 ∉ [2802, 2803, 2902] by first | exact nlm_ni rfl | decide)]), fun _ => ⟨(by rw [c3]; exact Frm.rf), c4⟩, fun q => (by exfalso; omega)⟩
              · exact ⟨ad, cnt, X42, Y43, ln, rfl, hE9 _ _ _ hE, hFx, hOw, hLn, hRX42, hFX42, hHY43, hCIX42, by omega, (by rw [hT46]; first | (have h9z : (z39 : Int) = -1 := (by omega); exact Or.inl ⟨(fun q => by (try delta Hid at *); omega), (by (try delta Hid at *); omega)⟩) | (have h9z : (z39 : Int) = -2 := (by omega); exact Or.inr (Or.inl ⟨(by (try delta Hid at *); omega), (by (try delta Hid at *); omega), (by (try delta Hid at *); omega)⟩)) | (have h9z : (z39 : Int) = -14 := (by omega); exact Or.inr (Or.inr (Or.inl ⟨(by (try delta Hid at *); omega), (by (try delta Hid at *); omega), (by (try delta Hid at *); omega), (by (try delta Hid at *); omega)⟩))) | (have h9z : (z39 : Int) = -13 := (by omega); exact Or.inr (Or.inr (Or.inr (Or.inl ⟨(by (try delta Hid at *); omega), (by (try delta Hid at *); omega), (by (try delta Hid at *); omega), (by (try delta Hid at *); omega), (by (try delta Hid at *); omega)⟩)))) | (have h9z : (z39 : Int) = -4 := (by omega); exact Or.inr (Or.inr (Or.inr (Or.inr (Or.inl ⟨(by (try delta Hid at *); omega), (by (try delta Hid at *); omega), (by (try delta Hid at *); omega), (by (try delta Hid at *); omega), (by (try delta Hid at *); omega), (by (try delta Hid at *); omega)⟩))))) | (have h9z : (z39 : Int) = 1 := (by omega); exact Or.inr (Or.inr (Or.inr (Or.inr (Or.inr (⟨(by (try delta Hid at *); omega), (by (try delta Hid at *); omega), (by (try delta Hid at *); omega), (by (try delta Hid at *); omega), (by (try delta Hid at *); omega), (by (try delta Hid at *); omega)⟩)))))) | exact Or.inl ⟨(fun q => by (try delta Hid at *); omega), (by (try delta Hid at *); omega)⟩ | exact Or.inr (Or.inl ⟨(by (try delta Hid at *); omega), (by (try delta Hid at *); omega), (by (try delta Hid at *); omega)⟩) | exact Or.inr (Or.inr (Or.inl ⟨(by (try delta Hid at *); omega), (by (try delta Hid at *); omega), (by (try delta Hid at *); omega), (by (try delta Hid at *); omega)⟩)) | exact Or.inr (Or.inr (Or.inr (Or.inl ⟨(by (try delta Hid at *); omega), (by (try delta Hid at *); omega), (by (try delta Hid at *); omega), (by (try delta Hid at *); omega), (by (try delta Hid at *); omega)⟩))) | exact Or.inr (Or.inr (Or.inr (Or.inr (Or.inl ⟨(by (try delta Hid at *); omega), (by (try delta Hid at *); omega), (by (try delta Hid at *); omega), (by (try delta Hid at *); omega), (by (try delta Hid at *); omega), (by (try delta Hid at *); omega)⟩)))) | exact Or.inr (Or.inr (Or.inr (Or.inr (Or.inr (⟨(by (try delta Hid at *); omega), (by (try delta Hid at *); omega), (by (try delta Hid at *); omega), (by (try delta Hid at *); omega), (by (try delta Hid at *); omega), (by (try delta Hid at *); omega)⟩)))))), fun g9 a b => funext fun j9 => (by rw [hG44 27 g9 j9 (show 2700 ∉ [2802, 2803, 2902] by first | exact nlm_ni rfl | decide)]), fun q => (by exfalso; omega), fun _ => (by rw [← ezz1]; exact ⟨c3, c5, c6, Or.inl ⟨by omega, c4⟩⟩)⟩
          · refine lv_iconst (v := jI 3) hx hb dX8_row_50 rfl ?_
            refine gos_i (run_S (As := [.int (jI 3)]) (rest := []) hx hb hml hown hts (c_X8_failed l D tc base ad cnt X Y ln 3 (by omega)) (cwS 1 hts gX8_row_X8_failed rfl rfl rfl (by first | exact hd_X8_failed | decide +kernel) ⟨Nat.le_of_ble_eq_true rfl, Nat.le_of_ble_eq_true rfl⟩) hK hw rfl hl.1 rfl (Nat.le_of_ble_eq_true rfl) dX8_row_51 ⟨(by show _ ≤ (2 : Nat); omega), (by show _ ≤ (14 : Nat); omega)⟩) hS (fun z48 u49 H locs p50 hw hS => ?_)
            obtain ⟨eu49, p50⟩ := p50
            subst eu49
            rw [hQ9]
            refine ret_i (mc := 2) (ms := 14) hx hb hr hlocks hw hS (by first | exact Nat.le_of_ble_eq_true rfl | omega) (by first | exact Nat.le_of_ble_eq_true rfl | omega) dX8_row_54 ?_
            have hT51 : tyo (Y 15 x 0) = r7 := by rw [← ezz1]; exact tyo_some y6
            have hk52 : k < X 19 r7 1 := h5p3 r7 (by rw [← ezz1]; exact y6)
            exact ⟨ad, cnt, X, Y, ln, rfl, hE9 _ _ _ hE, hFx, hOw, hLn, hR, Frm.rf, Frm.rf, hCI, by omega, (by rw [hT51]; first | (have h9z : (z48 : Int) = -1 := (by omega); exact Or.inl ⟨(fun q => by (try delta Hid at *); omega), (by (try delta Hid at *); omega)⟩) | (have h9z : (z48 : Int) = -2 := (by omega); exact Or.inr (Or.inl ⟨(by (try delta Hid at *); omega), (by (try delta Hid at *); omega), (by (try delta Hid at *); omega)⟩)) | (have h9z : (z48 : Int) = -14 := (by omega); exact Or.inr (Or.inr (Or.inl ⟨(by (try delta Hid at *); omega), (by (try delta Hid at *); omega), (by (try delta Hid at *); omega), (by (try delta Hid at *); omega)⟩))) | (have h9z : (z48 : Int) = -13 := (by omega); exact Or.inr (Or.inr (Or.inr (Or.inl ⟨(by (try delta Hid at *); omega), (by (try delta Hid at *); omega), (by (try delta Hid at *); omega), (by (try delta Hid at *); omega), (by (try delta Hid at *); omega)⟩)))) | (have h9z : (z48 : Int) = -4 := (by omega); exact Or.inr (Or.inr (Or.inr (Or.inr (Or.inl ⟨(by (try delta Hid at *); omega), (by (try delta Hid at *); omega), (by (try delta Hid at *); omega), (by (try delta Hid at *); omega), (by (try delta Hid at *); omega), (by (try delta Hid at *); omega)⟩))))) | (have h9z : (z48 : Int) = 1 := (by omega); exact Or.inr (Or.inr (Or.inr (Or.inr (Or.inr (⟨(by (try delta Hid at *); omega), (by (try delta Hid at *); omega), (by (try delta Hid at *); omega), (by (try delta Hid at *); omega), (by (try delta Hid at *); omega), (by (try delta Hid at *); omega)⟩)))))) | exact Or.inl ⟨(fun q => by (try delta Hid at *); omega), (by (try delta Hid at *); omega)⟩ | exact Or.inr (Or.inl ⟨(by (try delta Hid at *); omega), (by (try delta Hid at *); omega), (by (try delta Hid at *); omega)⟩) | exact Or.inr (Or.inr (Or.inl ⟨(by (try delta Hid at *); omega), (by (try delta Hid at *); omega), (by (try delta Hid at *); omega), (by (try delta Hid at *); omega)⟩)) | exact Or.inr (Or.inr (Or.inr (Or.inl ⟨(by (try delta Hid at *); omega), (by (try delta Hid at *); omega), (by (try delta Hid at *); omega), (by (try delta Hid at *); omega), (by (try delta Hid at *); omega)⟩))) | exact Or.inr (Or.inr (Or.inr (Or.inr (Or.inl ⟨(by (try delta Hid at *); omega), (by (try delta Hid at *); omega), (by (try delta Hid at *); omega), (by (try delta Hid at *); omega), (by (try delta Hid at *); omega), (by (try delta Hid at *); omega)⟩)))) | exact Or.inr (Or.inr (Or.inr (Or.inr (Or.inr (⟨(by (try delta Hid at *); omega), (by (try delta Hid at *); omega), (by (try delta Hid at *); omega), (by (try delta Hid at *); omega), (by (try delta Hid at *); omega), (by (try delta Hid at *); omega)⟩)))))), fun g9 a b => funext fun j9 => rfl, fun _ => ⟨Frm.rf, rfl⟩, fun q => (by exfalso; omega)⟩
        · subst ez9
          refine x_if_neF (tgt := 45) hx hb (by omega) (by decide) dX8_row_37 (by decide) ?_
          refine lv_iconst (v := jI 4) hx hb dX8_row_40 rfl ?_
          refine gos_i (run_S (As := [.int (jI 4)]) (rest := []) hx hb hml hown hts (c_X8_failed l D tc base ad cnt X Y ln 4 (by omega)) (cwS 1 hts gX8_row_X8_failed rfl rfl rfl (by first | exact hd_X8_failed | decide +kernel) ⟨Nat.le_of_ble_eq_true rfl, Nat.le_of_ble_eq_true rfl⟩) hK hw rfl hl.1 rfl (Nat.le_of_ble_eq_true rfl) dX8_row_41 ⟨(by show _ ≤ (2 : Nat); omega), (by show _ ≤ (14 : Nat); omega)⟩) hS (fun z53 u54 H locs p55 hw hS => ?_)
          obtain ⟨eu54, p55⟩ := p55
          subst eu54
          rw [hQ9]
          refine ret_i (mc := 2) (ms := 14) hx hb hr hlocks hw hS (by first | exact Nat.le_of_ble_eq_true rfl | omega) (by first | exact Nat.le_of_ble_eq_true rfl | omega) dX8_row_44 ?_
          have hT56 : tyo (Y 15 x 0) = r7 := by rw [← ezz1]; exact tyo_some y6
          have hk57 : k < X 19 r7 1 := h5p3 r7 (by rw [← ezz1]; exact y6)
          exact ⟨ad, cnt, X, Y, ln, rfl, hE9 _ _ _ hE, hFx, hOw, hLn, hR, Frm.rf, Frm.rf, hCI, by omega, (by rw [hT56]; first | (have h9z : (z53 : Int) = -1 := (by omega); exact Or.inl ⟨(fun q => by (try delta Hid at *); omega), (by (try delta Hid at *); omega)⟩) | (have h9z : (z53 : Int) = -2 := (by omega); exact Or.inr (Or.inl ⟨(by (try delta Hid at *); omega), (by (try delta Hid at *); omega), (by (try delta Hid at *); omega)⟩)) | (have h9z : (z53 : Int) = -14 := (by omega); exact Or.inr (Or.inr (Or.inl ⟨(by (try delta Hid at *); omega), (by (try delta Hid at *); omega), (by (try delta Hid at *); omega), (by (try delta Hid at *); omega)⟩))) | (have h9z : (z53 : Int) = -13 := (by omega); exact Or.inr (Or.inr (Or.inr (Or.inl ⟨(by (try delta Hid at *); omega), (by (try delta Hid at *); omega), (by (try delta Hid at *); omega), (by (try delta Hid at *); omega), (by (try delta Hid at *); omega)⟩)))) | (have h9z : (z53 : Int) = -4 := (by omega); exact Or.inr (Or.inr (Or.inr (Or.inr (Or.inl ⟨(by (try delta Hid at *); omega), (by (try delta Hid at *); omega), (by (try delta Hid at *); omega), (by (try delta Hid at *); omega), (by (try delta Hid at *); omega), (by (try delta Hid at *); omega)⟩))))) | (have h9z : (z53 : Int) = 1 := (by omega); exact Or.inr (Or.inr (Or.inr (Or.inr (Or.inr (⟨(by (try delta Hid at *); omega), (by (try delta Hid at *); omega), (by (try delta Hid at *); omega), (by (try delta Hid at *); omega), (by (try delta Hid at *); omega), (by (try delta Hid at *); omega)⟩)))))) | exact Or.inl ⟨(fun q => by (try delta Hid at *); omega), (by (try delta Hid at *); omega)⟩ | exact Or.inr (Or.inl ⟨(by (try delta Hid at *); omega), (by (try delta Hid at *); omega), (by (try delta Hid at *); omega)⟩) | exact Or.inr (Or.inr (Or.inl ⟨(by (try delta Hid at *); omega), (by (try delta Hid at *); omega), (by (try delta Hid at *); omega), (by (try delta Hid at *); omega)⟩)) | exact Or.inr (Or.inr (Or.inr (Or.inl ⟨(by (try delta Hid at *); omega), (by (try delta Hid at *); omega), (by (try delta Hid at *); omega), (by (try delta Hid at *); omega), (by (try delta Hid at *); omega)⟩))) | exact Or.inr (Or.inr (Or.inr (Or.inr (Or.inl ⟨(by (try delta Hid at *); omega), (by (try delta Hid at *); omega), (by (try delta Hid at *); omega), (by (try delta Hid at *); omega), (by (try delta Hid at *); omega), (by (try delta Hid at *); omega)⟩)))) | exact Or.inr (Or.inr (Or.inr (Or.inr (Or.inr (⟨(by (try delta Hid at *); omega), (by (try delta Hid at *); omega), (by (try delta Hid at *); omega), (by (try delta Hid at *); omega), (by (try delta Hid at *); omega), (by (try delta Hid at *); omega)⟩)))))), fun g9 a b => funext fun j9 => rfl, fun _ => ⟨Frm.rf, rfl⟩, fun q => (by exfalso; omega)⟩
    · refine lv_bipush (v := jI (-2)) hx hb dX8_row_21 (by decide) ?_
      rw [hQ9]
      refine ret_i (mc := 2) (ms := 14) hx hb hr hlocks hw hS (by first | exact Nat.le_of_ble_eq_true rfl | omega) (by first | exact Nat.le_of_ble_eq_true rfl | omega) dX8_row_23 ?_
      obtain ⟨r58, y59⟩ := Option.ne_none_iff_exists'.mp (hCI.2.2.2.2.1 z1 (by omega) (by omega))
      have hT60 : tyo (Y 15 x 0) = r58 := by rw [← ezz1]; exact tyo_some y59
      have hk61 : k < X 19 r58 1 := h5p3 r58 (by rw [← ezz1]; exact y59)
      exact ⟨ad, cnt, X, Y, ln, rfl, hE9 _ _ _ hE, hFx, hOw, hLn, hR, Frm.rf, Frm.rf, hCI, by omega, (by rw [hT60]; exact Or.inr (Or.inl ⟨(by (try delta Hid at *); omega), (by (try delta Hid at *); omega), (by (try delta Hid at *); omega)⟩)), fun g9 a b => funext fun j9 => rfl, fun _ => ⟨Frm.rf, rfl⟩, fun q => (by exfalso; omega)⟩

set_option maxHeartbeats 4000000 in
set_option maxRecDepth 100000 in
theorem c_X8_check (l : Launch) (D : va_G) (tc : Nat → ClassId) (base : Nat) (ad : Nat → Int → Nat) (cnt : Nat → Int) (X : Nat → Int → Int → Int) (Y : Nat → Int → Int → Option Int) (ln : Int → Int) (hR : Rng X) (hFx : Fx cnt) (hLn : LnOK ln) (hCI : CInv cnt X Y ln) (hOw : Own cnt) (hN : 0 ≤ cnt 25 ∧ 0 ≤ cnt 26) (t kd a b v : Int) (ht : -2147483648 ≤ t ∧ t ≤ 2147483647) (hkd : -2147483648 ≤ kd ∧ kd ≤ 2147483647) (ha : -2147483648 ≤ a ∧ a ≤ 2147483647) (hb : -2147483648 ≤ b ∧ b ≤ 2147483647) (hv : -9223372036854775808 ≤ v ∧ v ≤ 9223372036854775807) : KI l D tc base yX8_check wsX8_check ({ frames := 2, cells := 1, slots := 4, locals := 42 } : Room) [.ref (ad 0 0), .int (jI t), .int (jI kd), .int (jI a), .int (jI b), .long (jL v)] (ad, cnt, X, Y, ln) 1 4 (fun z u => ∃ (ad1 : Nat → Int → Nat) (cnt1 : Nat → Int) (X1 : Nat → Int → Int → Int) (Y1 : Nat → Int → Int → Option Int) (ln1 : Int → Int), u = (ad1, cnt1, X1, Y1, ln1) ∧ Ext ad cnt ln ad1 cnt1 ln1 ∧ Fx cnt1 ∧ Own cnt1 ∧ LnOK ln1 ∧ Rng X1 ∧ Frm [2501, 2502, 2503, 2504, 1907] X X1 ∧ Frm [2400] Y Y1 ∧ CInv cnt1 X1 Y1 ln1 ∧ (-2147483648 ≤ z ∧ z ≤ 2147483647) ∧ ((¬ (0 ≤ t ∧ t < X 0 0 1) ∧ z = -1 ∧ X1 19 t 6 = X 19 t 6) ∨ (0 ≤ t ∧ t < X 0 0 1 ∧ ¬ (0 ≤ kd ∧ kd < 6 ∧ 0 ≤ a ∧ a < 5 ∧ 0 ≤ b ∧ b < 5) ∧ z = -2 ∧ X1 19 t 6 = X 19 t 6) ∨ (0 ≤ t ∧ t < X 0 0 1 ∧ (0 ≤ kd ∧ kd < 6 ∧ 0 ≤ a ∧ a < 5 ∧ 0 ≤ b ∧ b < 5) ∧ 4 ≤ X 19 t 6 ∧ z = -4 ∧ X1 19 t 6 = X 19 t 6) ∨ (0 ≤ t ∧ t < X 0 0 1 ∧ (0 ≤ kd ∧ kd < 6 ∧ 0 ≤ a ∧ a < 5 ∧ 0 ≤ b ∧ b < 5) ∧ X 19 t 6 ≤ 3 ∧ z = X 19 t 6 + 1 ∧ X1 19 t 6 = X 19 t 6 + 1)) ∧ (∀ y, y ≠ t → X1 19 y 6 = X 19 y 6) ∧ (0 ≤ z → ∃ g, Y1 24 t (X 19 t 6) = some g ∧ cnt 25 ≤ g ∧ g < cnt1 25 ∧ X1 25 g 0 = kd ∧ X1 25 g 1 = a ∧ X1 25 g 2 = b ∧ X1 25 g 3 = v) ∧ (∀ g, 0 ≤ g → g < cnt 25 → ∀ j, X1 25 g j = X 25 g j) ∧ ∀ y j, ¬ (0 ≤ z ∧ y = t ∧ j = X 19 t 6) → Y1 24 y j = Y 24 y j) := by
  refine K_of (cc := cX8_check) (maxL := 8) (ret := (some .int)) (by decide) rfl (Nat.le_of_ble_eq_true rfl) ?_
  intro p e s m below meth c ls hx hb hr hml hown hts hlocks hl hK hw hS
  have hown : s.vm.findClass RX8 = some m.cls := hown
  have hbs : base ≤ s.heap.size := wd_size hw
  obtain ⟨av9, hav9⟩ : ∃ a9 : Array Value, a9 = ([.ref (ad 0 0), .int (jI t), .int (jI kd), .int (jI a), .int (jI b), .long (jL v)] : List Value).toArray := ⟨_, rfl⟩
  rw [← hav9] at hts ⊢
  obtain ⟨Q9, hQ9⟩ : ∃ q9Q : State → Prop, q9Q = MQ below (QI D tc base (fun z u => ∃ (ad1 : Nat → Int → Nat) (cnt1 : Nat → Int) (X1 : Nat → Int → Int → Int) (Y1 : Nat → Int → Int → Option Int) (ln1 : Int → Int), u = (ad1, cnt1, X1, Y1, ln1) ∧ Ext ad cnt ln ad1 cnt1 ln1 ∧ Fx cnt1 ∧ Own cnt1 ∧ LnOK ln1 ∧ Rng X1 ∧ Frm [2501, 2502, 2503, 2504, 1907] X X1 ∧ Frm [2400] Y Y1 ∧ CInv cnt1 X1 Y1 ln1 ∧ (-2147483648 ≤ z ∧ z ≤ 2147483647) ∧ ((¬ (0 ≤ t ∧ t < X 0 0 1) ∧ z = -1 ∧ X1 19 t 6 = X 19 t 6) ∨ (0 ≤ t ∧ t < X 0 0 1 ∧ ¬ (0 ≤ kd ∧ kd < 6 ∧ 0 ≤ a ∧ a < 5 ∧ 0 ≤ b ∧ b < 5) ∧ z = -2 ∧ X1 19 t 6 = X 19 t 6) ∨ (0 ≤ t ∧ t < X 0 0 1 ∧ (0 ≤ kd ∧ kd < 6 ∧ 0 ≤ a ∧ a < 5 ∧ 0 ≤ b ∧ b < 5) ∧ 4 ≤ X 19 t 6 ∧ z = -4 ∧ X1 19 t 6 = X 19 t 6) ∨ (0 ≤ t ∧ t < X 0 0 1 ∧ (0 ≤ kd ∧ kd < 6 ∧ 0 ≤ a ∧ a < 5 ∧ 0 ≤ b ∧ b < 5) ∧ X 19 t 6 ≤ 3 ∧ z = X 19 t 6 + 1 ∧ X1 19 t 6 = X 19 t 6 + 1)) ∧ (∀ y, y ≠ t → X1 19 y 6 = X 19 y 6) ∧ (0 ≤ z → ∃ g, Y1 24 t (X 19 t 6) = some g ∧ cnt 25 ≤ g ∧ g < cnt1 25 ∧ X1 25 g 0 = kd ∧ X1 25 g 1 = a ∧ X1 25 g 2 = b ∧ X1 25 g 3 = v) ∧ (∀ g, 0 ≤ g → g < cnt 25 → ∀ j, X1 25 g j = X 25 g j) ∧ ∀ y j, ¬ (0 ≤ z ∧ y = t ∧ j = X 19 t 6) → Y1 24 y j = Y 24 y j)) av9 s 1 4 (frA base) := ⟨_, rfl⟩
  rw [← hQ9]
  obtain ⟨ad0, ha0⟩ : ∃ a, a = ad := ⟨_, rfl⟩
  obtain ⟨cnt0, hc0⟩ : ∃ a, a = cnt := ⟨_, rfl⟩
  obtain ⟨ln0, hl0⟩ : ∃ a, a = ln := ⟨_, rfl⟩
  have hE9 : ∀ a c n, Ext ad0 cnt0 ln0 a c n → Ext ad cnt ln a c n := by rw [ha0, hc0, hl0]; exact fun _ _ _ h => h
  have hE : Ext ad0 cnt0 ln0 ad cnt ln := by rw [ha0, hc0, hl0]; exact Ext.rf
  clear ha0 hc0 hl0
  have hi0 : ∀ w ∈ wsX00, w ∈ wsX8_check := fun w h => List.mem_cons_of_mem _ (List.mem_append_left _ (List.mem_append_right _ h))
  have hf0 : fctx s m _ RX8 wsX8_check D tc RX0 TX0 4 0 := ⟨hts, hi0, hown, hK.1, rfl⟩
  have hi7 : ∀ w ∈ wsX70, w ∈ wsX8_check := fun w h => List.mem_cons_of_mem _ (List.mem_append_left _ (List.mem_append_left _ (List.mem_append_right _ h)))
  have hf7 : fctx s m _ RX8 wsX8_check D tc RX7 TX7 8 7 := ⟨hts, hi7, hown, hK.1, rfl⟩
  have lk115 := hts (.fieldLink RX8 115 (TX7 6).1 (TX7 6).2.1 (TX7 6).2.2.1) (gj_X8_check_0 _ (gp_h))
  have lk118 := hts (.fieldLink RX8 118 (TX7 7).1 (TX7 7).2.1 (TX7 7).2.2.1) (gj_X8_check_0 _ (gp_1 gp_h))
  have hc0 : cnt 0 = 1 := hFx.at 0 1 (by decide)
  have hc24 : cnt 24 = cnt 19 := hFx.2.1 24 (by decide)
  have hl : lv_has ls 8 [(0, .ref (ad 0 0)), (1, .int (jI t)), (2, .int (jI kd)), (3, .int (jI a)), (4, .int (jI b)), (5, .long (jL v))] := hl
  have ftc : 0 ≤ X 0 0 3 ∧ X 0 0 3 ≤ 30 := hR 0 0 3
  have fty : 0 ≤ X 0 0 1 ∧ X 0 0 1 ≤ 8 := hR 0 0 1
  have hct : cnt 19 = X 0 0 1 := hCI.2.2.2.1.1
  have hfj : 0 ≤ X 29 0 3 ∧ X 29 0 3 ≤ 4 := hR 29 0 3
  have hfn : 0 ≤ X 29 0 1 ∧ X 29 0 1 ≤ 80 := hR 29 0 1
  refine lv_aload_n hx hb dX8_check_0 rfl (lv_at hl 0 rfl) ?_
  refine lv_iload_n hx hb dX8_check_1 rfl (lv_at hl 1 rfl) ?_
  refine gos_r (run_V (As := [.int (jI t)]) (rest := []) hx hb hml hown hts (c_X8_typeNumbered l D tc base ad cnt X Y ln hR hFx hLn hCI t (by omega)) (cwV 1 hts gX8_check_X8_typeNumbered rfl rfl rfl (by first | exact hd_X8_typeNumbered | decide +kernel) ⟨Nat.le_of_ble_eq_true rfl, Nat.le_of_ble_eq_true rfl⟩) hK hw (by first | exact Int.le_refl 0 | omega) (by first | exact zlt hc0 | omega) sl_0_0 rfl rfl hl.1 rfl (Nat.le_of_ble_eq_true rfl) dX8_check_2 ⟨(by show _ ≤ (1 : Nat); omega), (by show _ ≤ (4 : Nat); omega)⟩) hS (fun u2 H locs p3 hw hS => ?_) (fun z1 u2 H locs p3 hw hS => ?_)
  · obtain ⟨eu2, hsp3, hnp3⟩ := p3
    subst eu2
    refine lv_astoreN (lv' := [(7, .null), (0, .ref (ad 0 0)), (1, .int (jI t)), (2, .int (jI kd)), (3, .int (jI a)), (4, .int (jI b)), (5, .long (jL v))]) hx hb dX8_check_5 hl (by decide) rfl (fun ls hl => ?_)
    refine lv_aloadN hx hb dX8_check_7 (lv_at hl 0 rfl) ?_
    refine lv_ifnonnullN hx hb dX8_check_9 ?_
    refine lv_iconst (v := jI (-1)) hx hb dX8_check_12 rfl ?_
    rw [hQ9]
    refine ret_i (mc := 1) (ms := 4) hx hb hr hlocks hw hS (by first | exact Nat.le_of_ble_eq_true rfl | omega) (by first | exact Nat.le_of_ble_eq_true rfl | omega) dX8_check_13 ?_
    exact ⟨ad, cnt, X, Y, ln, rfl, hE9 _ _ _ hE, hFx, hOw, hLn, hR, Frm.rf, Frm.rf, hCI, by omega, (by have h9n : ¬ (0 ≤ t ∧ t < X 0 0 1) := hnp3 rfl; exact Or.inl ⟨h9n, by omega, by omega⟩), fun y hy => (by rfl), fun q => (by exfalso; omega), fun g9 a b j9 => rfl, fun y j _ => rfl⟩
  · obtain ⟨eu2, hsp3, hnp3⟩ := p3
    subst eu2
    obtain ⟨ezz1, p3⟩ := hsp3 z1 rfl
    refine lv_astore (lv' := [(7, .ref (ad 19 z1)), (0, .ref (ad 0 0)), (1, .int (jI t)), (2, .int (jI kd)), (3, .int (jI a)), (4, .int (jI b)), (5, .long (jL v))]) hx hb dX8_check_5 hl (by decide) rfl (fun ls hl => ?_)
    refine lv_aload hx hb dX8_check_7 (lv_at hl 0 rfl) ?_
    refine lv_ifnonnull (tgt := 14) hx hb dX8_check_9 (by decide) ?_
    refine lv_iload_n hx hb dX8_check_14 rfl (lv_at hl 3 rfl) ?_
    refine lv_bipush (v := jI 6) hx hb dX8_check_15 (by decide) ?_
    refine gos_i (run_S (As := [.int (jI kd), .int (jI 6)]) (rest := []) hx hb hml hown hts (c_X8_isBelow l D tc base ad cnt X Y ln kd 6 (by omega) (by omega)) (cwS 2 hts gX8_check_X8_isBelow rfl rfl rfl (by first | exact hd_X8_isBelow | decide +kernel) ⟨Nat.le_of_ble_eq_true rfl, Nat.le_of_ble_eq_true rfl⟩) hK hw rfl hl.1 rfl (Nat.le_of_ble_eq_true rfl) dX8_check_17 ⟨(by show _ ≤ (1 : Nat); omega), (by show _ ≤ (4 : Nat); omega)⟩) hS (fun z4 u5 H locs p6 hw hS => ?_)
    obtain ⟨eu5, p6⟩ := p6
    subst eu5
    rcases p6 with ⟨ez4, p6⟩ | ⟨ez4, p6⟩
    · subst ez4
      refine x_if_eqF (tgt := 40) hx hb (by omega) (by decide) dX8_check_20 (by decide) ?_
      refine lv_iload_n hx hb dX8_check_23 rfl (lv_at hl 4 rfl) ?_
      refine lv_iconst (v := jI 5) hx hb dX8_check_24 rfl ?_
      refine gos_i (run_S (As := [.int (jI a), .int (jI 5)]) (rest := []) hx hb hml hown hts (c_X8_isBelow l D tc base ad cnt X Y ln a 5 (by omega) (by omega)) (cwS 2 hts gX8_check_X8_isBelow rfl rfl rfl (by first | exact hd_X8_isBelow | decide +kernel) ⟨Nat.le_of_ble_eq_true rfl, Nat.le_of_ble_eq_true rfl⟩) hK hw rfl hl.1 rfl (Nat.le_of_ble_eq_true rfl) dX8_check_25 ⟨(by show _ ≤ (1 : Nat); omega), (by show _ ≤ (4 : Nat); omega)⟩) hS (fun z7 u8 H locs p9 hw hS => ?_)
      obtain ⟨eu8, p9⟩ := p9
      subst eu8
      rcases p9 with ⟨ez7, p9⟩ | ⟨ez7, p9⟩
      · subst ez7
        refine x_if_eqF (tgt := 40) hx hb (by omega) (by decide) dX8_check_28 (by decide) ?_
        refine lv_iload hx hb dX8_check_31 (lv_at hl 5 rfl) ?_
        refine lv_iconst (v := jI 5) hx hb dX8_check_33 rfl ?_
        refine gos_i (run_S (As := [.int (jI b), .int (jI 5)]) (rest := []) hx hb hml hown hts (c_X8_isBelow l D tc base ad cnt X Y ln b 5 (by omega) (by omega)) (cwS 2 hts gX8_check_X8_isBelow rfl rfl rfl (by first | exact hd_X8_isBelow | decide +kernel) ⟨Nat.le_of_ble_eq_true rfl, Nat.le_of_ble_eq_true rfl⟩) hK hw rfl hl.1 rfl (Nat.le_of_ble_eq_true rfl) dX8_check_34 ⟨(by show _ ≤ (1 : Nat); omega), (by show _ ≤ (4 : Nat); omega)⟩) hS (fun z10 u11 H locs p12 hw hS => ?_)
        obtain ⟨eu11, p12⟩ := p12
        subst eu11
        rcases p12 with ⟨ez10, p12⟩ | ⟨ez10, p12⟩
        · subst ez10
          refine x_if_neT (tgt := 43) hx hb (by omega) (by decide) dX8_check_37 (by decide) ?_
          refine lv_aload hx hb dX8_check_43 (lv_at hl 0 rfl) ?_
          refine x_geti (jz := 6) hx hb hf7 hw (by omega) (by omega) sl_19_6 rfl lk115 dX8_check_45 ?_
          have f13 : 0 ≤ X 19 z1 6 ∧ X 19 z1 6 ≤ 4 := hR 19 z1 6
          refine lv_iconst (v := jI 4) hx hb dX8_check_48 rfl ?_
          refine x_icmp_lt (tgt := 55) hx hb (by omega) (by omega) dX8_check_49 (by decide) (fun c14 => ?_) (fun c14 => ?_)
          · refine lv_aload hx hb dX8_check_55 (lv_at hl 0 rfl) ?_
            refine x_geto hx hb hf7 hw (by omega) (by omega) sl_19_7 lk118 dX8_check_57 ?_
            refine lv_aload hx hb dX8_check_60 (lv_at hl 0 rfl) ?_
            refine x_geti (jz := 6) hx hb hf7 hw (by omega) (by omega) sl_19_6 rfl lk115 dX8_check_62 ?_
            have f15 : 0 ≤ X 19 z1 6 ∧ X 19 z1 6 ≤ 4 := hR 19 z1 6
            refine g_new (E := []) (G := []) (ci := 0) (fs := [.int 0, .int 0, .int 0, .long 0]) hx hb hf0 ⟨tyX0_ok, nmX0⟩ (hts (.classLink RX8 122 RX0) (by first | exact gj_X8_check_0 _ (gp_1 (gp_1 gp_h)) | decide +kernel)) (hts (.instantiable RX0 4) (by first | exact gj_X8_check_0 _ (gp_1 (gp_1 (gp_1 gp_h))) | decide +kernel)) (hts (.initialized RX0) (by first | exact gj_X8_check_0 _ (gp_4 gp_h) | decide +kernel)) (wx_of hw) hS hbs (fun j hj => by rcases (show j = 0 ∨ j = 1 ∨ j = 2 ∨ j = 3 by omega) with rfl | rfl | rfl | rfl <;> rfl) (by show _ ≤ (1 : Nat); omega) (by show _ ≤ (4 : Nat); omega) dX8_check_65 (fun q16 H hwx hS => ?_)
            have hwx : wx D tc base (ad, cnt, X, Y, ln) ([] ++ [(q16, .inr (0, [.int 0, .int 0, .int 0, .long 0]))]) H := hwx
            have hw := wx_wd hwx
            refine lv_dup hx hb dX8_check_68 rfl ?_
            refine lv_iload_n hx hb dX8_check_69 rfl (lv_at hl 3 rfl) ?_
            refine lv_iload_n hx hb dX8_check_70 rfl (lv_at hl 4 rfl) ?_
            refine lv_iload hx hb dX8_check_71 (lv_at hl 5 rfl) ?_
            refine lv_lload hx hb dX8_check_73 (lv_at hl 6 rfl) ?_
            refine gos_x (run_I (As := [.int (jI kd), .int (jI a), .int (jI b), .long (jL v)]) (rest := [.ref q16, .int (jI (X 19 z1 6)), .ref (ad 24 z1)]) hx hb hml hown hts (c_X0_init l D tc base (ad, cnt, X, Y, ln) [] q16 kd a b v) (cwI 4 hts gX8_check_X0_init rfl rfl rfl (hts (.initialized RX0) (by first | exact gj_X8_check_0 _ (gp_4 gp_h) | decide +kernel)) (hts (.methodLink RX8 124 yX0_init) (by first | exact gj_X8_check_0 _ (gp_4 (gp_4 (gp_4 (gp_1 (gp_1 (gp_1 gp_h)))))) | decide +kernel)) (hts (.instanceMethod yX0_init) (by first | exact gj_X8_check_0 _ (gp_16 gp_h) | decide +kernel)) rfl (by decide +kernel) ⟨Nat.le_of_ble_eq_true rfl, Nat.le_of_ble_eq_true rfl⟩) hK hwx rfl hl.1 rfl (Nat.le_of_ble_eq_true rfl) dX8_check_75 ⟨by show _ ≤ (1 : Nat); omega, by show _ ≤ (4 : Nat); omega⟩) hS (fun u9 E17 H locs p18 hwx hS => ?_)
            obtain ⟨g19, hg19⟩ : ∃ g, g = cnt 25 := ⟨_, rfl⟩
            obtain ⟨rfl, rfl⟩ := p18
            have hwx := (show wx D tc base (ad, cnt, X, Y, ln) ([] ++ _) H from hwx)
            obtain ⟨ad, cnt, X20, ln, hw, hE21, hFx, hOw, hLn, hRX20, hG22, hCIX20, hkg19, hag19, hckg19, hx7g19⟩ := born_check hwx (by omega) (by omega) (by omega) (by omega) hFx hOw (by omega) hR hLn hCI
            rw [← hg19] at hkg19 hag19 hckg19 hx7g19
            have hFX20 : Frm [2501, 2502, 2503, 2504, 1907] X X20 := Frm.tr Frm.rf (Frm.mono hG22 (by first | exact nls_of rfl | decide))
            have hE := Ext.tr hE hE21
            have hm23 := hE21.2.1 19
            have hm24 := hE21.2.1 25
            have hm25 := hE21.2.1 26
            have hN : 0 ≤ cnt 25 ∧ 0 ≤ cnt 26 := by omega
            have ha26 := hE21.1 19 z1 (by omega) (by omega)
            have ha27 := hE21.1 0 0 (by omega) (by omega)
            have ha28 := hE21.1 24 z1 (by omega) (by omega)
            have hc0 : cnt 0 = 1 := hFx.at 0 1 (by decide)
            have hc24 : cnt 24 = cnt 19 := hFx.2.1 24 (by decide)
            have hl : lv_has ls 8 [(7, .ref (ad 19 z1)), (0, .ref (ad 0 0)), (1, .int (jI t)), (2, .int (jI kd)), (3, .int (jI a)), (4, .int (jI b)), (5, .long (jL v))] := by rw [ha26, ha27]; exact hl
            refine W.eq (g2 := F0 m 78 ls [.ref (ad 25 g19), .int (jI (X 19 z1 6)), .ref (ad 24 z1)]) (by first | rfl | (rw [ha28, hag19]; done) | (rw [ha28, hag19]; rfl)) ?_
            refine x_aast hx hb hK.1 hw hS (by omega) (by omega) ar_24 rfl rfl sl_25_0 (len_E ar_24 (by first | exact Nat.ne_of_beq_eq_false rfl | decide)) (by omega) (by omega) (by omega) (by omega) (by omega) dX8_check_78 (fun H locs hw hS => ?_)
            obtain ⟨Y29, hY29⟩ : ∃ Yq, Yq = u3 Y 24 z1 (X 19 z1 6) (some g19) := ⟨_, rfl⟩
            rw [← hY29] at hw
            have hVY29 : Y29 24 z1 (X 19 z1 6) = (some g19) := by rw [hY29]; exact u3_s _ _ _ _ _
            have hHY29 : Frm [2400] Y Y29 := by rw [hY29]; exact Frm.set Frm.rf (show 2400 ∈ [2400] by first | exact nlm_in rfl | decide)
            refine lv_aload hx hb dX8_check_79 (lv_at hl 0 rfl) ?_
            refine lv_dup hx hb dX8_check_81 rfl ?_
            refine x_geti (jz := 6) hx hb hf7 hw (by omega) (by omega) sl_19_6 rfl lk115 dX8_check_82 ?_
            have e30 : X20 19 z1 6 = X 19 z1 6 := by rw [hG22 19 z1 6 (show 1907 ∉ [2501, 2502, 2503, 2504] by first | exact nlm_ni rfl | decide)]
            rw [e30]
            have f31 : 0 ≤ X 19 z1 6 ∧ X 19 z1 6 ≤ 4 := hR 19 z1 6
            refine lv_iconst (v := jI 1) hx hb dX8_check_85 rfl ?_
            refine x_iadd hx hb dX8_check_86 ?_
            refine x_puti (jz := 6) hx hb hf7 ⟨tyX7_ok, nmX7⟩ hw hS (by omega) (by omega) sl_19_6 rfl lk115 rfl (tyX7_ok 6 (by decide)) rfl rfl dX8_check_87 (fun H locs hw hS => ?_)
            obtain ⟨X32, hX32⟩ : ∃ Xq, Xq = u3 X20 19 z1 6 ((X 19 z1 6) + 1) := ⟨_, rfl⟩
            rw [← hX32] at hw
            have hRX32 : Rng X32 := by rw [hX32]; exact rng_set hRX20 (show 0 ≤ ((X 19 z1 6) + 1) ∧ ((X 19 z1 6) + 1) ≤ 4 by omega)
            have hVX32 : X32 19 z1 6 = ((X 19 z1 6) + 1) := by rw [hX32]; exact u3_s _ _ _ _ _
            have hFX32 : Frm [2501, 2502, 2503, 2504, 1907] X X32 := by rw [hX32]; exact Frm.set hFX20 (show 1907 ∈ [2501, 2502, 2503, 2504, 1907] by first | exact nlm_in rfl | decide)
            refine lv_aload hx hb dX8_check_90 (lv_at hl 0 rfl) ?_
            refine x_geti (jz := 6) hx hb hf7 hw (by omega) (by omega) sl_19_6 rfl lk115 dX8_check_92 ?_
            rw [hVX32]
            rw [hQ9]
            refine ret_i (mc := 1) (ms := 4) hx hb hr hlocks hw hS (by first | exact Nat.le_of_ble_eq_true rfl | omega) (by first | exact Nat.le_of_ble_eq_true rfl | omega) dX8_check_95 ?_
            have e33 : X20 19 z1 6 = X 19 z1 6 := (by rw [hG22 19 z1 6 (show 1907 ∉ [2501, 2502, 2503, 2504] by first | exact nlm_ni rfl | decide)])
            have q34 : Frm [1907] X20 X32 := by rw [hX32]; exact Frm.set Frm.rf (show 1907 ∈ [1907] by first | exact nlm_in rfl | decide)
            exact ⟨ad, cnt, X32, Y29, ln, rfl, hE9 _ _ _ hE, hFx, hOw, hLn, hRX32, hFX32, hHY29, cinv_checks (q := z1) hCIX20 q34 hHY29 (fun i hi => (by rw [hX32, u3_ij (by omega)])) (fun i j h => by rw [hY29, u3_ij (fun w => h ⟨w.1, by rw [w.2, e33]; exact Int.le_refl _⟩)]) (fun j a b c => by rw [hVX32] at b; rw [e33] at c; rw [show j = X 19 z1 6 by omega, hVY29]; exact fun q => by cases q), by omega, (by rw [← ezz1]; exact Or.inr (Or.inr (Or.inr (⟨by omega, by omega, (by (try delta Hid at *); omega), by omega, by omega, by omega⟩)))), fun y hy => (by rw [hX32, u3_ij (by omega), hG22 19 y 6 (show 1907 ∉ [2501, 2502, 2503, 2504] by first | exact nlm_ni rfl | decide)]), fun _ => (by rw [← ezz1]; exact ⟨g19, hVY29, by omega, by omega, (by rw [hX32, u3_k _ _ _ _ (by first | exact Nat.ne_of_beq_eq_false rfl | decide)]; exact hckg19.1), (by rw [hX32, u3_k _ _ _ _ (by first | exact Nat.ne_of_beq_eq_false rfl | decide)]; exact hckg19.2.1), (by rw [hX32, u3_k _ _ _ _ (by first | exact Nat.ne_of_beq_eq_false rfl | decide)]; exact hckg19.2.2.1), (by rw [hX32, u3_k _ _ _ _ (by first | exact Nat.ne_of_beq_eq_false rfl | decide)]; exact hckg19.2.2.2)⟩), fun g9 a b j9 => (by rw [hX32, u3_k _ _ _ _ (by first | exact Nat.ne_of_beq_eq_false rfl | decide)]; exact congrFun (hx7g19 25 g9 (by omega)) j9), fun y j h9 => (by rw [hY29, u3_ij (fun q9 => h9 ⟨by omega, by omega, (by rw [← ezz1]; omega)⟩)])⟩
          · refine lv_bipush (v := jI (-4)) hx hb dX8_check_52 (by decide) ?_
            rw [hQ9]
            refine ret_i (mc := 1) (ms := 4) hx hb hr hlocks hw hS (by first | exact Nat.le_of_ble_eq_true rfl | omega) (by first | exact Nat.le_of_ble_eq_true rfl | omega) dX8_check_54 ?_
            exact ⟨ad, cnt, X, Y, ln, rfl, hE9 _ _ _ hE, hFx, hOw, hLn, hR, Frm.rf, Frm.rf, hCI, by omega, (by rw [← ezz1]; exact Or.inr (Or.inr (Or.inl ⟨by omega, by omega, (by (try delta Hid at *); omega), by omega, by omega, by omega⟩))), fun y hy => (by rfl), fun q => (by exfalso; omega), fun g9 a b j9 => rfl, fun y j _ => rfl⟩
        · subst ez10
          refine x_if_neF (tgt := 43) hx hb (by omega) (by decide) dX8_check_37 (by decide) ?_
          refine lv_bipush (v := jI (-2)) hx hb dX8_check_40 (by decide) ?_
          rw [hQ9]
          refine ret_i (mc := 1) (ms := 4) hx hb hr hlocks hw hS (by first | exact Nat.le_of_ble_eq_true rfl | omega) (by first | exact Nat.le_of_ble_eq_true rfl | omega) dX8_check_42 ?_
          exact ⟨ad, cnt, X, Y, ln, rfl, hE9 _ _ _ hE, hFx, hOw, hLn, hR, Frm.rf, Frm.rf, hCI, by omega, (by rw [← ezz1]; exact Or.inr (Or.inl ⟨by omega, by omega, (fun q => by (try delta Hid at *); omega), by omega, by omega⟩)), fun y hy => (by rfl), fun q => (by exfalso; omega), fun g9 a b j9 => rfl, fun y j _ => rfl⟩
      · subst ez7
        refine x_if_eqT (tgt := 40) hx hb (by omega) (by decide) dX8_check_28 (by decide) ?_
        refine lv_bipush (v := jI (-2)) hx hb dX8_check_40 (by decide) ?_
        rw [hQ9]
        refine ret_i (mc := 1) (ms := 4) hx hb hr hlocks hw hS (by first | exact Nat.le_of_ble_eq_true rfl | omega) (by first | exact Nat.le_of_ble_eq_true rfl | omega) dX8_check_42 ?_
        exact ⟨ad, cnt, X, Y, ln, rfl, hE9 _ _ _ hE, hFx, hOw, hLn, hR, Frm.rf, Frm.rf, hCI, by omega, (by rw [← ezz1]; exact Or.inr (Or.inl ⟨by omega, by omega, (fun q => by (try delta Hid at *); omega), by omega, by omega⟩)), fun y hy => (by rfl), fun q => (by exfalso; omega), fun g9 a b j9 => rfl, fun y j _ => rfl⟩
    · subst ez4
      refine x_if_eqT (tgt := 40) hx hb (by omega) (by decide) dX8_check_20 (by decide) ?_
      refine lv_bipush (v := jI (-2)) hx hb dX8_check_40 (by decide) ?_
      rw [hQ9]
      refine ret_i (mc := 1) (ms := 4) hx hb hr hlocks hw hS (by first | exact Nat.le_of_ble_eq_true rfl | omega) (by first | exact Nat.le_of_ble_eq_true rfl | omega) dX8_check_42 ?_
      exact ⟨ad, cnt, X, Y, ln, rfl, hE9 _ _ _ hE, hFx, hOw, hLn, hR, Frm.rf, Frm.rf, hCI, by omega, (by rw [← ezz1]; exact Or.inr (Or.inl ⟨by omega, by omega, (fun q => by (try delta Hid at *); omega), by omega, by omega⟩)), fun y hy => (by rfl), fun q => (by exfalso; omega), fun g9 a b j9 => rfl, fun y j _ => rfl⟩

set_option maxHeartbeats 4000000 in
set_option maxRecDepth 100000 in
theorem c_X8_type (l : Launch) (D : va_G) (tc : Nat → ClassId) (base : Nat) (ad : Nat → Int → Nat) (cnt : Nat → Int) (X : Nat → Int → Int → Int) (Y : Nat → Int → Int → Option Int) (ln : Int → Int) (hR : Rng X) (hFx : Fx cnt) (hLn : LnOK ln) (hCI : CInv cnt X Y ln) (hOw : Own cnt) (hN : 0 ≤ cnt 25 ∧ 0 ≤ cnt 26)  : KI l D tc base yX8_type wsX8_type ({ frames := 2, cells := 6, slots := 32, locals := 33 } : Room) [.ref (ad 0 0)] (ad, cnt, X, Y, ln) 6 32 (fun z u => ∃ (ad1 : Nat → Int → Nat) (cnt1 : Nat → Int) (X1 : Nat → Int → Int → Int) (Y1 : Nat → Int → Int → Option Int) (ln1 : Int → Int), u = (ad1, cnt1, X1, Y1, ln1) ∧ Ext ad cnt ln ad1 cnt1 ln1 ∧ Fx cnt1 ∧ Own cnt1 ∧ LnOK ln1 ∧ Rng X1 ∧ Frm [1901, 1902, 1907, 2000, 2100, 2200, 2300, 2] X X1 ∧ Frm [2400, 100] Y Y1 ∧ CInv cnt1 X1 Y1 ln1 ∧ (-4 ≤ z ∧ z ≤ 7) ∧ ((8 ≤ X 0 0 1 ∧ z = -4 ∧ X1 0 0 1 = X 0 0 1) ∨ (X 0 0 1 < 8 ∧ z = X 0 0 1 ∧ X1 0 0 1 = X 0 0 1 + 1 ∧ X1 19 (X 0 0 1) 1 = 0 ∧ X1 19 (X 0 0 1) 6 = 0)) ∧ (∀ y, y ≠ X 0 0 1 → X1 19 y = X 19 y ∧ X1 20 y = X 20 y ∧ X1 21 y = X 21 y ∧ X1 22 y = X 22 y ∧ X1 23 y = X 23 y) ∧ (∀ y, y ≠ X 0 0 1 → Y1 24 y = Y 24 y)) := by
  refine K_of (cc := cX8_type) (maxL := 1) (ret := (some .int)) (by decide) rfl (Nat.le_of_ble_eq_true rfl) ?_
  intro p e s m below meth c ls hx hb hr hml hown hts hlocks hl hK hw hS
  have hown : s.vm.findClass RX8 = some m.cls := hown
  have hbs : base ≤ s.heap.size := wd_size hw
  obtain ⟨av9, hav9⟩ : ∃ a9 : Array Value, a9 = ([.ref (ad 0 0)] : List Value).toArray := ⟨_, rfl⟩
  rw [← hav9] at hts ⊢
  obtain ⟨Q9, hQ9⟩ : ∃ q9Q : State → Prop, q9Q = MQ below (QI D tc base (fun z u => ∃ (ad1 : Nat → Int → Nat) (cnt1 : Nat → Int) (X1 : Nat → Int → Int → Int) (Y1 : Nat → Int → Int → Option Int) (ln1 : Int → Int), u = (ad1, cnt1, X1, Y1, ln1) ∧ Ext ad cnt ln ad1 cnt1 ln1 ∧ Fx cnt1 ∧ Own cnt1 ∧ LnOK ln1 ∧ Rng X1 ∧ Frm [1901, 1902, 1907, 2000, 2100, 2200, 2300, 2] X X1 ∧ Frm [2400, 100] Y Y1 ∧ CInv cnt1 X1 Y1 ln1 ∧ (-4 ≤ z ∧ z ≤ 7) ∧ ((8 ≤ X 0 0 1 ∧ z = -4 ∧ X1 0 0 1 = X 0 0 1) ∨ (X 0 0 1 < 8 ∧ z = X 0 0 1 ∧ X1 0 0 1 = X 0 0 1 + 1 ∧ X1 19 (X 0 0 1) 1 = 0 ∧ X1 19 (X 0 0 1) 6 = 0)) ∧ (∀ y, y ≠ X 0 0 1 → X1 19 y = X 19 y ∧ X1 20 y = X 20 y ∧ X1 21 y = X 21 y ∧ X1 22 y = X 22 y ∧ X1 23 y = X 23 y) ∧ (∀ y, y ≠ X 0 0 1 → Y1 24 y = Y 24 y))) av9 s 6 32 (frA base) := ⟨_, rfl⟩
  rw [← hQ9]
  obtain ⟨ad0, ha0⟩ : ∃ a, a = ad := ⟨_, rfl⟩
  obtain ⟨cnt0, hc0⟩ : ∃ a, a = cnt := ⟨_, rfl⟩
  obtain ⟨ln0, hl0⟩ : ∃ a, a = ln := ⟨_, rfl⟩
  have hE9 : ∀ a c n, Ext ad0 cnt0 ln0 a c n → Ext ad cnt ln a c n := by rw [ha0, hc0, hl0]; exact fun _ _ _ h => h
  have hE : Ext ad0 cnt0 ln0 ad cnt ln := by rw [ha0, hc0, hl0]; exact Ext.rf
  clear ha0 hc0 hl0
  have hi7 : ∀ w ∈ wsX70, w ∈ wsX8_type := fun w h => List.mem_cons_of_mem _ (List.mem_append_right _ h)
  have hf7 : fctx s m _ RX8 wsX8_type D tc RX7 TX7 8 7 := ⟨hts, hi7, hown, hK.1, rfl⟩
  have hi8 : ∀ w ∈ wsX80, w ∈ wsX8_type := fun w h => List.mem_cons_of_mem _ (List.mem_append_left _ (List.mem_append_right _ h))
  have hf8 : fctx s m _ RX8 wsX8_type D tc RX8 TX8 12 8 := ⟨hts, hi8, hown, hK.1, rfl⟩
  have lk11 := hts (.fieldLink RX8 11 (TX8 0).1 (TX8 0).2.1 (TX8 0).2.2.1) (gj_X8_type_0 _ (gp_1 gp_h))
  have lk63 := hts (.fieldLink RX8 63 (TX8 1).1 (TX8 1).2.1 (TX8 1).2.2.1) (gj_X8_type_0 _ (gp_h))
  have hc0 : cnt 0 = 1 := hFx.at 0 1 (by decide)
  have hc1 : cnt 1 = 1 := hFx.at 1 1 (by decide)
  have hc20 : cnt 20 = cnt 19 := hFx.2.1 20 (by decide)
  have hc21 : cnt 21 = cnt 19 := hFx.2.1 21 (by decide)
  have hc22 : cnt 22 = cnt 19 := hFx.2.1 22 (by decide)
  have hc23 : cnt 23 = cnt 19 := hFx.2.1 23 (by decide)
  have hc24 : cnt 24 = cnt 19 := hFx.2.1 24 (by decide)
  have hl : lv_has ls 1 [(0, .ref (ad 0 0))] := hl
  have ftc : 0 ≤ X 0 0 3 ∧ X 0 0 3 ≤ 30 := hR 0 0 3
  have fty : 0 ≤ X 0 0 1 ∧ X 0 0 1 ≤ 8 := hR 0 0 1
  have hct : cnt 19 = X 0 0 1 := hCI.2.2.2.1.1
  have hfj : 0 ≤ X 29 0 3 ∧ X 29 0 3 ≤ 4 := hR 29 0 3
  have hfn : 0 ≤ X 29 0 1 ∧ X 29 0 1 ≤ 80 := hR 29 0 1
  refine lv_aload_n hx hb dX8_type_0 rfl (lv_at hl 0 rfl) ?_
  refine x_geti (jz := 1) hx hb hf8 hw (by first | exact Int.le_refl 0 | omega) (by first | exact zlt hc0 | omega) sl_0_1 rfl lk63 dX8_type_1 ?_
  have f1 : 0 ≤ X 0 0 1 ∧ X 0 0 1 ≤ 8 := hR 0 0 1
  refine lv_bipush (v := jI 8) hx hb dX8_type_4 (by decide) ?_
  refine x_icmp_lt (tgt := 12) hx hb (by omega) (by omega) dX8_type_6 (by decide) (fun c2 => ?_) (fun c2 => ?_)
  · refine lv_aload_n hx hb dX8_type_12 rfl (lv_at hl 0 rfl) ?_
    refine x_geto hx hb hf8 hw (by first | exact Int.le_refl 0 | omega) (by first | exact zlt hc0 | omega) sl_0_0 lk11 dX8_type_13 ?_
    refine lv_aload_n hx hb dX8_type_16 rfl (lv_at hl 0 rfl) ?_
    refine x_geti (jz := 1) hx hb hf8 hw (by first | exact Int.le_refl 0 | omega) (by first | exact zlt hc0 | omega) sl_0_1 rfl lk63 dX8_type_17 ?_
    have f3 : 0 ≤ X 0 0 1 ∧ X 0 0 1 ≤ 8 := hR 0 0 1
    refine g_new (E := []) (G := []) (ci := 7) (fs := [.int 0, .int 0, .null, .null, .null, .null, .int 0, .null]) hx hb hf7 ⟨tyX7_ok, nmX7⟩ (hts (.classLink RX8 9 RX7) (by first | exact gj_X8_type_0 _ (gp_1 (gp_1 gp_h)) | decide +kernel)) (hts (.instantiable RX7 8) (by first | exact gj_X8_type_0 _ (gp_1 (gp_1 (gp_1 gp_h))) | decide +kernel)) (hts (.initialized RX7) (by first | exact gj_X8_type_0 _ (gp_4 gp_h) | decide +kernel)) (wx_of hw) hS hbs (fun j hj => by rcases (show j = 0 ∨ j = 1 ∨ j = 2 ∨ j = 3 ∨ j = 4 ∨ j = 5 ∨ j = 6 ∨ j = 7 by omega) with rfl | rfl | rfl | rfl | rfl | rfl | rfl | rfl <;> rfl) (by show _ ≤ (6 : Nat); omega) (by show _ ≤ (32 : Nat); omega) dX8_type_20 (fun q4 H hwx hS => ?_)
    have hwx : wx D tc base (ad, cnt, X, Y, ln) ([] ++ [(q4, .inr (7, [.int 0, .int 0, .null, .null, .null, .null, .int 0, .null]))]) H := hwx
    have hw := wx_wd hwx
    refine lv_dup hx hb dX8_type_23 rfl ?_
    refine lv_aload_n hx hb dX8_type_24 rfl (lv_at hl 0 rfl) ?_
    refine x_geti (jz := 1) hx hb hf8 hw (by first | exact Int.le_refl 0 | omega) (by first | exact zlt hc0 | omega) sl_0_1 rfl lk63 dX8_type_25 ?_
    have f5 : 0 ≤ X 0 0 1 ∧ X 0 0 1 ≤ 8 := hR 0 0 1
    refine gos_x (run_I (As := [.int (jI (X 0 0 1))]) (rest := [.ref q4, .int (jI (X 0 0 1)), .ref (ad 1 0)]) hx hb hml hown hts (c_X7_init l D tc base (ad, cnt, X, Y, ln) [] q4 (X 0 0 1)) (cwI 1 hts gX8_type_X7_init rfl rfl rfl (hts (.initialized RX7) (by first | exact gj_X8_type_0 _ (gp_4 gp_h) | decide +kernel)) (hts (.methodLink RX8 67 yX7_init) (by first | exact gj_X8_type_0 _ (gp_4 (gp_1 gp_h)) | decide +kernel)) (hts (.instanceMethod yX7_init) (by first | exact gj_X8_type_0 _ (gp_4 (gp_1 (gp_1 gp_h))) | decide +kernel)) rfl (by decide +kernel) ⟨Nat.le_of_ble_eq_true rfl, Nat.le_of_ble_eq_true rfl⟩) hK hwx rfl hl.1 rfl (Nat.le_of_ble_eq_true rfl) dX8_type_28 ⟨by show _ ≤ (6 : Nat); omega, by show _ ≤ (32 : Nat); omega⟩) hS (fun u9 E6 H locs p7 hwx hS => ?_)
    obtain ⟨g8, hg8⟩ : ∃ g, g = cnt 19 := ⟨_, rfl⟩
    obtain ⟨rfl, q1, q2, q3, q4, q5, rfl⟩ := p7
    have hwx := (show wx D tc base (ad, cnt, X, Y, ln) ([] ++ _) H from hwx)
    obtain ⟨ad, cnt, X9, Y10, ln, hw, hE11, hFx, hOw, hLn, hRX9, hG12, hJ13, hkg8, hag8, hty1, hty2, hty3, hty4, hty5, hty6, hty7⟩ := born_type hwx (by omega) hFx hOw (by omega) hR hLn
    rw [← hg8] at hkg8 hag8 hty1 hty2 hty3 hty4 hty6 hty7
    have hFX9 : Frm [1901, 1902, 1907, 2000, 2100, 2200, 2300, 2] X X9 := Frm.tr Frm.rf (Frm.mono hG12 (by first | exact nls_of rfl | decide))
    have hHY10 : Frm [2400, 100] Y Y10 := Frm.tr Frm.rf (Frm.mono hJ13 (by first | exact nls_of rfl | decide))
    have hE := Ext.tr hE hE11
    have hm14 := hE11.2.1 19
    have hm15 := hE11.2.1 25
    have hm16 := hE11.2.1 26
    have hN : 0 ≤ cnt 25 ∧ 0 ≤ cnt 26 := by omega
    have ha17 := hE11.1 0 0 (by omega) (by omega)
    have ha18 := hE11.1 1 0 (by omega) (by omega)
    have hc0 : cnt 0 = 1 := hFx.at 0 1 (by decide)
    have hc1 : cnt 1 = 1 := hFx.at 1 1 (by decide)
    have hc20 : cnt 20 = cnt 19 := hFx.2.1 20 (by decide)
    have hc21 : cnt 21 = cnt 19 := hFx.2.1 21 (by decide)
    have hc22 : cnt 22 = cnt 19 := hFx.2.1 22 (by decide)
    have hc23 : cnt 23 = cnt 19 := hFx.2.1 23 (by decide)
    have hc24 : cnt 24 = cnt 19 := hFx.2.1 24 (by decide)
    have hl : lv_has ls 1 [(0, .ref (ad 0 0))] := by rw [ha17]; exact hl
    refine W.eq (g2 := F0 m 31 ls [.ref (ad 19 g8), .int (jI (X 0 0 1)), .ref (ad 1 0)]) (by first | rfl | (rw [ha18, hag8]; done) | (rw [ha18, hag8]; rfl)) ?_
    refine x_aast hx hb hK.1 hw hS (by first | exact Int.le_refl 0 | omega) (by first | exact zlt hc1 | omega) ar_1 rfl rfl sl_19_0 (len_E ar_1 (by first | exact Nat.ne_of_beq_eq_false rfl | decide)) (by omega) (by omega) (by omega) (by omega) (by omega) dX8_type_31 (fun H locs hw hS => ?_)
    obtain ⟨Y19, hY19⟩ : ∃ Yq, Yq = u3 Y10 1 0 (X 0 0 1) (some g8) := ⟨_, rfl⟩
    rw [← hY19] at hw
    have hVY19 : Y19 1 0 (X 0 0 1) = (some g8) := by rw [hY19]; exact u3_s _ _ _ _ _
    have hHY19 : Frm [2400, 100] Y Y19 := by rw [hY19]; exact Frm.set hHY10 (show 100 ∈ [2400, 100] by first | exact nlm_in rfl | decide)
    refine lv_aload_n hx hb dX8_type_32 rfl (lv_at hl 0 rfl) ?_
    refine lv_dup hx hb dX8_type_33 rfl ?_
    refine x_geti (jz := 1) hx hb hf8 hw (by first | exact Int.le_refl 0 | omega) (by first | exact zlt hc0 | omega) sl_0_1 rfl lk63 dX8_type_34 ?_
    have e20 : X9 0 0 1 = X 0 0 1 := by rw [hG12 0 0 1 (show 2 ∉ [1901, 1902, 1907, 2000, 2100, 2200, 2300] by first | exact nlm_ni rfl | decide)]
    rw [e20]
    have f21 : 0 ≤ X 0 0 1 ∧ X 0 0 1 ≤ 8 := hR 0 0 1
    refine lv_iconst (v := jI 1) hx hb dX8_type_37 rfl ?_
    refine x_iadd hx hb dX8_type_38 ?_
    refine x_puti (jz := 1) hx hb hf8 ⟨tyX8_ok, nmX8⟩ hw hS (by first | exact Int.le_refl 0 | omega) (by first | exact zlt hc0 | omega) sl_0_1 rfl lk63 rfl (tyX8_ok 1 (by decide)) rfl rfl dX8_type_39 (fun H locs hw hS => ?_)
    obtain ⟨X22, hX22⟩ : ∃ Xq, Xq = u3 X9 0 0 1 ((X 0 0 1) + 1) := ⟨_, rfl⟩
    rw [← hX22] at hw
    have hRX22 : Rng X22 := by rw [hX22]; exact rng_set hRX9 (show 0 ≤ ((X 0 0 1) + 1) ∧ ((X 0 0 1) + 1) ≤ 8 by omega)
    have hVX22 : X22 0 0 1 = ((X 0 0 1) + 1) := by rw [hX22]; exact u3_s _ _ _ _ _
    have hFX22 : Frm [1901, 1902, 1907, 2000, 2100, 2200, 2300, 2] X X22 := by rw [hX22]; exact Frm.set hFX9 (show 2 ∈ [1901, 1902, 1907, 2000, 2100, 2200, 2300, 2] by first | exact nlm_in rfl | decide)
    refine lv_aload_n hx hb dX8_type_42 rfl (lv_at hl 0 rfl) ?_
    refine x_geti (jz := 1) hx hb hf8 hw (by first | exact Int.le_refl 0 | omega) (by first | exact zlt hc0 | omega) sl_0_1 rfl lk63 dX8_type_43 ?_
    rw [hVX22]
    refine lv_iconst (v := jI 1) hx hb dX8_type_46 rfl ?_
    refine x_isub hx hb dX8_type_47 ?_
    rw [hQ9]
    refine ret_i (mc := 6) (ms := 32) hx hb hr hlocks hw hS (by first | exact Nat.le_of_ble_eq_true rfl | omega) (by first | exact Nat.le_of_ble_eq_true rfl | omega) dX8_type_48 ?_
    have hT9 : X 0 0 1 = g8 := by first | exact (hg8.trans hct).symm | omega
    have hx7 : ∀ (k : Nat) (y : Int), k ≠ 0 → y ≠ g8 → X22 k y = X k y := fun k y hk hy => by rw [hX22, u3_k _ _ _ _ hk]; exact hty7 k y hy
    have hx8 : ∀ y : Int, y ≠ X 0 0 1 → X22 19 y = X 19 y ∧ X22 20 y = X 20 y ∧ X22 21 y = X 21 y ∧ X22 22 y = X 22 y ∧ X22 23 y = X 23 y := by
      intro y hy
      have h9 : y ≠ g8 := fun q => hy (q.trans hT9.symm)
      exact ⟨hx7 19 y (by decide) h9, hx7 20 y (by decide) h9, hx7 21 y (by decide) h9, hx7 22 y (by decide) h9, hx7 23 y (by decide) h9⟩
    exact ⟨ad, cnt, X22, Y19, ln, rfl, hE9 _ _ _ hE, hFx, hOw, hLn, hRX22, hFX22, hHY19, cinv_type (T := X 0 0 1) hCI rfl (by omega) hFX22 hHY19 hVX22 (fun i hi => ⟨by rw [hX22, u3_k _ _ _ _ (by first | exact Nat.ne_of_beq_eq_false rfl | decide), hty3 i (fun q9 => hi (q9.trans hT9.symm))], by rw [hX22, u3_k _ _ _ _ (by first | exact Nat.ne_of_beq_eq_false rfl | decide), hty3 i (fun q9 => hi (q9.trans hT9.symm))], fun j => by rw [hY19, u3_k _ _ _ _ (by first | exact Nat.ne_of_beq_eq_false rfl | decide), hty4 i (fun q9 => hi (q9.trans hT9.symm))], by rw [hY19, u3_ij (fun q9 => hi q9.2), hJ13 1 0 i (show 100 ∉ [2400] by first | exact nlm_ni rfl | decide)]⟩) ⟨by rw [hX22, u3_k _ _ _ _ (by first | exact Nat.ne_of_beq_eq_false rfl | decide), hT9]; rw [hT9] at hty1; exact hty1, by rw [hX22, u3_k _ _ _ _ (by first | exact Nat.ne_of_beq_eq_false rfl | decide), hT9]; exact hty2, by rw [hVY19, hT9]⟩ (funext hty5), by omega, Or.inr ⟨by omega, (by first | exact Int.add_sub_cancel _ _ | omega), (by first | exact hVX22 | omega), (by rw [hX22, u3_k _ _ _ _ (by first | exact Nat.ne_of_beq_eq_false rfl | decide), hT9]; exact hty6), (by rw [hX22, u3_k _ _ _ _ (by first | exact Nat.ne_of_beq_eq_false rfl | decide), hT9]; exact hty2)⟩, hx8, fun y hy => (by rw [hY19, u3_k _ _ _ _ (by first | exact Nat.ne_of_beq_eq_false rfl | decide)]; exact hty4 y (fun q9 => hy (q9.trans hT9.symm)))⟩
  · refine lv_bipush (v := jI (-4)) hx hb dX8_type_9 (by decide) ?_
    rw [hQ9]
    refine ret_i (mc := 6) (ms := 32) hx hb hr hlocks hw hS (by first | exact Nat.le_of_ble_eq_true rfl | omega) (by first | exact Nat.le_of_ble_eq_true rfl | omega) dX8_type_11 ?_
    exact ⟨ad, cnt, X, Y, ln, rfl, hE9 _ _ _ hE, hFx, hOw, hLn, hR, Frm.rf, Frm.rf, hCI, by omega, Or.inl ⟨by omega, by omega, rfl⟩, fun y hy => ⟨rfl, rfl, rfl, rfl, rfl⟩, fun y hy => rfl⟩
end
section
/-! throwing and catching -/
section Rows2
variable {p : Program} {l : Launch} {e : Env} {R : Room} {s : State} {m : MethodId} {args : Array Value} {below : List Frame} {meth : Method} {c : Code} {H : Heap} {locs : List Loc} {cells slots : Nat} {Q : State → Prop}
variable {mc ms : Nat} {free : Addr → Prop} {A0 A1 : Nat → Prop} {H0 : Heap} {a : Array Value} {pc : Nat} {ls : Array Slot} {st0 rest : List Value}
/-- caught by the row x of this method's table; the rows ahead don't take it -/
theorem vx_catch {own name : String} {E : String} {ce : Cell} {q : Addr} (hown : s.vm.findClass own = some m.cls) (pre : List ExceptionTableEntry) (x : ExceptionTableEntry) (suf : List ExceptionTableEntry) (hsplit : c.exceptionTable.toList = pre ++ x :: suf)
    (hpass : ∀ z ∈ pre, covers z pc = false ∨ (z.catchType ≠ 0 ∧ ∃ nm : String, (Cond.classLink own z.catchType nm).before args s = true ∧ va_Nc E nm s)) (hx : covers x pc = true) (h0 : x.catchType ≠ 0)
    (hlink : (Cond.classLink own x.catchType name).before args s = true) (hcast : (Cond.castable E name).before args s = true) (hcell : H[q]? = some ce) (hv : ce.vm = .none) (hcl : s.vm.findClass E = some ce.cls)
    (kk : W p l e R s m args below meth c H locs cells slots Q (F0 m x.handlerPc ls [.ref q])) : vx_W p l e R s m args below meth c H locs cells slots Q (F0 m pc ls rest) q := by
  intro T hT X
  have hpl : e.platform.magicAccessors = ({} : Platform).magicAccessors := by rw [X.admits.platform]
  obtain ⟨c3, c4, hc3, hc4, hasg⟩ := Cond.castable_spec hcast
  cases Option.some.inj (hc3.symm.trans hcl)
  obtain ⟨c5, hc5, hcl5⟩ := Cond.classLink_spec hown hlink e.platform hpl
  cases Option.some.inj (hc4.symm.trans hc5)
  obtain ⟨vm', X', st⟩ := X.thenCaughtThrough q (g := F0 m pc ls rest) rfl (Steps.refl _) (by rw [hT]; exact hcell) (by rw [hv]; rfl) (by obtain ⟨k9, h9, -⟩ := Vm.findClass_spec hcl; exact ⟨k9, h9⟩) pre x suf hsplit
    (fun z hz => by
      rcases hpass z hz with h | ⟨hz0, nm, hl1, hn1⟩
      · exact Or.inl h
      · obtain ⟨c6, hc6, hcl6⟩ := Cond.classLink_spec hown hl1 e.platform hpl
        obtain ⟨a8, b8, h1, h2, h3⟩ := hn1
        cases Option.some.inj (h1.symm.trans hcl)
        cases Option.some.inj (h2.symm.trans hc6)
        exact Or.inr ⟨hz0, _, hcl6, h3⟩) hx (Or.inr ⟨h0, c4, hcl5, hasg⟩)
  obtain ⟨t, a1, b1⟩ := kk (T.setVm vm') hT X'
  exact ⟨t, st.trans a1, b1⟩
end Rows2
/-- what a throw stands on -/
def dI1 : MethodName := ⟨"java/lang/RuntimeException", "<init>", "(Ljava/lang/String;)V"⟩
def dI2 : MethodName := ⟨"java/lang/Exception", "<init>", "(Ljava/lang/String;)V"⟩
def dI3 : MethodName := ⟨"java/lang/Throwable", "<init>", "(Ljava/lang/String;)V"⟩
abbrev eA : String := "java/lang/IllegalArgumentException"
abbrev eI : String := "java/lang/IndexOutOfBoundsException"
abbrev eS : String := "java/lang/IllegalStateException"
abbrev eNs : List String := ["java/lang/RuntimeException", "java/lang/Exception"]
def TS (U : State) : Prop := (∃ a, vk_R RX8 183 "no such thing" a U) ∧ (∃ a, vk_R RX8 190 "no such field" a U) ∧ (∃ a, vk_R RX8 198 "no lane of rows" a U) ∧ (∃ a, vk_R RX8 201 "no row" a U) ∧ (∃ a, vk_R RX8 203 "no such item" a U)
def TD (U : State) : Prop := va_Nw (.declares dI1) U ∧ va_Nw (.declares dI2) U ∧ va_Nw (.declares dI3) U
def TC (U : State) : Prop := va_Nw (.castable eA eA) U ∧ va_Nw (.castable eI eI) U ∧ va_Nw (.castable eS eS) U
def TN (U : State) : Prop := va_Nc eI eA U ∧ va_Nc eS eA U ∧ va_Nc eI eS U
def TZ (base : Nat) (U : State) (H : Heap) : Prop := vx_Zq Bundle.tN "UNASSIGNED_STACK" Bundle.steD (frA base) U H ∧ vx_Zq Bundle.tN "SUPPRESSED_SENTINEL" Bundle.listD (frA base) U H
def TK (base : Nat) (U : State) (H : Heap) : Prop := TS U ∧ TD U ∧ TC U ∧ TN U ∧ TZ base U H
theorem TK.go {base : Nat} {s U : State} {H0 H : Heap} {locs : List Loc} (h : TK base s H0) (hS : va_S (frA base) H0 H locs) (hW : s.WarmedH U.vm) : TK base U H := by
  obtain ⟨⟨⟨a1, h1⟩, ⟨a2, h2⟩, ⟨a3, h3⟩, ⟨a4, h4⟩, ⟨a5, h5⟩⟩, ⟨d1, d2, d3⟩, ⟨c1, c2, c3⟩, ⟨n1, n2, n3⟩, z1, z2⟩ := h
  exact ⟨⟨⟨a1, vk_R.warm hW h1⟩, ⟨a2, vk_R.warm hW h2⟩, ⟨a3, vk_R.warm hW h3⟩, ⟨a4, vk_R.warm hW h4⟩, ⟨a5, vk_R.warm hW h5⟩⟩, ⟨va_Nw.warmD hW d1, va_Nw.warmD hW d2, va_Nw.warmD hW d3⟩, ⟨va_Nw.warmC hW c1, va_Nw.warmC hW c2, va_Nw.warmC hW c3⟩, ⟨va_Nc.moved hW.alike n1, va_Nc.moved hW.alike n2, va_Nc.moved hW.alike n3⟩, vx_Zq.moved hW.alike (z1.kept hS.2.1), vx_Zq.moved hW.alike (z2.kept hS.2.1)⟩
theorem TK.call {base : Nat} {U : State} {H : Heap} {g : JFrame} {mk : MethodId} {a : Array Value} (h : TK base U H) : TK base (U.calling g mk a) H := by
  obtain ⟨⟨⟨a1, h1⟩, ⟨a2, h2⟩, ⟨a3, h3⟩, ⟨a4, h4⟩, ⟨a5, h5⟩⟩, ⟨d1, d2, d3⟩, ⟨c1, c2, c3⟩, ⟨n1, n2, n3⟩, z1, z2⟩ := h
  exact ⟨⟨⟨a1, vk_R.same rfl h1⟩, ⟨a2, vk_R.same rfl h2⟩, ⟨a3, vk_R.same rfl h3⟩, ⟨a4, vk_R.same rfl h4⟩, ⟨a5, vk_R.same rfl h5⟩⟩, ⟨va_Nw.same rfl rfl d1, va_Nw.same rfl rfl d2, va_Nw.same rfl rfl d3⟩, ⟨va_Nw.same rfl rfl c1, va_Nw.same rfl rfl c2, va_Nw.same rfl rfl c3⟩, ⟨va_Nc.moved (u := U) (U := U.calling g mk a) (Vm.Alike.refl U.vm) n1, va_Nc.moved (u := U) (U := U.calling g mk a) (Vm.Alike.refl U.vm) n2, va_Nc.moved (u := U) (U := U.calling g mk a) (Vm.Alike.refl U.vm) n3⟩, vx_Zq.moved (u := U) (U := U.calling g mk a) (Vm.Alike.refl U.vm) z1, vx_Zq.moved (u := U) (U := U.calling g mk a) (Vm.Alike.refl U.vm) z2⟩
def PcT (D : va_G) (tc : Nat → ClassId) (base : Nat) (u : St) (av : List Value) : Array Value → State → Prop := va_Pc av (fun U => wd D tc base u U.heap ∧ Kx D tc U ∧ TK base U U.heap)
theorem PcT.blind {D : va_G} {tc : Nat → ClassId} {base : Nat} {u : St} {av : List Value} : FrameBlind (PcT D tc base u av) := fun a U g mk q => ⟨q.1, q.2.1, q.2.2.1.call, q.2.2.2.call⟩
def XT (D : va_G) (tc : Nat → ClassId) (base : Nat) (u : St) (Es : List String) : String → State → State → Prop := vx_X (fun (_ : Unit) => True) (fun E _ t => E ∈ Es ∧ wd D tc base u t.heap) (frA base)
def KT (l : Launch) (D : va_G) (tc : Nat → ClassId) (base : Nat) (y : MethodName) (ws : List Cond) (rm : Room) (av : List Value) (u : St) (mc ms : Nat) (post : Int → St → Prop) (Es : List String) : Prop := vx_Met l y ws rm (PcT D tc base u av) (QL D tc base post) (XT D tc base u Es) mc ms (frA base)
theorem KT_of {l : Launch} {D : va_G} {tc : Nat → ClassId} {base : Nat} {y : MethodName} {ws ws' : List Cond} {rm : Room} {av : List Value} {u : St} {mc ms : Nat} {Qc : Array Value → State → Outcome → State → Prop} {XC : String → State → State → Prop} {cc : ByteArray} {maxL : Nat} {ret : Option FieldType}
    (hy : plainName y.cls = true) (hw : ws = Cond.code y cc maxL ret :: ws') (hsl : (lg_sl av).length ≤ maxL)
    (body : ∀ (p : Program) (e : Env) (s : State) (m : MethodId) (below : List Frame) (meth : Method) (c : Code) (ls : Array Slot), p.tables.exec = Jvm.exec → c.code = cc → meth.sig.returnType = ret → c.maxLocals = maxL → s.vm.findClass y.cls = some m.cls → (∀ w ∈ ws, w.before av.toArray s = true) → meth.locks = false → (∀ x ∈ c.exceptionTable.toList, False) → lv_has ls maxL (lv_args 0 av) → Kx D tc s → TK base s s.heap → wd D tc base u s.heap → va_S (frA base) s.heap s.heap [] →
      W p l e rm s m av.toArray below meth c s.heap [] 0 0 (vx_MQ below Qc XC av.toArray s mc ms (frA base)) (F0 m 0 ls [])) : vx_Met l y ws rm (PcT D tc base u av) Qc XC mc ms (frA base) := by
  refine vx_ofW (cc := cc) (maxL := maxL) (ret := ret) hy hw ?_
  intro p e s m args below meth c s₁ B hml hex hv
  obtain ⟨rfl, hW, hK, hT⟩ := hv
  have hl := lv_entry av (n := maxL) hsl
  rw [lg_entry_eq]
  exact body p e s m below meth c _ B.exec B.bytes B.returns hml (findClass_of_methodNamed B.named) (atoms_spec (ws := ws) B.pre) B.notSynchronized hex hl hK hT hW va_S.rf
theorem wd_kept {D : va_G} {tc : Nat → ClassId} {base : Nat} {u : St} {H H1 : Heap} (h : wd D tc base u H) (hz : H.size ≤ H1.size) (hq : ∀ q : Nat, q < H.size → H1[q]? = H[q]?) : wd D tc base u H1 := by
  obtain ⟨⟨RL, h1, h2, h3⟩, h4, h5⟩ := h
  exact ⟨⟨RL, h1, h2.kept (fun k q hk => hq _ (h2 k q hk).lt), h3⟩, h4, Nat.le_trans h5 hz⟩
/-- the throw of a new exception with a text -/
theorem t_throw {p : Program} {l : Launch} {e : Env} {R : Room} {s : State} {m : MethodId} {args : Array Value} {below : List Frame} {meth : Method} {c : Code} {H : Heap} {locs : List Loc} {cells slots : Nat} {ls : Array Slot} {rest : List Value} {Qc : Array Value → State → Outcome → State → Prop} {D : va_G} {tc : Nat → ClassId} {base : Nat} {u : St} {Es : List String}
    {cc : ByteArray} {pc : Nat} (hx : p.tables.exec = Jvm.exec) (hb : c.code = cc) (hl : l.stackTraces = false) {cls text : String} {ik is ic mc ms sa : Nat} (hown : s.vm.findClass RX8 = some m.cls) (hcls : Bundle.fit cls = true)
    (hk : (Cond.classLink RX8 ik cls).before args s = true) (hini : (Cond.initialized cls).before args s = true) (hstr : vk_R RX8 is text sa s) (hat : ∀ w ∈ (vx_atS RX8 ic cls eNs).filter goodWord, w.before args s = true)
    (hb2 : ∀ w ∈ (vx_atS RX8 ic cls eNs).filter (fun w => !goodWord w), w ∈ [Cond.declares dI1, Cond.declares dI2, Cond.declares dI3, Cond.castable cls cls]) (hcc : va_Nw (.castable cls cls) s) (hT : TK base s s.heap)
    (hgood : ∀ w ∈ Cond.classLink RX8 ik cls :: Cond.initialized cls :: vx_atS RX8 ic cls eNs, vx_ot w = true)
    (hw : wd D tc base u H) (hS : va_S (frA base) s.heap H locs) (hsize : ls.size = c.maxLocals)
    (d0 : decode cc pc = .ok (.new ik, 3)) (d3 : decode cc (pc + 3) = .ok (.dup, 1)) (d4 : decode cc (pc + 4) = .ok (.ldc is, 2)) (d6 : decode cc (pc + 6) = .ok (.invokespecial ic, 3)) (d9 : decode cc (pc + 9) = .ok (.athrow, 1))
    (hout : ∀ x ∈ c.exceptionTable.toList, False) (hRframes : 5 < R.frames) (hRlocals : (rest.map fun v => v.category).sum + 82 ≤ R.locals) (hRcells : cells + 1 ≤ R.cells) (hRslots : slots + 6 ≤ R.slots) (hlocks : meth.locks = false) (hm : cls ∈ Es) (hc : cells + 1 ≤ mc) (hs : slots + 6 ≤ ms) :
    W p l e R s m args below meth c H locs cells slots (vx_MQ below Qc (XT D tc base u Es) args s mc ms (frA base)) (F0 m pc ls rest) := by
  obtain ⟨hTS, ⟨hd1, hd2, hd3⟩, hTC, hTN, hz1, hz2⟩ := hT
  refine vx_throwS hx hb hl hown hcls (by decide +kernel) hk hini hstr (vx_hat hat hb2 (vx_c (va_Nw.use rfl hd1) (vx_c (va_Nw.use rfl hd2) (vx_c (va_Nw.use rfl hd3) (vx_c (va_Nw.use rfl hcc) vx_n))))) hgood hz1 hz2 hS hsize d0 d3 d4 d6 d9 (fun x hx => (hout x hx).elim) hRframes hRlocals hRcells hRslots hlocks ?_ hS.2.2 hc hs
  intro t ht h1 h2
  refine ⟨(), trivial, ⟨hm, wd_kept hw h1 h2⟩, ?_⟩
  exact ⟨Nat.le_trans hS.1 h1, fun q hq hA => (h2 q (Nat.lt_of_lt_of_le hq hS.1)).trans (hS.2.1 q hq hA)⟩
end
section
set_option maxHeartbeats 4000000 in
set_option maxRecDepth 100000 in
theorem c_X8_at (l : Launch) (hlT : l.stackTraces = false) (D : va_G) (tc : Nat → ClassId) (base : Nat) (ad : Nat → Int → Nat) (cnt : Nat → Int) (X : Nat → Int → Int → Int) (Y : Nat → Int → Int → Option Int) (ln : Int → Int) (hR : Rng X) (hFx : Fx cnt) (hLn : LnOK ln) (hCI : CInv cnt X Y ln) (x k : Int) (hx : -2147483648 ≤ x ∧ x ≤ 2147483647) (hk : -2147483648 ≤ k ∧ k ≤ 2147483647) : KT l D tc base yX8_at wsX8_at ({ frames := 6, cells := 1, slots := 6, locals := 82 } : Room) [.ref (ad 0 0), .int (jI x), .int (jI k)] (ad, cnt, X, Y, ln) 1 6 (fun z u => u = (ad, cnt, X, Y, ln) ∧ (-9223372036854775808 ≤ z ∧ z ≤ 9223372036854775807)) [eA, eI] := by
  refine KT_of (cc := cX8_at) (maxL := 5) (ret := (some .long)) (by decide) rfl (Nat.le_of_ble_eq_true rfl) ?_
  intro p e s m below meth c ls hx hb hr hml hown hts hlocks hex hl hK hT hw hS
  have hown : s.vm.findClass RX8 = some m.cls := hown
  have hi5 : ∀ w ∈ wsX50, w ∈ wsX8_at := fun w h => List.mem_cons_of_mem _ (List.mem_append_left _ (List.mem_append_left _ (List.mem_append_left _ (List.mem_append_right _ h))))
  have hf5 : fctx s m _ RX8 wsX8_at D tc RX5 TX5 2 5 := ⟨hts, hi5, hown, hK.1, rfl⟩
  have hi6 : ∀ w ∈ wsX60, w ∈ wsX8_at := fun w h => List.mem_cons_of_mem _ (List.mem_append_left _ (List.mem_append_left _ (List.mem_append_left _ (List.mem_append_left _ (List.mem_append_left _ (List.mem_append_right _ h))))))
  have hf6 : fctx s m _ RX8 wsX8_at D tc RX6 TX6 4 6 := ⟨hts, hi6, hown, hK.1, rfl⟩
  have hi7 : ∀ w ∈ wsX70, w ∈ wsX8_at := fun w h => List.mem_cons_of_mem _ (List.mem_append_left _ (List.mem_append_left _ (List.mem_append_left _ (List.mem_append_left _ (List.mem_append_right _ h)))))
  have hf7 : fctx s m _ RX8 wsX8_at D tc RX7 TX7 8 7 := ⟨hts, hi7, hown, hK.1, rfl⟩
  have lk97 := hts (.fieldLink RX8 97 (TX6 0).1 (TX6 0).2.1 (TX6 0).2.2.1) (gj_X8_at_0 _ (gp_4 gp_h))
  have lk135 := hts (.fieldLink RX8 135 (TX7 3).1 (TX7 3).2.1 (TX7 3).2.2.1) (gj_X8_at_0 _ (gp_4 (gp_1 gp_h)))
  have lk158 := hts (.fieldLink RX8 158 (TX6 2).1 (TX6 2).2.1 (TX6 2).2.2.1) (gj_X8_at_0 _ (gp_4 (gp_1 (gp_1 (gp_1 gp_h)))))
  have lk161 := hts (.fieldLink RX8 161 (TX5 0).1 (TX5 0).2.1 (TX5 0).2.2.1) (gj_X8_at_0 _ (gp_4 (gp_4 (gp_1 gp_h))))
  have lk193 := hts (.fieldLink RX8 193 (TX6 1).1 (TX6 1).2.1 (TX6 1).2.2.1) (gj_X8_at_0 _ (gp_4 (gp_1 (gp_1 gp_h))))
  have hc0 : cnt 0 = 1 := hFx.at 0 1 (by decide)
  have hc15 : cnt 15 = 30 := hFx.at 15 30 (by decide)
  have hc16 : cnt 16 = 30 := hFx.at 16 30 (by decide)
  have hc17 : cnt 17 = 30 := hFx.at 17 30 (by decide)
  have hc21 : cnt 21 = cnt 19 := hFx.2.1 21 (by decide)
  have hc27 : cnt 27 = cnt 26 := hFx.2.2
  have hl : lv_has ls 5 [(0, .ref (ad 0 0)), (1, .int (jI x)), (2, .int (jI k))] := hl
  have ftc : 0 ≤ X 0 0 3 ∧ X 0 0 3 ≤ 30 := hR 0 0 3
  have fty : 0 ≤ X 0 0 1 ∧ X 0 0 1 ≤ 8 := hR 0 0 1
  have hct : cnt 19 = X 0 0 1 := hCI.2.2.2.1.1
  have hfj : 0 ≤ X 29 0 3 ∧ X 29 0 3 ≤ 4 := hR 29 0 3
  have hfn : 0 ≤ X 29 0 1 ∧ X 29 0 1 ≤ 80 := hR 29 0 1
  refine lv_aload_n hx hb dX8_at_0 rfl (lv_at hl 0 rfl) ?_
  refine lv_iload_n hx hb dX8_at_1 rfl (lv_at hl 1 rfl) ?_
  refine x_i2l hx hb (by omega) dX8_at_2 ?_
  refine gos_r (run_V (As := [.long (jL x)]) (rest := []) hx hb hml hown hts (c_X8_thingNumbered l D tc base ad cnt X Y ln hR hFx hLn hCI x (by omega)) (cwV 1 hts gX8_at_X8_thingNumbered rfl rfl rfl (by first | exact hd_X8_thingNumbered | decide +kernel) ⟨Nat.le_of_ble_eq_true rfl, Nat.le_of_ble_eq_true rfl⟩) hK hw (by first | exact Int.le_refl 0 | omega) (by first | exact zlt hc0 | omega) sl_0_0 rfl rfl hl.1 rfl (Nat.le_of_ble_eq_true rfl) dX8_at_3 ⟨(by show _ ≤ (1 : Nat); omega), (by show _ ≤ (6 : Nat); omega)⟩) hS (fun u2 H locs p3 hw hS => ?_) (fun z1 u2 H locs p3 hw hS => ?_)
  · obtain ⟨eu2, hsp3, hnp3⟩ := p3
    subst eu2
    refine lv_astore_nN (lv' := [(3, .null), (0, .ref (ad 0 0)), (1, .int (jI x)), (2, .int (jI k))]) hx hb dX8_at_6 rfl hl (by decide) rfl (fun ls hl => ?_)
    refine lv_aload_nN hx hb dX8_at_7 rfl (lv_at hl 0 rfl) ?_
    refine lv_ifnonnullN hx hb dX8_at_8 ?_
    obtain ⟨sa, hsa⟩ := hT.1.1
    exact t_throw hx hb hlT hown (by decide +kernel) (hts (.classLink RX8 181 eA) (by decide +kernel)) (hts (.initialized eA) (by decide +kernel)) hsa (fun w hq => hts w (List.mem_cons_of_mem _ (List.mem_append_left _ (List.mem_append_right _ hq)))) (by decide +kernel) hT.2.2.1.1 hT (by decide +kernel) hw hS (hl.1.trans hml.symm) dX8_at_11 dX8_at_14 dX8_at_15 dX8_at_17 dX8_at_20 hex (Nat.le_of_ble_eq_true rfl) (Nat.le_of_ble_eq_true rfl) (by show _ ≤ (1 : Nat); omega) (by show _ ≤ (6 : Nat); omega) hlocks (by decide) (by omega) (by omega)
  · obtain ⟨eu2, hsp3, hnp3⟩ := p3
    subst eu2
    obtain ⟨ezz1, p3⟩ := hsp3 z1 rfl
    refine lv_astore_n (lv' := [(3, .ref (ad 15 z1)), (0, .ref (ad 0 0)), (1, .int (jI x)), (2, .int (jI k))]) hx hb dX8_at_6 rfl hl (by decide) rfl (fun ls hl => ?_)
    refine lv_aload_n hx hb dX8_at_7 rfl (lv_at hl 0 rfl) ?_
    refine lv_ifnonnull (tgt := 21) hx hb dX8_at_8 (by decide) ?_
    refine lv_aload_n hx hb dX8_at_21 rfl (lv_at hl 0 rfl) ?_
    refine x_getr (jz := 0) hx hb hf6 hw (by omega) (by omega) sl_15_0 rfl lk97 dX8_at_22 (fun y4 => ?_) (fun r5 y4 gr5 lr5 => ?_)
    · exfalso
      exact absurd y4 (hCI.2.2.2.2.1 z1 (by omega) (by omega))
    · refine lv_iload_n hx hb dX8_at_25 rfl (lv_at hl 3 rfl) ?_
      refine gos_i (run_V (As := [.int (jI k)]) (rest := []) hx hb hml hown hts (c_X7_hasField l D tc base ad cnt X Y ln hR hFx hLn r5 k (by omega) (by omega)) (cwV 1 hts gX8_at_X7_hasField rfl rfl rfl (by first | exact hd_X7_hasField | decide +kernel) ⟨Nat.le_of_ble_eq_true rfl, Nat.le_of_ble_eq_true rfl⟩) hK hw (by first | exact Int.le_refl 0 | omega) (by first | exact zlt hc19 | omega) sl_19_0 rfl rfl hl.1 rfl (Nat.le_of_ble_eq_true rfl) dX8_at_26 ⟨(by show _ ≤ (1 : Nat); omega), (by show _ ≤ (6 : Nat); omega)⟩) hS (fun z6 u7 H locs p8 hw hS => ?_)
      obtain ⟨eu7, p8⟩ := p8
      subst eu7
      rcases p8 with ⟨ez6, p8⟩ | ⟨ez6, p8⟩
      · subst ez6
        refine x_if_neT (tgt := 42) hx hb (by omega) (by decide) dX8_at_29 (by decide) ?_
        refine lv_aload_n hx hb dX8_at_42 rfl (lv_at hl 0 rfl) ?_
        refine x_getr (jz := 0) hx hb hf6 hw (by omega) (by omega) sl_15_0 rfl lk97 dX8_at_43 (fun y9 => ?_) (fun r10 y9 gr10 lr10 => ?_)
        · exfalso
          rw [y4] at y9; cases y9
        · have er10 : r10 = r5 := by rw [y4] at y9; cases y9; rfl
          rw [er10]
          refine x_geto hx hb hf7 hw (by omega) (by omega) sl_19_3 lk135 dX8_at_46 ?_
          refine lv_iload_n hx hb dX8_at_49 rfl (lv_at hl 3 rfl) ?_
          refine x_iald hx hb hK.1 hw (by omega) (by omega) ar_21 (len_E ar_21 (by first | exact Nat.ne_of_beq_eq_false rfl | decide)) (by omega) (by omega) (by omega) dX8_at_50 ?_
          have f11 : 0 ≤ X 21 r5 k ∧ X 21 r5 k ≤ 5 := hR 21 r5 k
          refine gos_i (run_S (As := [.int (jI (X 21 r5 k))]) (rest := []) hx hb hml hown hts (c_X8_isRowLane l D tc base ad cnt X Y ln (X 21 r5 k) (by omega)) (cwS 1 hts gX8_at_X8_isRowLane rfl rfl rfl (by first | exact hd_X8_isRowLane | decide +kernel) ⟨Nat.le_of_ble_eq_true rfl, Nat.le_of_ble_eq_true rfl⟩) hK hw rfl hl.1 rfl (Nat.le_of_ble_eq_true rfl) dX8_at_51 ⟨(by show _ ≤ (1 : Nat); omega), (by show _ ≤ (6 : Nat); omega)⟩) hS (fun z12 u13 H locs p14 hw hS => ?_)
          obtain ⟨eu13, p14⟩ := p14
          subst eu13
          rcases p14 with ⟨ez12, p14⟩ | ⟨ez12, p14⟩
          · subst ez12
            refine x_if_neT (tgt := 64) hx hb (by omega) (by decide) dX8_at_54 (by decide) ?_
            refine lv_aload_n hx hb dX8_at_64 rfl (lv_at hl 0 rfl) ?_
            refine x_geto hx hb hf6 hw (by omega) (by omega) sl_15_2 lk158 dX8_at_65 ?_
            refine lv_iload_n hx hb dX8_at_68 rfl (lv_at hl 3 rfl) ?_
            refine x_aald hx hb hK.1 hw (by omega) (by omega) ar_17 rfl (len_E ar_17 (by first | exact Nat.ne_of_beq_eq_false rfl | decide)) (by omega) (by omega) (by omega) dX8_at_69 (fun y15 => ?_) (fun r16 y15 gr16 lr16 => ?_)
            · refine lv_astoreN (lv' := [(4, .null), (3, .ref (ad 15 z1)), (0, .ref (ad 0 0)), (1, .int (jI x)), (2, .int (jI k))]) hx hb dX8_at_70 hl (by decide) rfl (fun ls hl => ?_)
              refine lv_aloadN hx hb dX8_at_72 (lv_at hl 0 rfl) ?_
              refine lv_ifnonnullN hx hb dX8_at_74 ?_
              refine lv_ldc2 (v := jL (-1)) hx hb hown (hts (.constantLong RX8 88 (-1)) (by first | exact gj_X8_at_0 _ (gp_4 (gp_4 gp_h)) | decide +kernel)) dX8_at_77 ?_
              refine lv_goto (tgt := 90) hx hb dX8_at_80 (by decide) ?_
              refine vx_ret ?_
              refine ret_l (mc := 1) (ms := 6) hx hb hr hlocks hw hS (by first | exact Nat.le_of_ble_eq_true rfl | omega) (by first | exact Nat.le_of_ble_eq_true rfl | omega) dX8_at_90 ?_
              exact ⟨rfl, by omega⟩
            · refine lv_astore (lv' := [(4, .ref (ad 26 r16)), (3, .ref (ad 15 z1)), (0, .ref (ad 0 0)), (1, .int (jI x)), (2, .int (jI k))]) hx hb dX8_at_70 hl (by decide) rfl (fun ls hl => ?_)
              refine lv_aload hx hb dX8_at_72 (lv_at hl 0 rfl) ?_
              refine lv_ifnonnull (tgt := 83) hx hb dX8_at_74 (by decide) ?_
              refine lv_aload hx hb dX8_at_83 (lv_at hl 0 rfl) ?_
              refine x_geto hx hb hf5 hw (by omega) (by omega) sl_26_0 lk161 dX8_at_85 ?_
              have f17 : 0 ≤ ln r16 ∧ ln r16 ≤ 12 := hLn r16
              refine x_alenl hx hb hK.1 hw (by omega) (by omega) ar_27 (show lenE ln 27 r16 = ln r16 from rfl) (by omega) dX8_at_88 ?_
              refine x_i2l hx hb (by omega) dX8_at_89 ?_
              refine vx_ret ?_
              refine ret_l (mc := 1) (ms := 6) hx hb hr hlocks hw hS (by first | exact Nat.le_of_ble_eq_true rfl | omega) (by first | exact Nat.le_of_ble_eq_true rfl | omega) dX8_at_90 ?_
              exact ⟨rfl, by omega⟩
          · subst ez12
            refine x_if_neF (tgt := 64) hx hb (by omega) (by decide) dX8_at_54 (by decide) ?_
            refine lv_aload_n hx hb dX8_at_57 rfl (lv_at hl 0 rfl) ?_
            refine x_geto hx hb hf6 hw (by omega) (by omega) sl_15_1 lk193 dX8_at_58 ?_
            refine lv_iload_n hx hb dX8_at_61 rfl (lv_at hl 3 rfl) ?_
            refine x_lald hx hb hK.1 hw (by omega) (by omega) ar_16 (len_E ar_16 (by first | exact Nat.ne_of_beq_eq_false rfl | decide)) (by omega) (by omega) (by omega) dX8_at_62 ?_
            have f18 : (-9223372036854775808) ≤ X 16 z1 k ∧ X 16 z1 k ≤ 9223372036854775807 := hR 16 z1 k
            refine vx_ret ?_
            refine ret_l (mc := 1) (ms := 6) hx hb hr hlocks hw hS (by first | exact Nat.le_of_ble_eq_true rfl | omega) (by first | exact Nat.le_of_ble_eq_true rfl | omega) dX8_at_63 ?_
            exact ⟨rfl, by omega⟩
      · subst ez6
        refine x_if_neF (tgt := 42) hx hb (by omega) (by decide) dX8_at_29 (by decide) ?_
        obtain ⟨sa, hsa⟩ := hT.1.2.1
        exact t_throw hx hb hlT hown (by decide +kernel) (hts (.classLink RX8 188 eI) (by decide +kernel)) (hts (.initialized eI) (by decide +kernel)) hsa (fun w hq => hts w (List.mem_cons_of_mem _ (List.mem_append_right _ hq))) (by decide +kernel) hT.2.2.1.2.1 hT (by decide +kernel) hw hS (hl.1.trans hml.symm) dX8_at_32 dX8_at_35 dX8_at_36 dX8_at_38 dX8_at_41 hex (Nat.le_of_ble_eq_true rfl) (Nat.le_of_ble_eq_true rfl) (by show _ ≤ (1 : Nat); omega) (by show _ ≤ (6 : Nat); omega) hlocks (by decide) (by omega) (by omega)

set_option maxHeartbeats 4000000 in
set_option maxRecDepth 100000 in
theorem c_X8_itemAt (l : Launch) (hlT : l.stackTraces = false) (D : va_G) (tc : Nat → ClassId) (base : Nat) (ad : Nat → Int → Nat) (cnt : Nat → Int) (X : Nat → Int → Int → Int) (Y : Nat → Int → Int → Option Int) (ln : Int → Int) (hR : Rng X) (hFx : Fx cnt) (hLn : LnOK ln) (hCI : CInv cnt X Y ln) (x k i : Int) (hx : -2147483648 ≤ x ∧ x ≤ 2147483647) (hk : -2147483648 ≤ k ∧ k ≤ 2147483647) (hi : -2147483648 ≤ i ∧ i ≤ 2147483647) : KT l D tc base yX8_itemAt wsX8_itemAt ({ frames := 6, cells := 1, slots := 6, locals := 82 } : Room) [.ref (ad 0 0), .int (jI x), .int (jI k), .int (jI i)] (ad, cnt, X, Y, ln) 1 6 (fun z u => u = (ad, cnt, X, Y, ln) ∧ (-9223372036854775808 ≤ z ∧ z ≤ 9223372036854775807)) [eA, eI, eS] := by
  refine KT_of (cc := cX8_itemAt) (maxL := 6) (ret := (some .long)) (by decide) rfl (Nat.le_of_ble_eq_true rfl) ?_
  intro p e s m below meth c ls hx hb hr hml hown hts hlocks hex hl hK hT hw hS
  have hown : s.vm.findClass RX8 = some m.cls := hown
  have hi5 : ∀ w ∈ wsX50, w ∈ wsX8_itemAt := fun w h => List.mem_cons_of_mem _ (List.mem_append_left _ (List.mem_append_left _ (List.mem_append_left _ (List.mem_append_left _ (List.mem_append_right _ h)))))
  have hf5 : fctx s m _ RX8 wsX8_itemAt D tc RX5 TX5 2 5 := ⟨hts, hi5, hown, hK.1, rfl⟩
  have hi6 : ∀ w ∈ wsX60, w ∈ wsX8_itemAt := fun w h => List.mem_cons_of_mem _ (List.mem_append_left _ (List.mem_append_left _ (List.mem_append_left _ (List.mem_append_left _ (List.mem_append_left _ (List.mem_append_left _ (List.mem_append_right _ h)))))))
  have hf6 : fctx s m _ RX8 wsX8_itemAt D tc RX6 TX6 4 6 := ⟨hts, hi6, hown, hK.1, rfl⟩
  have hi7 : ∀ w ∈ wsX70, w ∈ wsX8_itemAt := fun w h => List.mem_cons_of_mem _ (List.mem_append_left _ (List.mem_append_left _ (List.mem_append_left _ (List.mem_append_left _ (List.mem_append_left _ (List.mem_append_right _ h))))))
  have hf7 : fctx s m _ RX8 wsX8_itemAt D tc RX7 TX7 8 7 := ⟨hts, hi7, hown, hK.1, rfl⟩
  have lk97 := hts (.fieldLink RX8 97 (TX6 0).1 (TX6 0).2.1 (TX6 0).2.2.1) (gj_X8_itemAt_0 _ (gp_4 (gp_1 (gp_1 gp_h))))
  have lk135 := hts (.fieldLink RX8 135 (TX7 3).1 (TX7 3).2.1 (TX7 3).2.2.1) (gj_X8_itemAt_0 _ (gp_4 (gp_1 (gp_1 (gp_1 gp_h)))))
  have lk158 := hts (.fieldLink RX8 158 (TX6 2).1 (TX6 2).2.1 (TX6 2).2.2.1) (gj_X8_itemAt_0 _ (gp_4 (gp_4 gp_h)))
  have lk161 := hts (.fieldLink RX8 161 (TX5 0).1 (TX5 0).2.1 (TX5 0).2.2.1) (gj_X8_itemAt_0 _ (gp_4 (gp_4 (gp_1 gp_h))))
  have hc0 : cnt 0 = 1 := hFx.at 0 1 (by decide)
  have hc15 : cnt 15 = 30 := hFx.at 15 30 (by decide)
  have hc17 : cnt 17 = 30 := hFx.at 17 30 (by decide)
  have hc21 : cnt 21 = cnt 19 := hFx.2.1 21 (by decide)
  have hc27 : cnt 27 = cnt 26 := hFx.2.2
  have hl : lv_has ls 6 [(0, .ref (ad 0 0)), (1, .int (jI x)), (2, .int (jI k)), (3, .int (jI i))] := hl
  have ftc : 0 ≤ X 0 0 3 ∧ X 0 0 3 ≤ 30 := hR 0 0 3
  have fty : 0 ≤ X 0 0 1 ∧ X 0 0 1 ≤ 8 := hR 0 0 1
  have hct : cnt 19 = X 0 0 1 := hCI.2.2.2.1.1
  have hfj : 0 ≤ X 29 0 3 ∧ X 29 0 3 ≤ 4 := hR 29 0 3
  have hfn : 0 ≤ X 29 0 1 ∧ X 29 0 1 ≤ 80 := hR 29 0 1
  refine lv_aload_n hx hb dX8_itemAt_0 rfl (lv_at hl 0 rfl) ?_
  refine lv_iload_n hx hb dX8_itemAt_1 rfl (lv_at hl 1 rfl) ?_
  refine x_i2l hx hb (by omega) dX8_itemAt_2 ?_
  refine gos_r (run_V (As := [.long (jL x)]) (rest := []) hx hb hml hown hts (c_X8_thingNumbered l D tc base ad cnt X Y ln hR hFx hLn hCI x (by omega)) (cwV 1 hts gX8_itemAt_X8_thingNumbered rfl rfl rfl (by first | exact hd_X8_thingNumbered | decide +kernel) ⟨Nat.le_of_ble_eq_true rfl, Nat.le_of_ble_eq_true rfl⟩) hK hw (by first | exact Int.le_refl 0 | omega) (by first | exact zlt hc0 | omega) sl_0_0 rfl rfl hl.1 rfl (Nat.le_of_ble_eq_true rfl) dX8_itemAt_3 ⟨(by show _ ≤ (1 : Nat); omega), (by show _ ≤ (6 : Nat); omega)⟩) hS (fun u2 H locs p3 hw hS => ?_) (fun z1 u2 H locs p3 hw hS => ?_)
  · obtain ⟨eu2, hsp3, hnp3⟩ := p3
    subst eu2
    refine lv_astoreN (lv' := [(4, .null), (0, .ref (ad 0 0)), (1, .int (jI x)), (2, .int (jI k)), (3, .int (jI i))]) hx hb dX8_itemAt_6 hl (by decide) rfl (fun ls hl => ?_)
    refine lv_aloadN hx hb dX8_itemAt_8 (lv_at hl 0 rfl) ?_
    refine lv_ifnonnullN hx hb dX8_itemAt_10 ?_
    obtain ⟨sa, hsa⟩ := hT.1.1
    exact t_throw hx hb hlT hown (by decide +kernel) (hts (.classLink RX8 181 eA) (by decide +kernel)) (hts (.initialized eA) (by decide +kernel)) hsa (fun w hq => hts w (List.mem_cons_of_mem _ (List.mem_append_left _ (List.mem_append_left _ (List.mem_append_right _ hq))))) (by decide +kernel) hT.2.2.1.1 hT (by decide +kernel) hw hS (hl.1.trans hml.symm) dX8_itemAt_13 dX8_itemAt_16 dX8_itemAt_17 dX8_itemAt_19 dX8_itemAt_22 hex (Nat.le_of_ble_eq_true rfl) (Nat.le_of_ble_eq_true rfl) (by show _ ≤ (1 : Nat); omega) (by show _ ≤ (6 : Nat); omega) hlocks (by decide) (by omega) (by omega)
  · obtain ⟨eu2, hsp3, hnp3⟩ := p3
    subst eu2
    obtain ⟨ezz1, p3⟩ := hsp3 z1 rfl
    refine lv_astore (lv' := [(4, .ref (ad 15 z1)), (0, .ref (ad 0 0)), (1, .int (jI x)), (2, .int (jI k)), (3, .int (jI i))]) hx hb dX8_itemAt_6 hl (by decide) rfl (fun ls hl => ?_)
    refine lv_aload hx hb dX8_itemAt_8 (lv_at hl 0 rfl) ?_
    refine lv_ifnonnull (tgt := 23) hx hb dX8_itemAt_10 (by decide) ?_
    refine lv_aload hx hb dX8_itemAt_23 (lv_at hl 0 rfl) ?_
    refine x_getr (jz := 0) hx hb hf6 hw (by omega) (by omega) sl_15_0 rfl lk97 dX8_itemAt_25 (fun y4 => ?_) (fun r5 y4 gr5 lr5 => ?_)
    · exfalso
      exact absurd y4 (hCI.2.2.2.2.1 z1 (by omega) (by omega))
    · refine lv_iload_n hx hb dX8_itemAt_28 rfl (lv_at hl 3 rfl) ?_
      refine gos_i (run_V (As := [.int (jI k)]) (rest := []) hx hb hml hown hts (c_X7_hasField l D tc base ad cnt X Y ln hR hFx hLn r5 k (by omega) (by omega)) (cwV 1 hts gX8_itemAt_X7_hasField rfl rfl rfl (by first | exact hd_X7_hasField | decide +kernel) ⟨Nat.le_of_ble_eq_true rfl, Nat.le_of_ble_eq_true rfl⟩) hK hw (by first | exact Int.le_refl 0 | omega) (by first | exact zlt hc19 | omega) sl_19_0 rfl rfl hl.1 rfl (Nat.le_of_ble_eq_true rfl) dX8_itemAt_29 ⟨(by show _ ≤ (1 : Nat); omega), (by show _ ≤ (6 : Nat); omega)⟩) hS (fun z6 u7 H locs p8 hw hS => ?_)
      obtain ⟨eu7, p8⟩ := p8
      subst eu7
      rcases p8 with ⟨ez6, p8⟩ | ⟨ez6, p8⟩
      · subst ez6
        refine x_if_neT (tgt := 45) hx hb (by omega) (by decide) dX8_itemAt_32 (by decide) ?_
        refine lv_aload hx hb dX8_itemAt_45 (lv_at hl 0 rfl) ?_
        refine x_getr (jz := 0) hx hb hf6 hw (by omega) (by omega) sl_15_0 rfl lk97 dX8_itemAt_47 (fun y9 => ?_) (fun r10 y9 gr10 lr10 => ?_)
        · exfalso
          rw [y4] at y9; cases y9
        · have er10 : r10 = r5 := by rw [y4] at y9; cases y9; rfl
          rw [er10]
          refine x_geto hx hb hf7 hw (by omega) (by omega) sl_19_3 lk135 dX8_itemAt_50 ?_
          refine lv_iload_n hx hb dX8_itemAt_53 rfl (lv_at hl 3 rfl) ?_
          refine x_iald hx hb hK.1 hw (by omega) (by omega) ar_21 (len_E ar_21 (by first | exact Nat.ne_of_beq_eq_false rfl | decide)) (by omega) (by omega) (by omega) dX8_itemAt_54 ?_
          have f11 : 0 ≤ X 21 r5 k ∧ X 21 r5 k ≤ 5 := hR 21 r5 k
          refine gos_i (run_S (As := [.int (jI (X 21 r5 k))]) (rest := []) hx hb hml hown hts (c_X8_isRowLane l D tc base ad cnt X Y ln (X 21 r5 k) (by omega)) (cwS 1 hts gX8_itemAt_X8_isRowLane rfl rfl rfl (by first | exact hd_X8_isRowLane | decide +kernel) ⟨Nat.le_of_ble_eq_true rfl, Nat.le_of_ble_eq_true rfl⟩) hK hw rfl hl.1 rfl (Nat.le_of_ble_eq_true rfl) dX8_itemAt_55 ⟨(by show _ ≤ (1 : Nat); omega), (by show _ ≤ (6 : Nat); omega)⟩) hS (fun z12 u13 H locs p14 hw hS => ?_)
          obtain ⟨eu13, p14⟩ := p14
          subst eu13
          rcases p14 with ⟨ez12, p14⟩ | ⟨ez12, p14⟩
          · subst ez12
            refine x_if_neT (tgt := 71) hx hb (by omega) (by decide) dX8_itemAt_58 (by decide) ?_
            refine lv_aload hx hb dX8_itemAt_71 (lv_at hl 0 rfl) ?_
            refine x_geto hx hb hf6 hw (by omega) (by omega) sl_15_2 lk158 dX8_itemAt_73 ?_
            refine lv_iload_n hx hb dX8_itemAt_76 rfl (lv_at hl 3 rfl) ?_
            refine x_aald hx hb hK.1 hw (by omega) (by omega) ar_17 rfl (len_E ar_17 (by first | exact Nat.ne_of_beq_eq_false rfl | decide)) (by omega) (by omega) (by omega) dX8_itemAt_77 (fun y15 => ?_) (fun r16 y15 gr16 lr16 => ?_)
            · refine lv_astoreN (lv' := [(5, .null), (4, .ref (ad 15 z1)), (0, .ref (ad 0 0)), (1, .int (jI x)), (2, .int (jI k)), (3, .int (jI i))]) hx hb dX8_itemAt_78 hl (by decide) rfl (fun ls hl => ?_)
              refine lv_aloadN hx hb dX8_itemAt_80 (lv_at hl 0 rfl) ?_
              refine lv_ifnonnullN hx hb dX8_itemAt_82 ?_
              obtain ⟨sa, hsa⟩ := hT.1.2.2.2.1
              exact t_throw hx hb hlT hown (by decide +kernel) (hts (.classLink RX8 196 eS) (by decide +kernel)) (hts (.initialized eS) (by decide +kernel)) hsa (fun w hq => hts w (List.mem_cons_of_mem _ (List.mem_append_right _ hq))) (by decide +kernel) hT.2.2.1.2.2 hT (by decide +kernel) hw hS (hl.1.trans hml.symm) dX8_itemAt_85 dX8_itemAt_88 dX8_itemAt_89 dX8_itemAt_91 dX8_itemAt_94 hex (Nat.le_of_ble_eq_true rfl) (Nat.le_of_ble_eq_true rfl) (by show _ ≤ (1 : Nat); omega) (by show _ ≤ (6 : Nat); omega) hlocks (by decide) (by omega) (by omega)
            · refine lv_astore (lv' := [(5, .ref (ad 26 r16)), (4, .ref (ad 15 z1)), (0, .ref (ad 0 0)), (1, .int (jI x)), (2, .int (jI k)), (3, .int (jI i))]) hx hb dX8_itemAt_78 hl (by decide) rfl (fun ls hl => ?_)
              refine lv_aload hx hb dX8_itemAt_80 (lv_at hl 0 rfl) ?_
              refine lv_ifnonnull (tgt := 95) hx hb dX8_itemAt_82 (by decide) ?_
              refine lv_iload_n hx hb dX8_itemAt_95 rfl (lv_at hl 5 rfl) ?_
              refine lv_aload hx hb dX8_itemAt_96 (lv_at hl 0 rfl) ?_
              refine x_geto hx hb hf5 hw (by omega) (by omega) sl_26_0 lk161 dX8_itemAt_98 ?_
              have f17 : 0 ≤ ln r16 ∧ ln r16 ≤ 12 := hLn r16
              refine x_alenl hx hb hK.1 hw (by omega) (by omega) ar_27 (show lenE ln 27 r16 = ln r16 from rfl) (by omega) dX8_itemAt_101 ?_
              refine gos_i (run_S (As := [.int (jI i), .int (jI (ln r16))]) (rest := []) hx hb hml hown hts (c_X8_isBelow l D tc base ad cnt X Y ln i (ln r16) (by omega) (by omega)) (cwS 2 hts gX8_itemAt_X8_isBelow rfl rfl rfl (by first | exact hd_X8_isBelow | decide +kernel) ⟨Nat.le_of_ble_eq_true rfl, Nat.le_of_ble_eq_true rfl⟩) hK hw rfl hl.1 rfl (Nat.le_of_ble_eq_true rfl) dX8_itemAt_102 ⟨(by show _ ≤ (1 : Nat); omega), (by show _ ≤ (6 : Nat); omega)⟩) hS (fun z18 u19 H locs p20 hw hS => ?_)
              obtain ⟨eu19, p20⟩ := p20
              subst eu19
              rcases p20 with ⟨ez18, p20⟩ | ⟨ez18, p20⟩
              · subst ez18
                refine x_if_neT (tgt := 118) hx hb (by omega) (by decide) dX8_itemAt_105 (by decide) ?_
                refine lv_aload hx hb dX8_itemAt_118 (lv_at hl 0 rfl) ?_
                refine x_geto hx hb hf5 hw (by omega) (by omega) sl_26_0 lk161 dX8_itemAt_120 ?_
                refine lv_iload_n hx hb dX8_itemAt_123 rfl (lv_at hl 5 rfl) ?_
                have f21 : 0 ≤ ln r16 ∧ ln r16 ≤ 12 := hLn r16
                refine x_lald hx hb hK.1 hw (by omega) (by omega) ar_27 (show lenE ln 27 r16 = ln r16 from rfl) (by omega) (by omega) (by omega) dX8_itemAt_124 ?_
                have f22 : (-9223372036854775808) ≤ X 27 r16 i ∧ X 27 r16 i ≤ 9223372036854775807 := hR 27 r16 i
                refine vx_ret ?_
                refine ret_l (mc := 1) (ms := 6) hx hb hr hlocks hw hS (by first | exact Nat.le_of_ble_eq_true rfl | omega) (by first | exact Nat.le_of_ble_eq_true rfl | omega) dX8_itemAt_125 ?_
                exact ⟨rfl, by omega⟩
              · subst ez18
                refine x_if_neF (tgt := 118) hx hb (by omega) (by decide) dX8_itemAt_105 (by decide) ?_
                obtain ⟨sa, hsa⟩ := hT.1.2.2.2.2
                exact t_throw hx hb hlT hown (by decide +kernel) (hts (.classLink RX8 188 eI) (by decide +kernel)) (hts (.initialized eI) (by decide +kernel)) hsa (fun w hq => hts w (List.mem_cons_of_mem _ (List.mem_append_left _ (List.mem_append_right _ hq)))) (by decide +kernel) hT.2.2.1.2.1 hT (by decide +kernel) hw hS (hl.1.trans hml.symm) dX8_itemAt_108 dX8_itemAt_111 dX8_itemAt_112 dX8_itemAt_114 dX8_itemAt_117 hex (Nat.le_of_ble_eq_true rfl) (Nat.le_of_ble_eq_true rfl) (by show _ ≤ (1 : Nat); omega) (by show _ ≤ (6 : Nat); omega) hlocks (by decide) (by omega) (by omega)
          · subst ez12
            refine x_if_neF (tgt := 71) hx hb (by omega) (by decide) dX8_itemAt_58 (by decide) ?_
            obtain ⟨sa, hsa⟩ := hT.1.2.2.1
            exact t_throw hx hb hlT hown (by decide +kernel) (hts (.classLink RX8 196 eS) (by decide +kernel)) (hts (.initialized eS) (by decide +kernel)) hsa (fun w hq => hts w (List.mem_cons_of_mem _ (List.mem_append_right _ hq))) (by decide +kernel) hT.2.2.1.2.2 hT (by decide +kernel) hw hS (hl.1.trans hml.symm) dX8_itemAt_61 dX8_itemAt_64 dX8_itemAt_65 dX8_itemAt_67 dX8_itemAt_70 hex (Nat.le_of_ble_eq_true rfl) (Nat.le_of_ble_eq_true rfl) (by show _ ≤ (1 : Nat); omega) (by show _ ≤ (6 : Nat); omega) hlocks (by decide) (by omega) (by omega)
      · subst ez6
        refine x_if_neF (tgt := 45) hx hb (by omega) (by decide) dX8_itemAt_32 (by decide) ?_
        obtain ⟨sa, hsa⟩ := hT.1.2.1
        exact t_throw hx hb hlT hown (by decide +kernel) (hts (.classLink RX8 188 eI) (by decide +kernel)) (hts (.initialized eI) (by decide +kernel)) hsa (fun w hq => hts w (List.mem_cons_of_mem _ (List.mem_append_left _ (List.mem_append_right _ hq)))) (by decide +kernel) hT.2.2.1.2.1 hT (by decide +kernel) hw hS (hl.1.trans hml.symm) dX8_itemAt_35 dX8_itemAt_38 dX8_itemAt_39 dX8_itemAt_41 dX8_itemAt_44 hex (Nat.le_of_ble_eq_true rfl) (Nat.le_of_ble_eq_true rfl) (by show _ ≤ (1 : Nat); omega) (by show _ ≤ (6 : Nat); omega) hlocks (by decide) (by omega) (by omega)
end
section
section
def wsL_at_r1 : List Cond := [Cond.classLink RL 13 "java/lang/IllegalArgumentException", Cond.classLink RL 15 "java/lang/IndexOutOfBoundsException", Cond.methodLink RL 7 yX8_at, Cond.instanceMethod yX8_at, Cond.selects RX8 yX8_at yX8_at, Cond.initialized RX8, Cond.code yX8_at cX8_at 5 (some .long), Cond.classLink RX8 181 "java/lang/IllegalArgumentException", Cond.initialized "java/lang/IllegalArgumentException", Cond.classLink RX8 188 "java/lang/IndexOutOfBoundsException", Cond.initialized "java/lang/IndexOutOfBoundsException", Cond.fieldLink RX8 97 "StateRecords$Thing" "type" "LStateRecords$Type;", Cond.fieldLink RX8 135 "StateRecords$Type" "lanes" "[I", Cond.fieldLink RX8 193 "StateRecords$Thing" "values" "[J", Cond.fieldLink RX8 158 "StateRecords$Thing" "rows" "[LStateRecords$Row;", Cond.constantLong RX8 88 (-1), Cond.fieldLink RX8 161 "StateRecords$Row" "items" "[J", Cond.methodLink RX8 177 yX8_thingNumbered, Cond.instanceMethod yX8_thingNumbered, Cond.selects RX8 yX8_thingNumbered yX8_thingNumbered, Cond.code yX8_thingNumbered cX8_thingNumbered 3 (some (.object "StateRecords$Thing")), Cond.fieldLink RX8 94 "StateRecords" "thingCount" "I", Cond.fieldLink RX8 17 "StateRecords" "things" "[LStateRecords$Thing;", Cond.methodLink RX8 104 yX7_hasField]
def wsL_at_r2 : List Cond := [Cond.instanceMethod yX7_hasField, Cond.selects RX7 yX7_hasField yX7_hasField, Cond.initialized RX7, Cond.code yX7_hasField cX7_hasField 2 (some .boolean), Cond.fieldLink RX7 36 "StateRecords$Type" "fieldCount" "I", Cond.static yX8_isBelow, Cond.code yX8_isBelow cX8_isBelow 2 (some .boolean), Cond.methodLink RX8 150 yX8_isRowLane, Cond.static yX8_isRowLane, Cond.code yX8_isRowLane cX8_isRowLane 1 (some .boolean)]
def wsL_at : List Cond := .codeWith yL_at cL_at 5 (some .int) [(0, 9, 12, 13), (0, 9, 16, 15)] :: ((wsL_at_r1 ++ wsL_at_r2) ++ wsX60 ++ wsX70 ++ wsX50 ++ wsX80 ++ (vx_atS RX8 185 "java/lang/IllegalArgumentException" ["java/lang/RuntimeException", "java/lang/Exception"]).filter goodWord ++ (vx_atS RX8 192 "java/lang/IndexOutOfBoundsException" ["java/lang/RuntimeException", "java/lang/Exception"]).filter goodWord)
def wsL_itemAt_r1 : List Cond := [Cond.classLink RL 13 "java/lang/IllegalArgumentException", Cond.classLink RL 21 "java/lang/IllegalStateException", Cond.classLink RL 15 "java/lang/IndexOutOfBoundsException", Cond.methodLink RL 17 yX8_itemAt, Cond.instanceMethod yX8_itemAt, Cond.selects RX8 yX8_itemAt yX8_itemAt, Cond.initialized RX8, Cond.code yX8_itemAt cX8_itemAt 6 (some .long), Cond.classLink RX8 181 "java/lang/IllegalArgumentException", Cond.initialized "java/lang/IllegalArgumentException", Cond.classLink RX8 188 "java/lang/IndexOutOfBoundsException", Cond.initialized "java/lang/IndexOutOfBoundsException", Cond.classLink RX8 196 "java/lang/IllegalStateException", Cond.initialized "java/lang/IllegalStateException", Cond.fieldLink RX8 97 "StateRecords$Thing" "type" "LStateRecords$Type;", Cond.fieldLink RX8 135 "StateRecords$Type" "lanes" "[I", Cond.fieldLink RX8 158 "StateRecords$Thing" "rows" "[LStateRecords$Row;", Cond.fieldLink RX8 161 "StateRecords$Row" "items" "[J", Cond.methodLink RX8 177 yX8_thingNumbered, Cond.instanceMethod yX8_thingNumbered, Cond.selects RX8 yX8_thingNumbered yX8_thingNumbered, Cond.code yX8_thingNumbered cX8_thingNumbered 3 (some (.object "StateRecords$Thing")), Cond.fieldLink RX8 94 "StateRecords" "thingCount" "I", Cond.fieldLink RX8 17 "StateRecords" "things" "[LStateRecords$Thing;"]
def wsL_itemAt_r2 : List Cond := [Cond.methodLink RX8 104 yX7_hasField, Cond.instanceMethod yX7_hasField, Cond.selects RX7 yX7_hasField yX7_hasField, Cond.initialized RX7, Cond.code yX7_hasField cX7_hasField 2 (some .boolean), Cond.fieldLink RX7 36 "StateRecords$Type" "fieldCount" "I", Cond.static yX8_isBelow, Cond.code yX8_isBelow cX8_isBelow 2 (some .boolean), Cond.methodLink RX8 150 yX8_isRowLane, Cond.static yX8_isRowLane, Cond.code yX8_isRowLane cX8_isRowLane 1 (some .boolean), Cond.methodLink RX8 74 yX8_isBelow]
def wsL_itemAt : List Cond := .codeWith yL_itemAt cL_itemAt 6 (some .int) [(0, 11, 14, 13), (0, 11, 18, 21), (0, 11, 22, 15)] :: ((wsL_itemAt_r1 ++ wsL_itemAt_r2) ++ wsX60 ++ wsX70 ++ wsX50 ++ wsX80 ++ (vx_atS RX8 185 "java/lang/IllegalArgumentException" ["java/lang/RuntimeException", "java/lang/Exception"]).filter goodWord ++ (vx_atS RX8 192 "java/lang/IndexOutOfBoundsException" ["java/lang/RuntimeException", "java/lang/Exception"]).filter goodWord ++ (vx_atS RX8 200 "java/lang/IllegalStateException" ["java/lang/RuntimeException", "java/lang/Exception"]).filter goodWord)
set_option maxRecDepth 20000 in
theorem ggL_at_X8_at : GoodIn wsL_at wsX8_at := goodIn_ca (goodIn_ca (goodIn_r _ [7, 8, 9, 10, 11, 12, 13, 14, 15, 16, 17, 18, 19, 20, 6, 21, 22, 23, 24, 25, 26, 27, 28, 29, 30, 31, 32, 33, 34, 35, 36, 37, 38, 39, 40, 41, 42, 43, 44, 45, 46, 47, 48, 49, 50, 51, 52, 53, 54, 55, 56, 57, 58, 59, 60] (by decide +kernel) (by decide +kernel)) (goodIn_sub (fun _ h => List.mem_cons_of_mem _ (List.mem_append_left _ (List.mem_append_right _ h))) (by decide +kernel))) (goodIn_sub (fun _ h => List.mem_cons_of_mem _ (List.mem_append_right _ h)) (by decide +kernel))
set_option maxRecDepth 20000 in
theorem gL_at_X8_at : GoodIn wsL_at (wsV RL 7 RX8 yX8_at wsX8_at) := goodIn_app (goodIn_of _ (by decide +kernel)) ggL_at_X8_at
set_option maxRecDepth 20000 in
theorem ggL_itemAt_X8_itemAt : GoodIn wsL_itemAt wsX8_itemAt := goodIn_ca (goodIn_ca (goodIn_ca (goodIn_r _ [8, 9, 10, 11, 12, 13, 14, 15, 16, 17, 18, 19, 20, 21, 7, 22, 23, 24, 25, 26, 27, 28, 29, 30, 31, 32, 33, 34, 35, 36, 37, 38, 39, 40, 41, 42, 43, 44, 45, 46, 47, 48, 49, 50, 51, 52, 53, 54, 55, 56, 57, 58, 59, 60, 61, 62] (by decide +kernel) (by decide +kernel)) (goodIn_sub (fun _ h => List.mem_cons_of_mem _ (List.mem_append_left _ (List.mem_append_left _ (List.mem_append_right _ h)))) (by decide +kernel))) (goodIn_sub (fun _ h => List.mem_cons_of_mem _ (List.mem_append_left _ (List.mem_append_right _ h))) (by decide +kernel))) (goodIn_sub (fun _ h => List.mem_cons_of_mem _ (List.mem_append_right _ h)) (by decide +kernel))
set_option maxRecDepth 20000 in
theorem gL_itemAt_X8_itemAt : GoodIn wsL_itemAt (wsV RL 17 RX8 yX8_itemAt wsX8_itemAt) := goodIn_app (goodIn_of _ (by decide +kernel)) ggL_itemAt_X8_itemAt
end
section
/-! the law's two readers: what they throw is caught -/
theorem KH_of {l : Launch} {D : va_G} {tc : Nat → ClassId} {base : Nat} {y : MethodName} {ws ws' : List Cond} {rm : Room} {av : List Value} {u : St} {mc ms : Nat} {Qc : Array Value → State → Outcome → State → Prop} {XC : String → State → State → Prop} {cc : ByteArray} {maxL : Nat} {ret : Option FieldType} {hh : List (Nat × Nat × Nat × Nat)}
    (hy : plainName y.cls = true) (hw : ws = Cond.codeWith y cc maxL ret hh :: ws') (hsl : (lg_sl av).length ≤ maxL)
    (body : ∀ (p : Program) (e : Env) (s : State) (m : MethodId) (below : List Frame) (meth : Method) (c : Code) (ls : Array Slot), p.tables.exec = Jvm.exec → c.code = cc → meth.sig.returnType = ret → c.maxLocals = maxL → s.vm.findClass y.cls = some m.cls → (∀ w ∈ ws, w.before av.toArray s = true) → meth.locks = false → c.exceptionTable.toList = tableOf hh → lv_has ls maxL (lv_args 0 av) → Kx D tc s → TK base s s.heap → wd D tc base u s.heap → va_S (frA base) s.heap s.heap [] →
      W p l e rm s m av.toArray below meth c s.heap [] 0 0 (vx_MQ below Qc XC av.toArray s mc ms (frA base)) (F0 m 0 ls [])) : vx_Met l y ws rm (PcT D tc base u av) Qc XC mc ms (frA base) := by
  refine vx_ofWH (cc := cc) (maxL := maxL) (ret := ret) (hh := hh) hy hw ?_
  intro p e s m args below meth c s₁ B hml hv
  obtain ⟨rfl, hW, hK, hT⟩ := hv
  have hl := lv_entry av (n := maxL) hsl
  rw [lg_entry_eq]
  exact body p e s m below meth c _ B.exec B.bytes B.returns hml (findClass_of_methodNamed B.named) (atoms_spec (ws := ws) B.pre) B.notSynchronized (vx_table (x := y) B (atoms_spec (ws := ws) B.pre _ (by rw [hw]; exact List.mem_cons_self))) hl hK hT hW va_S.rf
def XF (base : Nat) : String → State → State → Prop := vx_X (fun (_ : Unit) => False) (fun _ _ _ => True) (frA base)
theorem run_T {p : Program} {l : Launch} {e : Env} {R : Room} {s : State} {m : MethodId} {args : Array Value} {below : List Frame} {meth : Method} {c : Code} {H : Heap} {locs : List Loc} {cells slots : Nat}
    {cc bytes : ByteArray} {pc nL maxL mc ms n index : Nat} {ls : Array Slot} {rest st0 As : List Value} {D : va_G} {tc : Nat → ClassId} {base : Nat} {ad : Nat → Int → Nat} {cnt : Nat → Int} {X : Nat → Int → Int → Int} {Y : Nat → Int → Int → Option Int} {ln : Int → Int} {own : String} {N ci : Nat} {Ts ws : List Cond} {rm : Room} {ret : Option FieldType} {y : MethodName} {k j : Nat} {i : Int}
    {Qc : Array Value → State → Outcome → State → Prop} {XC : String → State → State → Prop} {c1 t1 : Nat} {q : vw_C} (hx : p.tables.exec = Jvm.exec) (hb : c.code = cc) (hml : c.maxLocals = nL) (hown : s.vm.findClass own = some m.cls) (hts : ∀ w ∈ Ts, w.before args s = true) (hM : vx_Met l y ws rm (PcT D tc base (ad, cnt, X, Y, ln) (.ref (ad k i) :: As)) Qc XC mc ms (frA base)) (cw : CallW R s args own q.1 index y bytes maxL ret ws rm mc ms n)
    (hK : Kx D tc s) (hT : TK base s s.heap) (hS : va_S (frA base) s.heap H locs) (hw : wd D tc base (ad, cnt, X, Y, ln) H) (h0 : 0 ≤ i) (h1 : i < cnt k) (hs : SL k j ci c1 t1 N) (hc : vwCl[ci]? = some q) (hn : As.length = n) (hl : ls.size = nL) (hstack : st0 = As.reverse ++ .ref (ad k i) :: rest) (hrm : (rest.map fun v => v.category).sum ≤ 8) (hdg : decode cc pc = .ok (.invokevirtual index, 3)) (hf : cells + mc ≤ R.cells ∧ slots + ms ≤ R.slots) :
    vx_Run p l e R s m args below meth c H locs cells slots mc ms (F0 m pc ls st0) rest (Qc (Value.ref (ad k i) :: As).toArray) XC (frA base) :=
  vx_runV ⟨hx, hb, hml, hown, hts⟩ hM cw ⟨PcT.blind, rcv hK hw h0 h1 hs hc, fun U hU hW => ⟨rfl, by rw [hU]; exact hw, hK.warm hW, by rw [hU]; exact hT.go hS hW⟩⟩ rfl hn hl hstack (lv_room hrm) hdg hf
end
section
set_option maxHeartbeats 4000000 in
set_option maxRecDepth 100000 in
theorem c_L_at (l : Launch) (hlT : l.stackTraces = false) (D : va_G) (tc : Nat → ClassId) (base : Nat) (ad : Nat → Int → Nat) (cnt : Nat → Int) (X : Nat → Int → Int → Int) (Y : Nat → Int → Int → Option Int) (ln : Int → Int) (hR : Rng X) (hFx : Fx cnt) (hLn : LnOK ln) (hCI : CInv cnt X Y ln) (x k : Int) (hqx : -2147483648 ≤ x ∧ x ≤ 2147483647) (hqk : -2147483648 ≤ k ∧ k ≤ 2147483647) : vx_Met l yL_at wsL_at ({ frames := 7, cells := 1, slots := 6, locals := 106 } : Room) (PcT D tc base (ad, cnt, X, Y, ln) [.ref (ad 0 0), .int (jI x), .int (jI k), .ref (ad 100 0)]) (QI D tc base (fun z u => ∃ X1 : Nat → Int → Int → Int, u = (ad, cnt, X1, Y, ln) ∧ Rng X1 ∧ Frm [10000] X X1 ∧ (0 ≤ z ∧ z ≤ 3))) (XF base) 1 6 (frA base) := by
  refine KH_of (cc := cL_at) (maxL := 5) (ret := some .int) (hh := [(0, 9, 12, 13), (0, 9, 16, 15)]) (by decide) rfl (Nat.le_of_ble_eq_true rfl) ?_
  intro p e s m below meth c ls hx hb hr hml hown hts hlocks htab hl hK hT hw hS
  have hown : s.vm.findClass RL = some m.cls := hown
  have hl : lv_has ls 5 [(0, .ref (ad 0 0)), (1, .int (jI x)), (2, .int (jI k)), (3, .ref (ad 100 0))] := hl
  have hc0 : cnt 0 = 1 := hFx.at 0 1 (by decide)
  have hc100 : cnt 100 = 1 := hFx.at 100 1 (by decide)
  refine lv_aload_n hx hb dL_at_0 rfl (lv_at hl 3 rfl) ?_
  refine lv_iconst (v := jI 0) hx hb dL_at_1 rfl ?_
  refine lv_aload_n hx hb dL_at_2 rfl (lv_at hl 0 rfl) ?_
  refine lv_iload_n hx hb dL_at_3 rfl (lv_at hl 1 rfl) ?_
  refine lv_iload_n hx hb dL_at_4 rfl (lv_at hl 2 rfl) ?_
  refine vx_calll (run_T (As := [.int (jI x), .int (jI k)]) (rest := [.int (jI 0), .ref (ad 100 0)]) hx hb hml hown hts (c_X8_at l hlT D tc base ad cnt X Y ln hR hFx hLn hCI x k hqx hqk) (cwV 2 hts gL_at_X8_at rfl rfl rfl (by first | exact hd_X8_at | decide +kernel) ⟨Nat.le_of_ble_eq_true rfl, Nat.le_of_ble_eq_true rfl⟩) hK hT hS hw (by omega) (by omega) sl_0_0 rfl rfl hl.1 rfl (Nat.le_of_ble_eq_true rfl) dL_at_5 ⟨Nat.le_of_ble_eq_true rfl, Nat.le_of_ble_eq_true rfl⟩) hS (fun q _ h => h) (fun q h => h) (fun q _ h => h) ?_ ?_
  · intro E ce q9 u9 t H1 locs1 ht hvm hp hB hz hk1 hS1 hcell hv hcl
    obtain ⟨hE, hw1⟩ := hB
    rw [ht] at hw1
    simp only [List.mem_cons, List.not_mem_nil, or_false] at hE
    rcases hE with rfl | rfl
    · refine vx_catch (name := eA) hown [] ⟨0, 9, 12, 13⟩ [⟨0, 9, 16, 15⟩] (by rw [htab]; rfl) (fun z hz => nomatch hz) (by decide) (by decide) (hts (.classLink RL 13 eA) (by decide +kernel)) (va_Nw.use rfl hT.2.2.1.1) hcell hv hcl ?_
      refine lv_astore (lv' := [(4, .ref q9), (0, .ref (ad 0 0)), (1, .int (jI x)), (2, .int (jI k)), (3, .ref (ad 100 0))]) hx hb dL_at_12 hl (by decide) rfl (fun ls hl => ?_)
      refine lv_iconst (v := jI 1) hx hb dL_at_14 rfl ?_
      refine vx_ret ?_
      exact ret_i (mc := 1) (ms := 6) (z := 1) hx hb hr hlocks hw1 hS1 (by omega) (by omega) dL_at_15 ⟨X, rfl, hR, Frm.rf, by omega⟩
    · refine vx_catch (name := eI) hown [⟨0, 9, 12, 13⟩] ⟨0, 9, 16, 15⟩ [] (by rw [htab]; rfl) (fun z hz => by rw [List.mem_singleton.mp hz]; exact Or.inr ⟨by decide, eA, hts (.classLink RL 13 eA) (by decide +kernel), hT.2.2.2.1.1⟩) (by decide) (by decide) (hts (.classLink RL 15 eI) (by decide +kernel)) (va_Nw.use rfl hT.2.2.1.2.1) hcell hv hcl ?_
      refine lv_astore (lv' := [(4, .ref q9), (0, .ref (ad 0 0)), (1, .int (jI x)), (2, .int (jI k)), (3, .ref (ad 100 0))]) hx hb dL_at_16 hl (by decide) rfl (fun ls hl => ?_)
      refine lv_iconst (v := jI 2) hx hb dL_at_18 rfl ?_
      refine vx_ret ?_
      exact ret_i (mc := 1) (ms := 6) (z := 2) hx hb hr hlocks hw1 hS1 (by omega) (by omega) dL_at_19 ⟨X, rfl, hR, Frm.rf, by omega⟩
  · intro r u9 t H1 locs1 ht hvm hp hB hz hk1 hS1
    obtain ⟨z, rfl, rfl, hz9⟩ := hp
    rw [ht] at hB
    refine x_last hx hb hK.1 hB hS1 (by omega) (by omega) ar_100 (len_E ar_100 (by first | exact Nat.ne_of_beq_eq_false rfl | decide)) (by omega) (by omega) (by omega) dL_at_8 (fun H locs hw hS => ?_)
    refine lv_goto (tgt := 20) hx hb dL_at_9 (by decide) ?_
    refine lv_iconst (v := jI 0) hx hb dL_at_20 rfl ?_
    refine vx_ret ?_
    exact ret_i (mc := 1) (ms := 6) (z := 0) hx hb hr hlocks hw hS (by omega) (by omega) dL_at_21 ⟨_, rfl, rng_set hR (show (-9223372036854775808) ≤ z ∧ z ≤ 9223372036854775807 by omega), Frm.set Frm.rf (by decide), by omega⟩

set_option maxHeartbeats 4000000 in
set_option maxRecDepth 100000 in
theorem c_L_itemAt (l : Launch) (hlT : l.stackTraces = false) (D : va_G) (tc : Nat → ClassId) (base : Nat) (ad : Nat → Int → Nat) (cnt : Nat → Int) (X : Nat → Int → Int → Int) (Y : Nat → Int → Int → Option Int) (ln : Int → Int) (hR : Rng X) (hFx : Fx cnt) (hLn : LnOK ln) (hCI : CInv cnt X Y ln) (x k i : Int) (hqx : -2147483648 ≤ x ∧ x ≤ 2147483647) (hqk : -2147483648 ≤ k ∧ k ≤ 2147483647) (hqi : -2147483648 ≤ i ∧ i ≤ 2147483647) : vx_Met l yL_itemAt wsL_itemAt ({ frames := 7, cells := 1, slots := 6, locals := 107 } : Room) (PcT D tc base (ad, cnt, X, Y, ln) [.ref (ad 0 0), .int (jI x), .int (jI k), .int (jI i), .ref (ad 100 0)]) (QI D tc base (fun z u => ∃ X1 : Nat → Int → Int → Int, u = (ad, cnt, X1, Y, ln) ∧ Rng X1 ∧ Frm [10000] X X1 ∧ (0 ≤ z ∧ z ≤ 3))) (XF base) 1 6 (frA base) := by
  refine KH_of (cc := cL_itemAt) (maxL := 6) (ret := some .int) (hh := [(0, 11, 14, 13), (0, 11, 18, 21), (0, 11, 22, 15)]) (by decide) rfl (Nat.le_of_ble_eq_true rfl) ?_
  intro p e s m below meth c ls hx hb hr hml hown hts hlocks htab hl hK hT hw hS
  have hown : s.vm.findClass RL = some m.cls := hown
  have hl : lv_has ls 6 [(0, .ref (ad 0 0)), (1, .int (jI x)), (2, .int (jI k)), (3, .int (jI i)), (4, .ref (ad 100 0))] := hl
  have hc0 : cnt 0 = 1 := hFx.at 0 1 (by decide)
  have hc100 : cnt 100 = 1 := hFx.at 100 1 (by decide)
  refine lv_aload hx hb dL_itemAt_0 (lv_at hl 4 rfl) ?_
  refine lv_iconst (v := jI 0) hx hb dL_itemAt_2 rfl ?_
  refine lv_aload_n hx hb dL_itemAt_3 rfl (lv_at hl 0 rfl) ?_
  refine lv_iload_n hx hb dL_itemAt_4 rfl (lv_at hl 1 rfl) ?_
  refine lv_iload_n hx hb dL_itemAt_5 rfl (lv_at hl 2 rfl) ?_
  refine lv_iload_n hx hb dL_itemAt_6 rfl (lv_at hl 3 rfl) ?_
  refine vx_calll (run_T (As := [.int (jI x), .int (jI k), .int (jI i)]) (rest := [.int (jI 0), .ref (ad 100 0)]) hx hb hml hown hts (c_X8_itemAt l hlT D tc base ad cnt X Y ln hR hFx hLn hCI x k i hqx hqk hqi) (cwV 3 hts gL_itemAt_X8_itemAt rfl rfl rfl (by first | exact hd_X8_itemAt | decide +kernel) ⟨Nat.le_of_ble_eq_true rfl, Nat.le_of_ble_eq_true rfl⟩) hK hT hS hw (by omega) (by omega) sl_0_0 rfl rfl hl.1 rfl (Nat.le_of_ble_eq_true rfl) dL_itemAt_7 ⟨Nat.le_of_ble_eq_true rfl, Nat.le_of_ble_eq_true rfl⟩) hS (fun q _ h => h) (fun q h => h) (fun q _ h => h) ?_ ?_
  · intro E ce q9 u9 t H1 locs1 ht hvm hp hB hz hk1 hS1 hcell hv hcl
    obtain ⟨hE, hw1⟩ := hB
    rw [ht] at hw1
    simp only [List.mem_cons, List.not_mem_nil, or_false] at hE
    rcases hE with rfl | rfl | rfl
    · refine vx_catch (name := eA) hown [] ⟨0, 11, 14, 13⟩ [⟨0, 11, 18, 21⟩, ⟨0, 11, 22, 15⟩] (by rw [htab]; rfl) (fun z hz => nomatch hz) (by decide) (by decide) (hts (.classLink RL 13 eA) (by decide +kernel)) (va_Nw.use rfl hT.2.2.1.1) hcell hv hcl ?_
      refine lv_astore (lv' := [(5, .ref q9), (0, .ref (ad 0 0)), (1, .int (jI x)), (2, .int (jI k)), (3, .int (jI i)), (4, .ref (ad 100 0))]) hx hb dL_itemAt_14 hl (by decide) rfl (fun ls hl => ?_)
      refine lv_iconst (v := jI 1) hx hb dL_itemAt_16 rfl ?_
      refine vx_ret ?_
      exact ret_i (mc := 1) (ms := 6) (z := 1) hx hb hr hlocks hw1 hS1 (by omega) (by omega) dL_itemAt_17 ⟨X, rfl, hR, Frm.rf, by omega⟩
    · refine vx_catch (name := eI) hown [⟨0, 11, 14, 13⟩, ⟨0, 11, 18, 21⟩] ⟨0, 11, 22, 15⟩ [] (by rw [htab]; rfl) (fun z hz => by exact (List.mem_cons.mp hz).elim (fun h => by rw [h]; exact Or.inr ⟨by decide, eA, hts (.classLink RL 13 eA) (by decide +kernel), hT.2.2.2.1.1⟩) (fun h => by rw [List.mem_singleton.mp h]; exact Or.inr ⟨by decide, eS, hts (.classLink RL 21 eS) (by decide +kernel), hT.2.2.2.1.2.2⟩)) (by decide) (by decide) (hts (.classLink RL 15 eI) (by decide +kernel)) (va_Nw.use rfl hT.2.2.1.2.1) hcell hv hcl ?_
      refine lv_astore (lv' := [(5, .ref q9), (0, .ref (ad 0 0)), (1, .int (jI x)), (2, .int (jI k)), (3, .int (jI i)), (4, .ref (ad 100 0))]) hx hb dL_itemAt_22 hl (by decide) rfl (fun ls hl => ?_)
      refine lv_iconst (v := jI 3) hx hb dL_itemAt_24 rfl ?_
      refine vx_ret ?_
      exact ret_i (mc := 1) (ms := 6) (z := 3) hx hb hr hlocks hw1 hS1 (by omega) (by omega) dL_itemAt_25 ⟨X, rfl, hR, Frm.rf, by omega⟩
    · refine vx_catch (name := eS) hown [⟨0, 11, 14, 13⟩] ⟨0, 11, 18, 21⟩ [⟨0, 11, 22, 15⟩] (by rw [htab]; rfl) (fun z hz => by rw [List.mem_singleton.mp hz]; exact Or.inr ⟨by decide, eA, hts (.classLink RL 13 eA) (by decide +kernel), hT.2.2.2.1.2.1⟩) (by decide) (by decide) (hts (.classLink RL 21 eS) (by decide +kernel)) (va_Nw.use rfl hT.2.2.1.2.2) hcell hv hcl ?_
      refine lv_astore (lv' := [(5, .ref q9), (0, .ref (ad 0 0)), (1, .int (jI x)), (2, .int (jI k)), (3, .int (jI i)), (4, .ref (ad 100 0))]) hx hb dL_itemAt_18 hl (by decide) rfl (fun ls hl => ?_)
      refine lv_iconst (v := jI 2) hx hb dL_itemAt_20 rfl ?_
      refine vx_ret ?_
      exact ret_i (mc := 1) (ms := 6) (z := 2) hx hb hr hlocks hw1 hS1 (by omega) (by omega) dL_itemAt_21 ⟨X, rfl, hR, Frm.rf, by omega⟩
  · intro r u9 t H1 locs1 ht hvm hp hB hz hk1 hS1
    obtain ⟨z, rfl, rfl, hz9⟩ := hp
    rw [ht] at hB
    refine x_last hx hb hK.1 hB hS1 (by omega) (by omega) ar_100 (len_E ar_100 (by first | exact Nat.ne_of_beq_eq_false rfl | decide)) (by omega) (by omega) (by omega) dL_itemAt_10 (fun H locs hw hS => ?_)
    refine lv_goto (tgt := 26) hx hb dL_itemAt_11 (by decide) ?_
    refine lv_iconst (v := jI 0) hx hb dL_itemAt_26 rfl ?_
    refine vx_ret ?_
    exact ret_i (mc := 1) (ms := 6) (z := 0) hx hb hr hlocks hw hS (by omega) (by omega) dL_itemAt_27 ⟨_, rfl, rng_set hR (show (-9223372036854775808) ≤ z ∧ z ≤ 9223372036854775807 by omega), Frm.set Frm.rf (by decide), by omega⟩
end
end
section
section
/-! new cells hold nothing: what is there before anything was written -/
def Zr (cnt : Nat → Int) (X : Nat → Int → Int → Int) (Y : Nat → Int → Int → Option Int) : Prop := ∀ k i j, (i < 0 ∨ cnt k ≤ i) → X k i j = 0 ∧ Y k i j = none
def rawV (g : Nat → Nat) (c : Nat × Nat) : Value := if c.1 = 0 then .int 0 else if c.1 = 1 then .long 0 else if c.1 = 3 then .ref (g c.2) else .null
def rawE (tc : Nat → ClassId) (g : Nat → Nat) (k : Nat) : va_E :=
  if (lay k).1 = 0 then
    (if (lay k).2.2.1.1 = 0 then .inl (tc (lay k).2.2.1.2.1, ((lay k).2.2.2).toNat, .inl (fun _ => 0))
    else if (lay k).2.2.1.1 = 1 then .inl (tc (lay k).2.2.1.2.1, ((lay k).2.2.2).toNat, .inr (.inl (fun _ => 0)))
    else .inl (tc (lay k).2.2.1.2.1, ((lay k).2.2.2).toNat, .inr (.inr (.inr (.inr (fun _ => none))))))
  else .inr ((lay k).1 - 1, (List.range (lay k).2.1.length).map (fun j => rawV g (slo k j)))
section RW
variable {D : va_G} {tc : Nat → ClassId} {base : Nat} {E F : va_W} {H : Heap} {ad ad1 : Nat → Int → Nat} {cnt : Nat → Int} {X : Nat → Int → Int → Int} {Y : Nat → Int → Int → Option Int} {ln : Int → Int} {KS : List Nat} {n : Int} {f : Nat → Nat} {k : Nat}
theorem ceE_raw (hk : k ≠ 27) (hX : ∀ j, X k n j = 0) (hY : ∀ j, Y k n j = none) : ceE tc ad X Y ln k n = rawE tc (fun t => ad t n) k := by
  have hX2 : X k n = fun _ => 0 := funext hX
  have hY2 : Y k n = fun _ => none := funext hY
  unfold ceE rawE lenE
  rw [if_neg hk, hX2, hY2]
  split
  · split
    · rfl
    · split
      · rfl
      · rfl
  · congr 2
    refine List.map_congr_left (fun j hj => ?_)
    unfold slV rawV
    rw [hX2, hY2]
    rfl
theorem growz (hw : wx D tc base (ad, cnt, X, Y, ln) (E ++ F) H) (h0 : 0 ≤ n) (hn : ∀ k ∈ KS, cnt k = n) (h27 : 27 ∉ KS) (ho : Own cnt) (hz : Zr cnt X Y) (hF : F = KS.map fun k => (f k, rawE tc (fun t => up2 ad KS n f t n) k)) : wx D tc base (up2 ad KS n f, upc cnt KS, X, Y, ln) E H := by
  have hrf := wd_ref (wx_wd hw)
  refine adopt (NL := KS.map fun k => (k, n)) hw ?_ (fun k i g0 g1 => ?_) ho (fun k i => ?_) ?_
  · rw [hF]
    unfold wlE
    rw [List.map_map]
    refine List.map_congr_left (fun k hk => ?_)
    have h1 := hz k n
    rw [Function.comp]
    show (f k, rawE tc (fun t => up2 ad KS n f t n) k) = (up2 ad KS n f k n, ceE tc (up2 ad KS n f) X Y ln k n)
    rw [ceE_raw (fun q => h27 (q ▸ hk)) (fun j => (h1 j (Or.inr (by rw [hn k hk]; omega))).1) (fun j => (h1 j (Or.inr (by rw [hn k hk]; omega))).2), up2_s hk]
  · have hne : ¬ (k ∈ KS ∧ i = n) := fun q => by have := hn k q.1; omega
    exact ⟨by simp only [up2, if_neg hne], rfl, rfl, fun _ => rfl⟩
  · simp only [upc]
    by_cases hk : k ∈ KS
    · have := hn k hk
      rw [if_pos hk]
      constructor
      · intro h
        by_cases hi : i = n
        · exact Or.inr (List.mem_map.mpr ⟨k, hk, by rw [hi]⟩)
        · exact Or.inl (by omega)
      · rintro (h | h)
        · omega
        · obtain ⟨k', -, e⟩ := List.mem_map.mp h
          cases e
          omega
    · rw [if_neg hk]
      constructor
      · exact fun h => Or.inl h
      · rintro (h | h)
        · exact h
        · obtain ⟨k', hk', e⟩ := List.mem_map.mp h
          cases e
          exact absurd hk' hk
  · intro k i j t r g0 g1 hr e
    by_cases hm : k ∈ KS
    · by_cases hi : i = n
      · have := (hz k i j (Or.inr (by rw [hn k hm]; omega))).2
        rw [this] at e
        cases e
      · rw [upc_s hm] at g1
        have h5 := hn k hm
        have := hrf k i j t r g0 (by omega) hr e
        have h2 : cnt t ≤ upc cnt KS t := upc_le
        omega
    · rw [upc_k hm] at g1
      have := hrf k i j t r g0 g1 hr e
      have h2 : cnt t ≤ upc cnt KS t := upc_le
      omega
theorem Zr.up (hz : Zr cnt X Y) : Zr (upc cnt KS) X Y := fun k i j h => hz k i j (by have : cnt k ≤ upc cnt KS k := upc_le; omega)
theorem Zr.setX {i j v : Int} (hz : Zr cnt X Y) (h0 : 0 ≤ i) (h1 : i < cnt k) : Zr cnt (u3 X k i j v) Y := fun k' i' j' h => by
  refine ⟨?_, (hz k' i' j' h).2⟩
  simp only [u3]
  rw [if_neg (fun q => by obtain ⟨rfl, rfl, rfl⟩ := q; omega)]
  exact (hz k' i' j' h).1
theorem Zr.setY {i j : Int} {v : Option Int} (hz : Zr cnt X Y) (h0 : 0 ≤ i) (h1 : i < cnt k) : Zr cnt X (u3 Y k i j v) := fun k' i' j' h => by
  refine ⟨(hz k' i' j' h).1, ?_⟩
  simp only [u3]
  rw [if_neg (fun q => by obtain ⟨rfl, rfl, rfl⟩ := q; omega)]
  exact (hz k' i' j' h).2
theorem Own.up (h : Own cnt) (h1 : ∀ p ∈ ownL, p.1 ∈ KS → p.2 ∈ KS) (h2 : ∀ k ∈ KS, ¬ ((lay k).1 = 0 ∧ (lay k).2.2.1.1 = 9)) : Own (upc cnt KS) := by
  refine ⟨fun p hp => ?_, fun k g1 g2 => by rw [upc_k (fun q => h2 k q ⟨g1, g2⟩)]; exact h.2 k g1 g2⟩
  have h3 := h.1 p hp
  by_cases hm : p.1 ∈ KS
  · rw [upc_s hm, upc_s (h1 p hp hm)]
    omega
  · rw [upc_k hm]
    have : cnt p.2 ≤ upc cnt KS p.2 := upc_le
    omega
end RW
end
section
/-! a store beside cells that are being made -/
theorem wx_pos {D : va_G} {tc : Nat → ClassId} {base : Nat} {ad : Nat → Int → Nat} {cnt : Nat → Int} {X : Nat → Int → Int → Int} {R : Nat → Int → Int → Option Int} {ln : Int → Int} {E : va_W} {H : Heap} {k : Nat} {i : Int}
    (hw : wx D tc base (ad, cnt, X, R, ln) E H) (h0 : 0 ≤ i) (h1 : i < cnt k) : ∃ (ws : va_W) (q0 : Nat), va_P D vwCl ws H ∧ va_D (fun q => base ≤ q) ws ∧ ws[q0]? = some (ad k i, ceE tc ad X R ln k i) ∧
      (∀ (k' : Nat) (i' : Int), 0 ≤ i' → i' < cnt k' → ∃ q1 : Nat, ws[q1]? = some (ad k' i', ceE tc ad X R ln k' i')) ∧
      ∀ (X' : Nat → Int → Int → Int) (R' : Nat → Int → Int → Option Int) (H' : Heap), base ≤ H'.size → (∀ k' i', ¬ (k' = k ∧ i' = i) → X' k' i' = X k' i' ∧ R' k' i' = R k' i') → RefOK cnt R' → va_P D vwCl (ws.set q0 (ad k i, ceE tc ad X' R' ln k i)) H' → va_D (fun q => base ≤ q) (ws.set q0 (ad k i, ceE tc ad X' R' ln k i)) → wx D tc base (ad, cnt, X', R', ln) E H' := by
  obtain ⟨⟨RL, hRL, hP, hD⟩, -, -⟩ := hw
  have hget : ∀ (k' : Nat) (i' : Int), 0 ≤ i' → i' < cnt k' → ∃ q1 : Nat, RL[q1]? = some (k', i') ∧ (wlE tc ad X R ln RL ++ E)[q1]? = some (ad k' i', ceE tc ad X R ln k' i') := by
    intro k' i' g0 g1
    obtain ⟨q1, hq1⟩ := List.getElem?_of_mem ((hRL k' i').mpr ⟨g0, g1⟩)
    have hlt : q1 < (wlE tc ad X R ln RL).length := by
      have := (List.getElem?_eq_some_iff.mp hq1).1
      simpa [wlE] using this
    exact ⟨q1, hq1, by rw [List.getElem?_append_left hlt]; simp [wlE, hq1]⟩
  obtain ⟨q0, hr, hq⟩ := hget k i h0 h1
  have hq0 : q0 < (wlE tc ad X R ln RL).length := by
    have := (List.getElem?_eq_some_iff.mp hr).1
    simpa [wlE] using this
  refine ⟨wlE tc ad X R ln RL ++ E, q0, hP, hD, hq, fun k' i' g0 g1 => by obtain ⟨q1, -, h⟩ := hget k' i' g0 g1; exact ⟨q1, h⟩, ?_⟩
  intro X' R' H' hb hne hrf hP' hD'
  have hset : (wlE tc ad X R ln RL ++ E).set q0 (ad k i, ceE tc ad X' R' ln k i) = wlE tc ad X' R' ln RL ++ E := by
    rw [List.set_append_left _ _ hq0]
    congr 1
    apply List.ext_getElem?
    intro p
    by_cases hp : p = q0
    · subst hp
      rw [List.getElem?_set_self hq0]
      simp [wlE, hr]
    · rw [List.getElem?_set_ne (Ne.symm hp)]
      simp only [wlE, List.getElem?_map]
      cases hb2 : RL[p]? with
      | none => rfl
      | some r =>
        obtain ⟨rk, ri⟩ := r
        have hn : ¬ (rk = k ∧ ri = i) := by
          rintro ⟨rfl, rfl⟩
          have hlt : p < (wlE tc ad X R ln RL).length := by
            have := (List.getElem?_eq_some_iff.mp hb2).1
            simpa [wlE] using this
          have h2 : (wlE tc ad X R ln RL ++ E)[p]? = some (ad rk ri, ceE tc ad X R ln rk ri) := by rw [List.getElem?_append_left hlt]; simp [wlE, hb2]
          exact hp (hD.1 p q0 _ _ h2 hq rfl)
        have h3 := hne rk ri hn
        simp only [Option.map_some]
        rw [ceE_congr h3.1 h3.2]
  rw [hset] at hP' hD'
  exact ⟨⟨RL, hRL, hP', hD'⟩, hrf, hb⟩
theorem nx_aast {p : Program} {l : Launch} {e : Env} {R : Room} {s : State} {m : MethodId} {args : Array Value} {below : List Frame} {meth : Method} {c : Code} {H H0 : Heap} {locs : List Loc} {cells slots : Nat} {Q : State → Prop}
    {cc : ByteArray} {pc : Nat} {ls : Array Slot} {rest : List Value} {D : va_G} {tc : Nat → ClassId} {base : Nat} {ad : Nat → Int → Nat} {cnt : Nat → Int} {X : Nat → Int → Int → Int} {Y : Nat → Int → Int → Option Int} {ln : Int → Int} {E : va_W} {k tgt : Nat} {i z len : Int}
    (hx : p.tables.exec = Jvm.exec) (hb : c.code = cc) (hK : va_K D vwCl (tysL tc) s) (hw : wx D tc base (ad, cnt, X, Y, ln) E H) (hS : va_S (fun q => base ≤ q) H0 H locs) (hbs : base ≤ H0.size) (h0 : 0 ≤ i) (h1 : i < cnt k) {t0 cj j1 c1 t1 : Nat} {r : Int} {cl1 : vw_C} (hs : AR k 4 t0 tgt len) (ht : (tysL tc)[t0]? = some (tc t0, .object cl1.1)) (hc : vwCl[cj]? = some cl1) {N1 : Nat} (ho : SL tgt j1 cj c1 t1 N1) (hl : lenE ln k i = len) (z0 : 0 ≤ z) (z1 : z < len) (z2 : z ≤ 2147483647) (g0 : 0 ≤ r) (g1 : r < cnt tgt) (hdg : decode cc pc = .ok (.aastore, 1))
    (kk : ∀ (H1 : Heap) (locs1 : List Loc), wx D tc base (ad, cnt, X, u3 Y k i z (some r), ln) E H1 → va_S (fun q => base ≤ q) H0 H1 locs1 → W p l e R s m args below meth c H1 locs1 cells slots Q (F0 m (pc + 1) ls rest)) : W p l e R s m args below meth c H locs cells slots Q (F0 m pc ls (.ref (ad tgt r) :: .int (jI z) :: .ref (ad k i) :: rest)) := by
  obtain ⟨ws, q0, hP, hD, hq, hall, hset⟩ := wx_pos hw h0 h1
  obtain ⟨q1, hq1⟩ := hall tgt r g0 g1
  rw [ob_E ho] at hq1
  rw [ar_rE hs, hl] at hq
  refine va_astq hx hb hK hP hD hS q0 t0 q1 cj hq ht hq1 hc (jI_in z0 (by omega) z2) hdg (fun H1 locs1 hP1 hD1 hS1 => ?_)
  have he : ceE tc ad X (u3 Y k i z (some r)) ln k i = .inl (tc t0, len.toNat, .inr (.inr (.inr (.inr (va_up (fun q : Nat => (Y k i q).map (ad tgt)) (jI z).toNatClampNeg (some (ad tgt r))))))) := by
    rw [ar_rE hs, hl]
    congr 7
    funext q
    have e1 := jI_cl z0 z2
    by_cases hq2 : q = (jI z).toNatClampNeg
    · subst hq2
      simp [va_up, u3, e1]
    · have hq3 : ¬ ((q : Int) = z) := by omega
      simp [va_up, u3, hq2, hq3]
  rw [← he] at hP1 hD1
  refine kk H1 locs1 (hset X (u3 Y k i z (some r)) H1 (Nat.le_trans hbs hS1.1) (fun k' i' hne => ⟨rfl, u3_ne Y k k' i i' z _ hne⟩) (refOK_s (t := tgt) (wd_ref (wx_wd hw)) ?_ g0 g1) hP1 hD1) hS1
  intro j' t' ej hr
  rcases hr with ⟨-, -, z2⟩ | ⟨z1, -⟩
  · rw [hs.2.1] at z2; exact z2.symm
  · exact absurd hs.1 z1
end
section
/-! the journal is made -/
def JI (n : Int) (h0 : Nat) (ad : Nat → Int → Nat) (cnt : Nat → Int) (X : Nat → Int → Int → Int) (Y : Nat → Int → Int → Option Int) (ad1 : Nat → Int → Nat) (cnt1 : Nat → Int) (Y1 : Nat → Int → Int → Option Int) : Prop :=
  ad1 29 0 = h0 ∧ (∀ k i, k ∉ [28, 29, 30, 31] → ad1 k i = ad k i) ∧ (cnt1 28 = n ∧ cnt1 29 = 1 ∧ cnt1 30 = 1 ∧ cnt1 31 = 1) ∧ (∀ k, k ∉ [28, 29, 30, 31] → cnt1 k = cnt k) ∧ (∀ q, 0 ≤ q → q < n → Y1 30 0 q = some q) ∧ (∀ k i j, k ≠ 30 → Y1 k i j = Y k i j) ∧ Own cnt1 ∧ Zr cnt1 X Y1
set_option maxHeartbeats 4000000 in
set_option maxRecDepth 100000 in
theorem c_X2_init (l : Launch) (D : va_G) (tc : Nat → ClassId) (base : Nat) (ad : Nat → Int → Nat) (cnt : Nat → Int) (X : Nat → Int → Int → Int) (Y : Nat → Int → Int → Option Int) (ln : Int → Int) (E : va_W) (h0 : Nat) (hOw : Own cnt) (hz : Zr cnt X Y) (h28 : cnt 28 = 0) (h29 : cnt 29 = 0) (h30 : cnt 30 = 0) (h31 : cnt 31 = 0) :
    KC l D tc base yX2_init wsX2_init ({ frames := 2, cells := 82, slots := 404, locals := 32 } : Room) [.ref h0] (ad, cnt, X, Y, ln) (E ++ [(h0, .inr (2, [.null, .int 0, .null, .int 0]))]) 82 404 (fun u' E' => ∃ (ad1 : Nat → Int → Nat) (cnt1 : Nat → Int) (Y1 : Nat → Int → Int → Option Int), u' = (ad1, cnt1, X, Y1, ln) ∧ E' = E ∧ JI 80 h0 ad cnt X Y ad1 cnt1 Y1) := by
  refine KC_of (cc := cX2_init) (maxL := 2) (ret := none) (by decide) rfl (Nat.le_of_ble_eq_true rfl) ?_
  intro p e s m below meth c ls hx hb hr hml hown hts hlocks hnm hl hK hw hS
  have hnm : meth.name = "<init>" := hnm
  have hown : s.vm.findClass RX2 = some m.cls := hown
  have hbs : base ≤ s.heap.size := hw.2.2
  have hi2 : ∀ w ∈ wsX20, w ∈ wsX2_init := fun w h => List.mem_cons_of_mem _ (List.mem_append_left _ (List.mem_append_right _ h))
  have hi3 : ∀ w ∈ wsX30, w ∈ wsX2_init := fun w h => List.mem_cons_of_mem _ (List.mem_append_right _ h)
  have hf2 : fctx s m _ RX2 wsX2_init D tc RX2 TX2 4 2 := ⟨hts, hi2, hown, hK.1, rfl⟩
  have hf3 : fctx s m _ RX2 wsX2_init D tc RX3 TX3 4 3 := ⟨hts, hi3, hown, hK.1, rfl⟩
  have lk11 := hts (.fieldLink RX2 11 (TX2 0).1 (TX2 0).2.1 (TX2 0).2.2.1) (gj_X2_init_0 _ (gp_4 gp_h))
  have lk17 := hts (.fieldLink RX2 17 (TX2 2).1 (TX2 2).2.1 (TX2 2).2.2.1) (gj_X2_init_0 _ (gp_4 (gp_1 (gp_1 gp_h))))
  have hl : lv_has ls 2 [(0, .ref h0)] := hl
  refine lv_aload_n hx hb dX2_init_0 rfl (lv_at hl 0 rfl) ?_
  refine W.objInit hx hb hown (hts (.methodLink RX2 3 objectInit) (by first | exact gj_X2_init_0 _ (gp_h) | decide +kernel)) (hts (.instanceMethod objectInit) (by first | exact gj_X2_init_0 _ (gp_1 gp_h) | decide +kernel)) (hts _ (List.mem_cons_of_mem _ (List.mem_append_left _ (List.mem_append_left _ (List.mem_of_getElem? (i := 2) rfl))))) rfl (by rw [hml]; exact hl.1) rfl dX2_init_1 (Nat.le_of_ble_eq_true rfl) (Nat.le_of_ble_eq_true rfl) ?_
  refine W.eq (g2 := F0 m 4 ls []) rfl ?_
  refine lv_aload_n hx hb dX2_init_4 rfl (lv_at hl 0 rfl) ?_
  refine lv_bipush (v := jI 80) hx hb dX2_init_5 (by decide) ?_
  refine g_newq (t := 4) (z := 80) hx hb hown (hts (.classLink RX2 9 RX3) (by first | exact gj_X2_init_0 _ (gp_1 (gp_1 (gp_1 gp_h))) | decide +kernel)) hK.2.2.2.2.2.2.1 hK.1 rfl hw hS hbs (by omega) (by omega) (show 0 + 1 ≤ 82 by omega) (show 0 + (80 : Int).toNat ≤ 404 by omega) dX2_init_7 (fun q1 H hw hS => ?_)
  have hw : wx D tc base (ad, cnt, X, Y, ln) (E ++ [(h0, .inr (2, [.null, .int 0, .null, .int 0])), (q1, .inl (tc 4, (80 : Int).toNat, .inr (.inr (.inr (.inr (fun _ => none))))))]) H := hw
  refine W.widen (k := 1) (n := 80) (by omega) (by omega) ?_
  refine g_putF (ci := 2) hx hb hf2 ⟨tyX2_ok, nmX2⟩ hw hS 0 rfl 0 (by decide) lk11 rfl hnm rfl (tyX2_ok 0 (by decide)) rfl rfl (Nat.le_of_ble_eq_true rfl) dX2_init_10 (fun H locs hw hS => ?_)
  have hw : wx D tc base (ad, cnt, X, Y, ln) (E ++ [(h0, .inr (2, [.ref q1, .int 0, .null, .int 0])), (q1, .inl (tc 4, (80 : Int).toNat, .inr (.inr (.inr (.inr (fun _ => none))))))]) H := hw
  refine lv_aload_n hx hb dX2_init_13 rfl (lv_at hl 0 rfl) ?_
  refine lv_iconst (v := jI 4) hx hb dX2_init_14 rfl ?_
  refine g_newa (t := 0) (z := 4) (a0 := ((4 : Int).toNat, .inl (fun _ => 0))) (atype := .int) hx hb (hts (.arrayClass .int) (by first | exact gj_X2_init_0 _ (gp_4 (gp_1 gp_h)) | decide +kernel)) rfl hK.1 rfl hw hS hbs (fun _ => rfl) (by omega) (by omega) (by decide) (show 1 + 1 ≤ 82 by omega) (show 80 + (4 : Int).toNat ≤ 404 by omega) dX2_init_15 (fun q2 H hw hS => ?_)
  have hw : wx D tc base (ad, cnt, X, Y, ln) (E ++ [(h0, .inr (2, [.ref q1, .int 0, .null, .int 0])), (q1, .inl (tc 4, (80 : Int).toNat, .inr (.inr (.inr (.inr (fun _ => none)))))), (q2, .inl (tc 0, (4 : Int).toNat, .inl (fun _ => 0)))]) H := hw
  refine W.widen (k := 2) (n := 84) (by omega) (by omega) ?_
  refine g_putF (ci := 2) hx hb hf2 ⟨tyX2_ok, nmX2⟩ hw hS 0 rfl 2 (by decide) lk17 rfl hnm rfl (tyX2_ok 2 (by decide)) rfl rfl (Nat.le_of_ble_eq_true rfl) dX2_init_17 (fun H locs hw hS => ?_)
  have hw : wx D tc base (ad, cnt, X, Y, ln) (E ++ [(h0, .inr (2, [.ref q1, .int 0, .ref q2, .int 0])), (q1, .inl (tc 4, (80 : Int).toNat, .inr (.inr (.inr (.inr (fun _ => none)))))), (q2, .inl (tc 0, (4 : Int).toNat, .inl (fun _ => 0)))]) H := hw
  have hw := growz (KS := [29, 30, 31]) (n := 0) (f := fun k => if k = 29 then h0 else if k = 30 then q1 else q2) hw (by omega) (fun k hk => by
    simp only [List.mem_cons, List.not_mem_nil, or_false] at hk
    rcases hk with rfl | rfl | rfl
    · exact h29
    · exact h30
    · exact h31) (by decide) hOw hz rfl
  have hJ : JI 0 h0 ad cnt X Y (up2 ad [29, 30, 31] 0 (fun k => if k = 29 then h0 else if k = 30 then q1 else q2)) (upc cnt [29, 30, 31]) Y := by
    refine ⟨by rw [up2_s (by decide)]; rfl, fun k i hk => by rw [up2_k (fun q => hk (List.mem_cons_of_mem _ q))], ⟨by rw [upc_k (by decide), h28], by rw [upc_s (by decide), h29]; rfl, by rw [upc_s (by decide), h30]; rfl, by rw [upc_s (by decide), h31]; rfl⟩, fun k hk => upc_k (fun q => hk (List.mem_cons_of_mem _ q)), fun q g0 g1 => by omega, fun _ _ _ _ => rfl, hOw.up (by decide +kernel) (by decide +kernel), hz.up⟩
  generalize up2 ad [29, 30, 31] 0 (fun k => if k = 29 then h0 else if k = 30 then q1 else q2) = ad1 at hw hJ
  generalize upc cnt [29, 30, 31] = cnt1 at hw hJ
  refine lv_iconst (v := jI 0) hx hb dX2_init_20 rfl ?_
  refine lv_istore_n (lv' := [(1, .int (jI 0)), (0, .ref h0)]) hx hb dX2_init_21 rfl hl (by decide) rfl (fun ls hl => ?_)
  have lp : ∀ (nn : Nat) (n : Int) (ad1 : Nat → Int → Nat) (cnt1 : Nat → Int) (Y1 : Nat → Int → Int → Option Int) (cl sl : Nat) (H : Heap) (locs : List Loc) (ls : Array Slot), 80 - n < (nn : Int) → 0 ≤ n ∧ n ≤ 80 → JI n h0 ad cnt X Y ad1 cnt1 Y1 → (cl : Int) ≤ 2 + n ∧ (sl : Int) ≤ 84 + 4 * n → wx D tc base (ad1, cnt1, X, Y1, ln) E H → va_S (frA base) s.heap H locs → lv_has ls 2 [(1, .int (jI n)), (0, .ref h0)] →
      W p l e ({ frames := 2, cells := 82, slots := 404, locals := 32 } : Room) s m ([.ref h0] : List Value).toArray below meth c H locs cl sl (MQ below (QX D tc base (fun u' E' => ∃ (ad1 : Nat → Int → Nat) (cnt1 : Nat → Int) (Y1 : Nat → Int → Int → Option Int), u' = (ad1, cnt1, X, Y1, ln) ∧ E' = E ∧ JI 80 h0 ad cnt X Y ad1 cnt1 Y1)) ([.ref h0] : List Value).toArray s 82 404 (frA base)) (F0 m 22 ls []) := by
    intro nn
    induction nn with
    | zero => intro n ad1 cnt1 Y1 cl sl H locs ls hm hn; exfalso; omega
    | succ nn ih =>
      intro n ad1 cnt1 Y1 cl sl H locs ls hm hn hJ hcl hw hS hl
      obtain ⟨j1, j2, ⟨c28, c29, c30, c31⟩, j4, j5, j6, j7, j8⟩ := hJ
      refine lv_iload_n hx hb dX2_init_22 rfl (lv_at hl 0 rfl) ?_
      refine lv_bipush (v := jI 80) hx hb dX2_init_23 (by decide) ?_
      refine x_icmp_ge (tgt := 47) hx hb (by omega) (by omega) dX2_init_25 (by decide) (fun hc => ?_) (fun hc => ?_)
      · have e80 : n = 80 := by omega
        subst e80
        exact ret_x hx hb hr hlocks hw hS (by omega) (by omega) dX2_init_47 ⟨ad1, cnt1, Y1, rfl, rfl, j1, j2, ⟨c28, c29, c30, c31⟩, j4, j5, j6, j7, j8⟩
      · refine lv_aload_n hx hb dX2_init_28 rfl (lv_at hl 1 rfl) ?_
        refine W.eq (g2 := F0 m 29 ls [.ref (ad1 29 0)]) (by rw [j1]) ?_
        refine x_geto hx hb hf2 (wx_wd hw) (by omega) (by omega) sl_29_0 lk11 dX2_init_29 ?_
        refine lv_iload_n hx hb dX2_init_32 rfl (lv_at hl 0 rfl) ?_
        refine nx_new (ci := 3) (fs := [.null, .int 0, .long 0, .null]) hx hb hf3 ⟨tyX3_ok, nmX3⟩ (hts (.classLink RX2 9 RX3) (by first | exact gj_X2_init_0 _ (gp_1 (gp_1 (gp_1 gp_h))) | decide +kernel)) (hts (.instantiable RX3 4) (by first | exact gj_X2_init_0 _ (gp_4 (gp_1 (gp_1 (gp_1 gp_h)))) | decide +kernel)) (hts (.initialized RX3) (by first | exact gj_X2_init_0 _ (gp_4 (gp_4 gp_h)) | decide +kernel)) hw hS hbs (fun j hj => by rcases (show j = 0 ∨ j = 1 ∨ j = 2 ∨ j = 3 by omega) with rfl | rfl | rfl | rfl <;> rfl) (by show _ ≤ (82 : Nat); omega) (by show _ ≤ (404 : Nat); omega) dX2_init_33 (fun q H hw hS => ?_)
        refine lv_dup hx hb dX2_init_36 rfl ?_
        refine gos_x (run_IN (As := []) (rest := [.ref q, .int (jI n), .ref (ad1 30 0)]) (host := RX8) hx hb hml hown hts (c_X3_init l D tc base (ad1, cnt1, X, Y1, ln) E q) ⟨va_cnB 0 hts gX2_init_X3_init_n21 rfl rfl rfl hK.2.2.2.2.1.2.2.2 (hts (.initialized RX3) (by first | exact gj_X2_init_0 _ (gp_4 (gp_4 gp_h)) | decide +kernel)) (by decide +kernel) ⟨Nat.le_of_ble_eq_true rfl, Nat.le_of_ble_eq_true rfl⟩, rfl, hts (.instanceMethod yX3_init) (by first | exact gj_X2_init_0 _ (gp_4 (gp_4 (gp_1 gp_h))) | decide +kernel)⟩ hK hw rfl hl.1 rfl (Nat.le_of_ble_eq_true rfl) dX2_init_37 ⟨by show _ ≤ (82 : Nat); omega, by show _ ≤ (404 : Nat); omega⟩) hS (fun u9 E9 H locs p9 hw hS => ?_)
        obtain ⟨rfl, rfl⟩ := p9
        have hw := growz (KS := [28]) (n := n) (f := fun _ => q) hw (by omega) (fun k hk => by rw [List.mem_singleton.mp hk]; exact c28) (by decide) j7 j8 rfl
        have ha : up2 ad1 [28] n (fun _ => q) 28 n = q := up2_s (by decide)
        have hb30 : up2 ad1 [28] n (fun _ => q) 30 0 = ad1 30 0 := by rw [up2_k (by decide)]
        refine W.eq (g2 := F0 m 40 ls [.ref (up2 ad1 [28] n (fun _ => q) 28 n), .int (jI n), .ref (up2 ad1 [28] n (fun _ => q) 30 0)]) (by rw [ha, hb30]) ?_
        have k28 : upc cnt1 [28] 28 = n + 1 := by rw [upc_s (by decide), c28]
        have k30 : upc cnt1 [28] 30 = 1 := by rw [upc_k (by decide), c30]
        refine nx_aast hx hb hK.1 hw hS hbs (by omega) (by omega) ar_30 rfl rfl sl_28_0 (len_E ar_30 (by first | exact Nat.ne_of_beq_eq_false rfl | decide)) (by omega) (by omega) (by omega) (by omega) (by omega) dX2_init_40 (fun H locs hw hS => ?_)
        refine lv_iinc (v := jI (n + 1)) (lv' := [(1, .int (jI (n + 1))), (0, .ref h0)]) hx hb dX2_init_41 hl (k := 0) rfl (jI_add _ _) (by decide) rfl (fun ls hl => ?_)
        refine lv_goto (tgt := 22) hx hb dX2_init_44 (by decide) ?_
        refine ih (n + 1) _ _ _ _ _ _ _ _ (by omega) (by omega) ⟨?_, fun k i hk => ?_, ⟨k28, by rw [upc_k (by decide), c29], k30, by rw [upc_k (by decide), c31]⟩, fun k hk => ?_, fun q' g0 g1 => ?_, fun k i j hk => ?_, j7.up (by decide +kernel) (by decide +kernel), j8.up.setY (by omega) (by omega)⟩ (by omega) hw hS hl
        · rw [up2_k (by decide)]; exact j1
        · rw [up2_k (fun q => hk (by rw [List.mem_singleton.mp q]; decide))]; exact j2 k i hk
        · rw [upc_k (fun q => hk (by rw [List.mem_singleton.mp q]; decide))]; exact j4 k hk
        · by_cases hq : q' = n
          · rw [hq]; exact u3_s _ _ _ _ _
          · rw [u3_j _ _ _ _ hq]; exact j5 q' g0 (by omega)
        · rw [u3_k _ _ _ _ hk]; exact j6 k i j hk
  exact lp 81 0 ad1 cnt1 Y 2 84 _ _ _ (by omega) (by omega) hJ (by omega) hw hS hl
end
section
/-! new cells, told by their own addresses -/
section RW2
variable {D : va_G} {tc : Nat → ClassId} {base : Nat} {E F : va_W} {H : Heap} {ad : Nat → Int → Nat} {cnt : Nat → Int} {X : Nat → Int → Int → Int} {Y : Nat → Int → Int → Option Int} {ln : Int → Int} {KS : List Nat} {n : Int} {f : Nat → Nat} {k : Nat}
theorem rawE_congr {g g' : Nat → Nat} (h : ∀ t, (k, t) ∈ ownL → g t = g' t) : rawE tc g k = rawE tc g' k := by
  unfold rawE
  split
  · rfl
  · congr 2
    refine List.map_congr_left (fun j hj => ?_)
    unfold rawV
    split
    · rfl
    · split
      · rfl
      · split
        · rename_i h3
          rw [h (slo k j).2 (own_mem (j := j) (by rw [← h3]))]
        · rfl
theorem growz2 (hw : wx D tc base (ad, cnt, X, Y, ln) (E ++ F) H) (h0 : 0 ≤ n) (hn : ∀ k ∈ KS, cnt k = n) (h27 : 27 ∉ KS) (ho : Own cnt) (hz : Zr cnt X Y) (hcl : ∀ p ∈ ownL, p.1 ∈ KS → p.2 ∈ KS) (hF : F = KS.map fun k => (f k, rawE tc f k)) : wx D tc base (up2 ad KS n f, upc cnt KS, X, Y, ln) E H := by
  refine growz hw h0 hn h27 ho hz ?_
  rw [hF]
  refine List.map_congr_left (fun k hk => ?_)
  rw [rawE_congr (g' := fun t => up2 ad KS n f t n) (fun t ht => (up2_s (hcl (k, t) ht hk)).symm)]
end RW2
end
end
section
/-! the object is made -/
def K8 : List Nat := [0, 1, 2, 3, 4, 5, 6, 7, 8, 9, 10, 11, 12, 13, 14, 15, 16, 17, 28, 29, 30, 31, 32]
def SI (a7 a15 a28 a29 a32 a0 : Int) (cnt : Nat → Int) : Prop := (∀ k ∈ [7, 8, 9, 10, 11, 12, 13, 14], cnt k = a7) ∧ (∀ k ∈ [15, 16, 17], cnt k = a15) ∧ cnt 28 = a28 ∧ (∀ k ∈ [29, 30, 31], cnt k = a29) ∧ cnt 32 = a32 ∧ (∀ k ∈ [0, 1, 2, 3, 4, 5, 6], cnt k = a0) ∧ (∀ k, k ∉ K8 → cnt k = 0)
section SIx
variable {a7 a15 a28 a29 a32 a0 : Int} {cnt : Nat → Int}
theorem mem_sub {L M : List Nat} (h : ∀ k ∈ L, k ∈ M) {k : Nat} (hk : k ∈ L) : k ∈ M := h k hk
theorem mem_ne {L M : List Nat} (h : ∀ k ∈ L, k ∉ M) {k : Nat} (hk : k ∈ L) : k ∉ M := h k hk
theorem SI.up7 (h : SI a7 a15 a28 a29 a32 a0 cnt) : SI (a7 + 1) a15 a28 a29 a32 a0 (upc cnt [7, 8, 9, 10, 11, 12, 13, 14]) := by
  obtain ⟨h1, h2, h3, h4, h5, h6, h7⟩ := h
  exact ⟨fun k hk => by rw [upc_s hk, h1 k hk], fun k hk => by rw [upc_k (mem_ne (by decide) hk), h2 k hk], by rw [upc_k (by decide), h3], fun k hk => by rw [upc_k (mem_ne (by decide) hk), h4 k hk], by rw [upc_k (by decide), h5], fun k hk => by rw [upc_k (mem_ne (by decide) hk), h6 k hk], fun k hk => by rw [upc_k (fun q => hk (mem_sub (by decide) q)), h7 k hk]⟩
theorem SI.up15 (h : SI a7 a15 a28 a29 a32 a0 cnt) : SI a7 (a15 + 1) a28 a29 a32 a0 (upc cnt [15, 16, 17]) := by
  obtain ⟨h1, h2, h3, h4, h5, h6, h7⟩ := h
  exact ⟨fun k hk => by rw [upc_k (mem_ne (by decide) hk), h1 k hk], fun k hk => by rw [upc_s hk, h2 k hk], by rw [upc_k (by decide), h3], fun k hk => by rw [upc_k (mem_ne (by decide) hk), h4 k hk], by rw [upc_k (by decide), h5], fun k hk => by rw [upc_k (mem_ne (by decide) hk), h6 k hk], fun k hk => by rw [upc_k (fun q => hk (mem_sub (by decide) q)), h7 k hk]⟩
theorem SI.up32 (h : SI a7 a15 a28 a29 a32 a0 cnt) : SI a7 a15 a28 a29 (a32 + 1) a0 (upc cnt [32]) := by
  obtain ⟨h1, h2, h3, h4, h5, h6, h7⟩ := h
  exact ⟨fun k hk => by rw [upc_k (mem_ne (by decide) hk), h1 k hk], fun k hk => by rw [upc_k (mem_ne (by decide) hk), h2 k hk], by rw [upc_k (by decide), h3], fun k hk => by rw [upc_k (mem_ne (by decide) hk), h4 k hk], by rw [upc_s (by decide), h5], fun k hk => by rw [upc_k (mem_ne (by decide) hk), h6 k hk], fun k hk => by rw [upc_k (fun q => hk (mem_sub (by decide) q)), h7 k hk]⟩
theorem SI.up0 (h : SI a7 a15 a28 a29 a32 a0 cnt) : SI a7 a15 a28 a29 a32 (a0 + 1) (upc cnt [0, 1, 2, 3, 4, 5, 6]) := by
  obtain ⟨h1, h2, h3, h4, h5, h6, h7⟩ := h
  exact ⟨fun k hk => by rw [upc_k (mem_ne (by decide) hk), h1 k hk], fun k hk => by rw [upc_k (mem_ne (by decide) hk), h2 k hk], by rw [upc_k (by decide), h3], fun k hk => by rw [upc_k (mem_ne (by decide) hk), h4 k hk], by rw [upc_k (by decide), h5], fun k hk => by rw [upc_s hk, h6 k hk], fun k hk => by rw [upc_k (fun q => hk (mem_sub (by decide) q)), h7 k hk]⟩
end SIx
/-- what holds while the object is made, behind its fields: t things, w words, v saves -/
def OI (t w v : Int) (h0 : Nat) (ad : Nat → Int → Nat) (cnt : Nat → Int) (X : Nat → Int → Int → Int) (Y : Nat → Int → Int → Option Int) : Prop :=
  ad 0 0 = h0 ∧ SI (2 + v) t 80 1 1 1 cnt ∧ (∀ q, 0 ≤ q → q < t → Y 2 0 q = some q) ∧ (∀ k i j, X k i j = if k = 3 ∧ i = 0 ∧ 0 ≤ j ∧ j < w then 1 else 0) ∧ (∀ q, 0 ≤ q → q < v → Y 4 0 q = some (2 + q)) ∧ (Y 0 0 6 = some 0 ∧ Y 0 0 7 = some 1) ∧ (∀ q, 0 ≤ q → q < 80 → Y 30 0 q = some q) ∧ Own cnt ∧ Zr cnt X Y
set_option maxHeartbeats 2000000 in
theorem born_obj {D : va_G} {tc : Nat → ClassId} {base : Nat} {H : Heap} {ad : Nat → Int → Nat} {cnt : Nat → Int} {X : Nat → Int → Int → Int} {Y : Nat → Int → Int → Option Int} {ln : Int → Int} {h0 q1 q2 q3 q4 q5 q6 r1 r2 jq fq : Nat} (hw : wx D tc base (ad, cnt, X, Y, ln) ([(h0, .inr (8, [.ref q1, .int 0, .ref q2, .int 0, .ref q3, .ref q4, .ref r1, .ref r2, .ref q5, .ref q6, .ref jq, .ref fq])), (q1, .inl (tc 8, (8 : Int).toNat, .inr (.inr (.inr (.inr (fun _ => none)))))), (q2, .inl (tc 7, (30 : Int).toNat, .inr (.inr (.inr (.inr (fun _ => none)))))), (q3, .inl (tc 2, (16 : Int).toNat, .inl (fun _ => 0))), (q4, .inl (tc 5, (4 : Int).toNat, .inr (.inr (.inr (.inr (fun _ => none)))))), (q5, .inl (tc 7, (30 : Int).toNat, .inr (.inr (.inr (.inr (fun _ => none)))))), (q6, .inl (tc 6, (450 : Int).toNat, .inr (.inr (.inr (.inr (fun _ => none))))))]) H) (hX : ∀ k i j, X k i j = 0) (hY : ∀ k i j, k ≠ 30 → Y k i j = none) (h30 : ∀ q, 0 ≤ q → q < 80 → Y 30 0 q = some q) (hSI : SI 2 0 80 1 1 0 cnt) (hOw : Own cnt) (hz : Zr cnt X Y) (har1 : ad 7 0 = r1) (har2 : ad 7 1 = r2) (hajq : ad 29 0 = jq) (hafq : ad 32 0 = fq) :
    ∃ (ad1 : Nat → Int → Nat) (cnt1 : Nat → Int) (Y1 : Nat → Int → Int → Option Int), wx D tc base (ad1, cnt1, X, Y1, ln) [] H ∧ OI 0 0 0 h0 ad1 cnt1 X Y1 := by
  have hrf := wd_ref (wx_wd hw)
  have hKn : ∀ k ∈ [0, 1, 2, 3, 4, 5, 6], cnt k = 0 := hSI.2.2.2.2.2.1
  have hSI1 := hSI.up0
  have hzu : Zr (upc cnt [0, 1, 2, 3, 4, 5, 6]) X Y := hz.up
  have hu0 : upc cnt [0, 1, 2, 3, 4, 5, 6] 0 = 1 := hSI1.2.2.2.2.2.1 0 (by decide)
  have hu7 : upc cnt [0, 1, 2, 3, 4, 5, 6] 7 = 2 := hSI1.1 7 (by decide)
  have hz1 : Zr (upc cnt [0, 1, 2, 3, 4, 5, 6]) X (u3 (u3 Y 0 0 6 (some 0)) 0 0 7 (some 1)) := (hzu.setY (by omega) (by omega)).setY (by omega) (by omega)
  have hOw1 : Own (upc cnt [0, 1, 2, 3, 4, 5, 6]) := by
    refine ⟨fun p hp => ?_, fun k g1 g2 => by rw [upc_k (fun q => absurd g2 ((show ∀ k ∈ [0, 1, 2, 3, 4, 5, 6], (lay k).1 = 0 → (lay k).2.2.1.1 ≠ 9 by decide +kernel) k q g1))]; exact hOw.2 k g1 g2⟩
    have h3 := hOw.1 p hp
    by_cases hm : p.1 ∈ [0, 1, 2, 3, 4, 5, 6]
    · have h4 : ∀ p ∈ ownL, p.1 ∈ [0, 1, 2, 3, 4, 5, 6] → p.2 ∈ [0, 1, 2, 3, 4, 5, 6] ∨ p.2 = 29 ∨ p.2 = 32 := by decide +kernel
      rw [upc_s hm, hKn p.1 hm]
      rcases h4 p hp hm with h5 | h5 | h5
      · rw [upc_s h5, hKn p.2 h5]; omega
      · rw [h5, upc_k (by decide), hSI.2.2.2.1 29 (by decide)]; omega
      · rw [h5, upc_k (by decide), hSI.2.2.2.2.1]; omega
    · rw [upc_k hm]
      have : cnt p.2 ≤ upc cnt [0, 1, 2, 3, 4, 5, 6] p.2 := upc_le
      omega
  refine ⟨up2 ad [0, 1, 2, 3, 4, 5, 6] 0 (fun k => if k = 0 then h0 else if k = 1 then q1 else if k = 2 then q2 else if k = 3 then q3 else if k = 4 then q4 else if k = 5 then q5 else q6), upc cnt [0, 1, 2, 3, 4, 5, 6], u3 (u3 Y 0 0 6 (some 0)) 0 0 7 (some 1), adopt (E := []) (NL := [0, 1, 2, 3, 4, 5, 6].map fun k => (k, (0 : Int))) hw ?_ (fun k i g0 g1 => ?_) hOw (fun k i => ?_) ?_, by rw [up2_s (by decide)]; rfl, hSI1, fun q g0 g1 => by omega, fun k i j => by rw [hX, if_neg (fun q => by omega)], fun q g0 g1 => by omega, ⟨by rw [u3_j _ _ _ _ (by decide)]; exact u3_s _ _ _ _ _, u3_s _ _ _ _ _⟩, fun q g0 g1 => by rw [u3_k _ _ _ _ (by first | exact Nat.ne_of_beq_eq_false rfl | decide), u3_k _ _ _ _ (by first | exact Nat.ne_of_beq_eq_false rfl | decide)]; exact h30 q g0 g1, hOw1, hz1⟩
  · have e0 : ceE tc (up2 ad [0, 1, 2, 3, 4, 5, 6] 0 (fun k => if k = 0 then h0 else if k = 1 then q1 else if k = 2 then q2 else if k = 3 then q3 else if k = 4 then q4 else if k = 5 then q5 else q6)) X (u3 (u3 Y 0 0 6 (some 0)) 0 0 7 (some 1)) ln 0 0 = .inr (8, [.ref q1, .int 0, .ref q2, .int 0, .ref q3, .ref q4, .ref r1, .ref r2, .ref q5, .ref q6, .ref jq, .ref fq]) := by
      rw [ob_E sl_0_0]
      have t0 : slo 0 0 = (3, 1) := sl_0_0.2.2.1
      have t1 : slo 0 1 = (0, 0) := sl_0_1.2.2.1
      have t2 : slo 0 2 = (3, 2) := sl_0_2.2.2.1
      have t3 : slo 0 3 = (0, 0) := sl_0_3.2.2.1
      have t4 : slo 0 4 = (3, 3) := sl_0_4.2.2.1
      have t5 : slo 0 5 = (3, 4) := sl_0_5.2.2.1
      have t6 : slo 0 6 = (4, 7) := sl_0_6.2.2.1
      have t7 : slo 0 7 = (4, 7) := sl_0_7.2.2.1
      have t8 : slo 0 8 = (3, 5) := sl_0_8.2.2.1
      have t9 : slo 0 9 = (3, 6) := sl_0_9.2.2.1
      have t10 : slo 0 10 = (3, 29) := sl_0_10.2.2.1
      have t11 : slo 0 11 = (3, 32) := sl_0_11.2.2.1
      have x0 : X 0 0 = fun _ => 0 := funext (hX 0 0)
      simp only [List.range, List.range.loop, List.map, slV, t0, t1, t2, t3, t4, t5, t6, t7, t8, t9, t10, t11]
      have y6 : (u3 (u3 Y 0 0 6 (some 0)) 0 0 7 (some 1)) 0 0 6 = some 0 := by rw [u3_j _ _ _ _ (by decide)]; exact u3_s _ _ _ _ _
      have y7 : (u3 (u3 Y 0 0 6 (some 0)) 0 0 7 (some 1)) 0 0 7 = some 1 := u3_s _ _ _ _ _
      have a7 : (up2 ad [0, 1, 2, 3, 4, 5, 6] 0 (fun k => if k = 0 then h0 else if k = 1 then q1 else if k = 2 then q2 else if k = 3 then q3 else if k = 4 then q4 else if k = 5 then q5 else q6)) 7 0 = r1 := by rw [up2_k (by decide)]; exact har1
      have a71 : (up2 ad [0, 1, 2, 3, 4, 5, 6] 0 (fun k => if k = 0 then h0 else if k = 1 then q1 else if k = 2 then q2 else if k = 3 then q3 else if k = 4 then q4 else if k = 5 then q5 else q6)) 7 1 = r2 := by rw [up2_k (by decide)]; exact har2
      have a29 : (up2 ad [0, 1, 2, 3, 4, 5, 6] 0 (fun k => if k = 0 then h0 else if k = 1 then q1 else if k = 2 then q2 else if k = 3 then q3 else if k = 4 then q4 else if k = 5 then q5 else q6)) 29 0 = jq := by rw [up2_k (by decide)]; exact hajq
      have a32 : (up2 ad [0, 1, 2, 3, 4, 5, 6] 0 (fun k => if k = 0 then h0 else if k = 1 then q1 else if k = 2 then q2 else if k = 3 then q3 else if k = 4 then q4 else if k = 5 then q5 else q6)) 32 0 = fq := by rw [up2_k (by decide)]; exact hafq
      simp [y6, y7, a7, a71, a29, a32, x0, va_rf, up2_s]
      decide
    have e1 : ceE tc (up2 ad [0, 1, 2, 3, 4, 5, 6] 0 (fun k => if k = 0 then h0 else if k = 1 then q1 else if k = 2 then q2 else if k = 3 then q3 else if k = 4 then q4 else if k = 5 then q5 else q6)) X (u3 (u3 Y 0 0 6 (some 0)) 0 0 7 (some 1)) ln 1 0 = .inl (tc 8, (8 : Int).toNat, .inr (.inr (.inr (.inr (fun _ => none))))) := by
      rw [ceE_raw (by decide) (hX 1 0) (fun j => by rw [u3_k _ _ _ _ (by first | exact Nat.ne_of_beq_eq_false rfl | decide), u3_k _ _ _ _ (by first | exact Nat.ne_of_beq_eq_false rfl | decide)]; exact hY 1 0 j (by decide))]
      rfl
    have e2 : ceE tc (up2 ad [0, 1, 2, 3, 4, 5, 6] 0 (fun k => if k = 0 then h0 else if k = 1 then q1 else if k = 2 then q2 else if k = 3 then q3 else if k = 4 then q4 else if k = 5 then q5 else q6)) X (u3 (u3 Y 0 0 6 (some 0)) 0 0 7 (some 1)) ln 2 0 = .inl (tc 7, (30 : Int).toNat, .inr (.inr (.inr (.inr (fun _ => none))))) := by
      rw [ceE_raw (by decide) (hX 2 0) (fun j => by rw [u3_k _ _ _ _ (by first | exact Nat.ne_of_beq_eq_false rfl | decide), u3_k _ _ _ _ (by first | exact Nat.ne_of_beq_eq_false rfl | decide)]; exact hY 2 0 j (by decide))]
      rfl
    have e3 : ceE tc (up2 ad [0, 1, 2, 3, 4, 5, 6] 0 (fun k => if k = 0 then h0 else if k = 1 then q1 else if k = 2 then q2 else if k = 3 then q3 else if k = 4 then q4 else if k = 5 then q5 else q6)) X (u3 (u3 Y 0 0 6 (some 0)) 0 0 7 (some 1)) ln 3 0 = .inl (tc 2, (16 : Int).toNat, .inl (fun _ => 0)) := by
      rw [ceE_raw (by decide) (hX 3 0) (fun j => by rw [u3_k _ _ _ _ (by first | exact Nat.ne_of_beq_eq_false rfl | decide), u3_k _ _ _ _ (by first | exact Nat.ne_of_beq_eq_false rfl | decide)]; exact hY 3 0 j (by decide))]
      rfl
    have e4 : ceE tc (up2 ad [0, 1, 2, 3, 4, 5, 6] 0 (fun k => if k = 0 then h0 else if k = 1 then q1 else if k = 2 then q2 else if k = 3 then q3 else if k = 4 then q4 else if k = 5 then q5 else q6)) X (u3 (u3 Y 0 0 6 (some 0)) 0 0 7 (some 1)) ln 4 0 = .inl (tc 5, (4 : Int).toNat, .inr (.inr (.inr (.inr (fun _ => none))))) := by
      rw [ceE_raw (by decide) (hX 4 0) (fun j => by rw [u3_k _ _ _ _ (by first | exact Nat.ne_of_beq_eq_false rfl | decide), u3_k _ _ _ _ (by first | exact Nat.ne_of_beq_eq_false rfl | decide)]; exact hY 4 0 j (by decide))]
      rfl
    have e5 : ceE tc (up2 ad [0, 1, 2, 3, 4, 5, 6] 0 (fun k => if k = 0 then h0 else if k = 1 then q1 else if k = 2 then q2 else if k = 3 then q3 else if k = 4 then q4 else if k = 5 then q5 else q6)) X (u3 (u3 Y 0 0 6 (some 0)) 0 0 7 (some 1)) ln 5 0 = .inl (tc 7, (30 : Int).toNat, .inr (.inr (.inr (.inr (fun _ => none))))) := by
      rw [ceE_raw (by decide) (hX 5 0) (fun j => by rw [u3_k _ _ _ _ (by first | exact Nat.ne_of_beq_eq_false rfl | decide), u3_k _ _ _ _ (by first | exact Nat.ne_of_beq_eq_false rfl | decide)]; exact hY 5 0 j (by decide))]
      rfl
    have e6 : ceE tc (up2 ad [0, 1, 2, 3, 4, 5, 6] 0 (fun k => if k = 0 then h0 else if k = 1 then q1 else if k = 2 then q2 else if k = 3 then q3 else if k = 4 then q4 else if k = 5 then q5 else q6)) X (u3 (u3 Y 0 0 6 (some 0)) 0 0 7 (some 1)) ln 6 0 = .inl (tc 6, (450 : Int).toNat, .inr (.inr (.inr (.inr (fun _ => none))))) := by
      rw [ceE_raw (by decide) (hX 6 0) (fun j => by rw [u3_k _ _ _ _ (by first | exact Nat.ne_of_beq_eq_false rfl | decide), u3_k _ _ _ _ (by first | exact Nat.ne_of_beq_eq_false rfl | decide)]; exact hY 6 0 j (by decide))]
      rfl
    simp only [wlE, List.map, e0, e1, e2, e3, e4, e5, e6]
    rw [up2_s (by decide), up2_s (by decide), up2_s (by decide), up2_s (by decide), up2_s (by decide), up2_s (by decide), up2_s (by decide)]
    rfl
  · have hne : ¬ (k ∈ [0, 1, 2, 3, 4, 5, 6] ∧ i = 0) := fun q => by have := hKn k q.1; omega
    have hk0 : k ≠ 0 := fun q => by rw [q, hKn 0 (by decide)] at g1; omega
    exact ⟨by simp only [up2, if_neg hne], rfl, by rw [u3_k _ _ _ _ hk0, u3_k _ _ _ _ hk0], fun _ => rfl⟩
  · simp only [upc]
    by_cases hk : k ∈ [0, 1, 2, 3, 4, 5, 6]
    · have := hKn k hk
      rw [if_pos hk]
      constructor
      · intro h
        by_cases hi : i = 0
        · exact Or.inr (List.mem_map.mpr ⟨k, hk, by rw [hi]⟩)
        · exact Or.inl (by omega)
      · rintro (h | h)
        · omega
        · obtain ⟨k', -, e⟩ := List.mem_map.mp h
          cases e
          omega
    · rw [if_neg hk]
      constructor
      · exact fun h => Or.inl h
      · rintro (h | h)
        · exact h
        · obtain ⟨k', hk', e⟩ := List.mem_map.mp h
          cases e
          exact absurd hk' hk
  · intro k i j t r g0 g1 hr e
    have hlow : ∀ k i (j : Nat) r, Y k i j = some r → rfK k j t → 0 ≤ i → i < upc cnt [0, 1, 2, 3, 4, 5, 6] k → 0 ≤ r ∧ r < upc cnt [0, 1, 2, 3, 4, 5, 6] t := by
      intro k i j r e hr g0 g1
      by_cases hm : k ∈ [0, 1, 2, 3, 4, 5, 6]
      · rw [hY k i j (fun q => by rw [q] at hm; exact absurd hm (by decide))] at e
        cases e
      · rw [upc_k hm] at g1
        have := hrf k i j t r g0 g1 hr e
        have h2 : cnt t ≤ upc cnt [0, 1, 2, 3, 4, 5, 6] t := upc_le
        omega
    simp only [u3] at e
    split at e
    · rename_i h
      obtain ⟨rfl, rfl, h7⟩ := h
      have hj7 : j = 7 := by omega
      subst hj7
      cases e
      have ht : t = 7 := by
        rcases hr with ⟨h1, -⟩ | ⟨-, h2⟩
        · exact absurd h1 (by decide +kernel)
        · rw [show slo 0 7 = (4, 7) from sl_0_7.2.2.1] at h2
          exact (congrArg Prod.snd h2).symm
      subst ht
      omega
    · split at e
      · rename_i h
        obtain ⟨rfl, rfl, h7⟩ := h
        have hj7 : j = 6 := by omega
        subst hj7
        cases e
        have ht : t = 7 := by
          rcases hr with ⟨h1, -⟩ | ⟨-, h2⟩
          · exact absurd h1 (by decide +kernel)
          · rw [show slo 0 6 = (4, 7) from sl_0_6.2.2.1] at h2
            exact (congrArg Prod.snd h2).symm
        subst ht
        omega
      · exact hlow k i j r e hr g0 g1
set_option maxHeartbeats 8000000 in
set_option maxRecDepth 100000 in
theorem c_X8_init (l : Launch) (D : va_G) (tc : Nat → ClassId) (base : Nat) (ad : Nat → Int → Nat) (cnt : Nat → Int) (X : Nat → Int → Int → Int) (Y : Nat → Int → Int → Option Int) (ln : Int → Int) (h0 : Nat) (hc : ∀ k, cnt k = 0) (hX : ∀ k i j, X k i j = 0) (hY : ∀ k i j, Y k i j = none) : KC l D tc base yX8_init wsX8_init ({ frames := 3, cells := 228, slots := 16184, locals := 60 } : Room) [.ref h0] (ad, cnt, X, Y, ln) [(h0, .inr (8, [.null, .int 0, .null, .int 0, .null, .null, .null, .null, .null, .null, .null, .null]))] 228 16184 (fun u' E' => ∃ (ad1 : Nat → Int → Nat) (cnt1 : Nat → Int) (X1 : Nat → Int → Int → Int) (Y1 : Nat → Int → Int → Option Int), u' = (ad1, cnt1, X1, Y1, ln) ∧ E' = [] ∧ OI 30 16 4 h0 ad1 cnt1 X1 Y1) := by
  refine KC_of (cc := cX8_init) (maxL := 2) (ret := none) (by decide) rfl (Nat.le_of_ble_eq_true rfl) ?_
  intro p e s m below meth c ls hx hb hr hml hown hts hlocks hnm hl hK hw hS
  have hnm : meth.name = "<init>" := hnm
  have hown : s.vm.findClass RX8 = some m.cls := hown
  have hbs : base ≤ s.heap.size := hw.2.2
  have hi8 : ∀ w ∈ wsX80, w ∈ wsX8_init := fun w h => List.mem_cons_of_mem _ (List.mem_append_left _ (List.mem_append_left _ (List.mem_append_left _ (List.mem_append_left _ (List.mem_append_left _ (List.mem_append_right _ h))))))
  have hf8 : fctx s m _ RX8 wsX8_init D tc RX8 TX8 12 8 := ⟨hts, hi8, hown, hK.1, rfl⟩
  have hi4 : ∀ w ∈ wsX40, w ∈ wsX8_init := fun w h => List.mem_cons_of_mem _ (List.mem_append_left _ (List.mem_append_left _ (List.mem_append_left _ (List.mem_append_left _ (List.mem_append_right _ h)))))
  have hf4 : fctx s m _ RX8 wsX8_init D tc RX4 TX4 9 4 := ⟨hts, hi4, hown, hK.1, rfl⟩
  have hi2 : ∀ w ∈ wsX20, w ∈ wsX8_init := fun w h => List.mem_cons_of_mem _ (List.mem_append_left _ (List.mem_append_left _ (List.mem_append_left _ (List.mem_append_right _ h))))
  have hf2 : fctx s m _ RX8 wsX8_init D tc RX2 TX2 4 2 := ⟨hts, hi2, hown, hK.1, rfl⟩
  have hi1 : ∀ w ∈ wsX10, w ∈ wsX8_init := fun w h => List.mem_cons_of_mem _ (List.mem_append_left _ (List.mem_append_left _ (List.mem_append_right _ h)))
  have hf1 : fctx s m _ RX8 wsX8_init D tc RX1 TX1 4 1 := ⟨hts, hi1, hown, hK.1, rfl⟩
  have hi6 : ∀ w ∈ wsX60, w ∈ wsX8_init := fun w h => List.mem_cons_of_mem _ (List.mem_append_left _ (List.mem_append_right _ h))
  have hf6 : fctx s m _ RX8 wsX8_init D tc RX6 TX6 4 6 := ⟨hts, hi6, hown, hK.1, rfl⟩
  have lk11 := hts (.fieldLink RX8 11 (TX8 0).1 (TX8 0).2.1 (TX8 0).2.2.1) (gj_X8_init_0 _ (gp_4 gp_h))
  have lk17 := hts (.fieldLink RX8 17 (TX8 2).1 (TX8 2).2.1 (TX8 2).2.2.1) (gj_X8_init_0 _ (gp_4 (gp_1 (gp_1 gp_h))))
  have lk21 := hts (.fieldLink RX8 21 (TX8 4).1 (TX8 4).2.1 (TX8 4).2.2.1) (gj_X8_init_0 _ (gp_4 (gp_4 gp_h)))
  have lk27 := hts (.fieldLink RX8 27 (TX8 5).1 (TX8 5).2.1 (TX8 5).2.2.1) (gj_X8_init_0 _ (gp_4 (gp_4 (gp_1 (gp_1 gp_h)))))
  have lk32 := hts (.fieldLink RX8 32 (TX8 6).1 (TX8 6).2.1 (TX8 6).2.2.1) (gj_X8_init_0 _ (gp_4 (gp_4 (gp_4 (gp_1 gp_h)))))
  have lk36 := hts (.fieldLink RX8 36 (TX8 7).1 (TX8 7).2.1 (TX8 7).2.2.1) (gj_X8_init_0 _ (gp_4 (gp_4 (gp_4 (gp_1 (gp_1 gp_h))))))
  have lk39 := hts (.fieldLink RX8 39 (TX8 8).1 (TX8 8).2.1 (TX8 8).2.2.1) (gj_X8_init_0 _ (gp_4 (gp_4 (gp_4 (gp_1 (gp_1 (gp_1 gp_h)))))))
  have lk44 := hts (.fieldLink RX8 44 (TX8 9).1 (TX8 9).2.1 (TX8 9).2.2.1) (gj_X8_init_0 _ (gp_16 (gp_1 gp_h)))
  have lk51 := hts (.fieldLink RX8 51 (TX8 10).1 (TX8 10).2.1 (TX8 10).2.2.1) (gj_X8_init_0 _ (gp_16 (gp_4 (gp_1 gp_h))))
  have lk58 := hts (.fieldLink RX8 58 (TX8 11).1 (TX8 11).2.1 (TX8 11).2.2.1) (gj_X8_init_1 _ (gp_1 gp_h))
  have hl : lv_has ls 2 [(0, .ref h0)] := hl
  have hOw : Own cnt := ⟨fun p _ => by rw [hc, hc]; omega, fun k _ _ => by rw [hc]; omega⟩
  have hz : Zr cnt X Y := fun k i j _ => ⟨hX k i j, hY k i j⟩
  have hSI : SI 0 0 0 0 0 0 cnt := ⟨fun k _ => hc k, fun k _ => hc k, hc 28, fun k _ => hc k, hc 32, fun k _ => hc k, fun k _ => hc k⟩
  refine lv_aload_n hx hb dX8_init_0 rfl (lv_at hl 0 rfl) ?_
  refine W.objInit hx hb hown (hts (.methodLink RX8 3 objectInit) (by first | exact gj_X8_init_0 _ (gp_h) | decide +kernel)) (hts (.instanceMethod objectInit) (by first | exact gj_X8_init_0 _ (gp_1 gp_h) | decide +kernel)) (hts _ (List.mem_cons_of_mem _ (List.mem_append_left _ (List.mem_append_left _ (List.mem_append_left _ (List.mem_append_left _ (List.mem_append_left _ (List.mem_append_left _ (List.mem_append_left _ (List.mem_of_getElem? (i := 2) rfl)))))))))) rfl (by rw [hml]; exact hl.1) rfl dX8_init_1 (Nat.le_of_ble_eq_true rfl) (Nat.le_of_ble_eq_true rfl) ?_
  refine W.eq (g2 := F0 m 4 ls []) rfl ?_
  refine lv_aload_n hx hb dX8_init_4 rfl (lv_at hl 0 rfl) ?_
  refine lv_bipush (v := jI 8) hx hb dX8_init_5 (by decide) ?_
  refine nx_newq (t := 8) (z := 8) hx hb hown (hts (.classLink RX8 9 RX7) (by first | exact gj_X8_init_0 _ (gp_1 (gp_1 (gp_1 gp_h))) | decide +kernel)) hK.2.2.2.2.2.2.2.2.2.2 hK.1 rfl hw hS hbs (by omega) (by omega) (show 0 + 1 ≤ 228 by omega) (show 0 + (8 : Int).toNat ≤ 16184 by omega) dX8_init_7 (fun q1 H hw hS => ?_)
  have hw : wx D tc base (ad, cnt, X, Y, ln) ([(h0, .inr (8, [.null, .int 0, .null, .int 0, .null, .null, .null, .null, .null, .null, .null, .null])), (q1, .inl (tc 8, (8 : Int).toNat, .inr (.inr (.inr (.inr (fun _ => none))))))]) H := hw
  refine W.widen (k := 1) (n := 8) (by omega) (by omega) ?_
  refine nx_putF (ci := 8) hx hb hf8 ⟨tyX8_ok, nmX8⟩ hw hS 0 rfl 0 (by decide) lk11 rfl hnm rfl (tyX8_ok 0 (by decide)) rfl rfl (Nat.le_of_ble_eq_true rfl) dX8_init_10 (fun H locs hw hS => ?_)
  have hw : wx D tc base (ad, cnt, X, Y, ln) ([(h0, .inr (8, [.ref q1, .int 0, .null, .int 0, .null, .null, .null, .null, .null, .null, .null, .null])), (q1, .inl (tc 8, (8 : Int).toNat, .inr (.inr (.inr (.inr (fun _ => none))))))]) H := hw
  refine lv_aload_n hx hb dX8_init_13 rfl (lv_at hl 0 rfl) ?_
  refine lv_bipush (v := jI 30) hx hb dX8_init_14 (by decide) ?_
  refine nx_newq (t := 7) (z := 30) hx hb hown (hts (.classLink RX8 15 RX6) (by first | exact gj_X8_init_0 _ (gp_4 (gp_1 gp_h)) | decide +kernel)) hK.2.2.2.2.2.2.2.2.2.1 hK.1 rfl hw hS hbs (by omega) (by omega) (show 1 + 1 ≤ 228 by omega) (show 8 + (30 : Int).toNat ≤ 16184 by omega) dX8_init_16 (fun q2 H hw hS => ?_)
  have hw : wx D tc base (ad, cnt, X, Y, ln) ([(h0, .inr (8, [.ref q1, .int 0, .null, .int 0, .null, .null, .null, .null, .null, .null, .null, .null])), (q1, .inl (tc 8, (8 : Int).toNat, .inr (.inr (.inr (.inr (fun _ => none)))))), (q2, .inl (tc 7, (30 : Int).toNat, .inr (.inr (.inr (.inr (fun _ => none))))))]) H := hw
  refine W.widen (k := 2) (n := 38) (by omega) (by omega) ?_
  refine nx_putF (ci := 8) hx hb hf8 ⟨tyX8_ok, nmX8⟩ hw hS 0 rfl 2 (by decide) lk17 rfl hnm rfl (tyX8_ok 2 (by decide)) rfl rfl (Nat.le_of_ble_eq_true rfl) dX8_init_19 (fun H locs hw hS => ?_)
  have hw : wx D tc base (ad, cnt, X, Y, ln) ([(h0, .inr (8, [.ref q1, .int 0, .ref q2, .int 0, .null, .null, .null, .null, .null, .null, .null, .null])), (q1, .inl (tc 8, (8 : Int).toNat, .inr (.inr (.inr (.inr (fun _ => none)))))), (q2, .inl (tc 7, (30 : Int).toNat, .inr (.inr (.inr (.inr (fun _ => none))))))]) H := hw
  refine lv_aload_n hx hb dX8_init_22 rfl (lv_at hl 0 rfl) ?_
  refine lv_bipush (v := jI 16) hx hb dX8_init_23 (by decide) ?_
  refine nx_newa (t := 2) (z := 16) (a0 := ((16 : Int).toNat, .inl (fun _ => 0))) (atype := .boolean) hx hb (hts (.arrayClass .boolean) (by first | exact gj_X8_init_0 _ (gp_4 (gp_1 (gp_1 (gp_1 gp_h)))) | decide +kernel)) rfl hK.1 rfl hw hS hbs (fun _ => rfl) (by omega) (by omega) (by decide) (show 2 + 1 ≤ 228 by omega) (show 38 + (16 : Int).toNat ≤ 16184 by omega) dX8_init_25 (fun q3 H hw hS => ?_)
  have hw : wx D tc base (ad, cnt, X, Y, ln) ([(h0, .inr (8, [.ref q1, .int 0, .ref q2, .int 0, .null, .null, .null, .null, .null, .null, .null, .null])), (q1, .inl (tc 8, (8 : Int).toNat, .inr (.inr (.inr (.inr (fun _ => none)))))), (q2, .inl (tc 7, (30 : Int).toNat, .inr (.inr (.inr (.inr (fun _ => none)))))), (q3, .inl (tc 2, (16 : Int).toNat, .inl (fun _ => 0)))]) H := hw
  refine W.widen (k := 3) (n := 54) (by omega) (by omega) ?_
  refine nx_putF (ci := 8) hx hb hf8 ⟨tyX8_ok, nmX8⟩ hw hS 0 rfl 4 (by decide) lk21 rfl hnm rfl (tyX8_ok 4 (by decide)) rfl rfl (Nat.le_of_ble_eq_true rfl) dX8_init_27 (fun H locs hw hS => ?_)
  have hw : wx D tc base (ad, cnt, X, Y, ln) ([(h0, .inr (8, [.ref q1, .int 0, .ref q2, .int 0, .ref q3, .null, .null, .null, .null, .null, .null, .null])), (q1, .inl (tc 8, (8 : Int).toNat, .inr (.inr (.inr (.inr (fun _ => none)))))), (q2, .inl (tc 7, (30 : Int).toNat, .inr (.inr (.inr (.inr (fun _ => none)))))), (q3, .inl (tc 2, (16 : Int).toNat, .inl (fun _ => 0)))]) H := hw
  refine lv_aload_n hx hb dX8_init_30 rfl (lv_at hl 0 rfl) ?_
  refine lv_iconst (v := jI 4) hx hb dX8_init_31 rfl ?_
  refine nx_newq (t := 5) (z := 4) hx hb hown (hts (.classLink RX8 25 RX4) (by first | exact gj_X8_init_0 _ (gp_4 (gp_4 (gp_1 gp_h))) | decide +kernel)) hK.2.2.2.2.2.2.2.1 hK.1 rfl hw hS hbs (by omega) (by omega) (show 3 + 1 ≤ 228 by omega) (show 54 + (4 : Int).toNat ≤ 16184 by omega) dX8_init_32 (fun q4 H hw hS => ?_)
  have hw : wx D tc base (ad, cnt, X, Y, ln) ([(h0, .inr (8, [.ref q1, .int 0, .ref q2, .int 0, .ref q3, .null, .null, .null, .null, .null, .null, .null])), (q1, .inl (tc 8, (8 : Int).toNat, .inr (.inr (.inr (.inr (fun _ => none)))))), (q2, .inl (tc 7, (30 : Int).toNat, .inr (.inr (.inr (.inr (fun _ => none)))))), (q3, .inl (tc 2, (16 : Int).toNat, .inl (fun _ => 0))), (q4, .inl (tc 5, (4 : Int).toNat, .inr (.inr (.inr (.inr (fun _ => none))))))]) H := hw
  refine W.widen (k := 4) (n := 58) (by omega) (by omega) ?_
  refine nx_putF (ci := 8) hx hb hf8 ⟨tyX8_ok, nmX8⟩ hw hS 0 rfl 5 (by decide) lk27 rfl hnm rfl (tyX8_ok 5 (by decide)) rfl rfl (Nat.le_of_ble_eq_true rfl) dX8_init_35 (fun H locs hw hS => ?_)
  have hw : wx D tc base (ad, cnt, X, Y, ln) ([(h0, .inr (8, [.ref q1, .int 0, .ref q2, .int 0, .ref q3, .ref q4, .null, .null, .null, .null, .null, .null])), (q1, .inl (tc 8, (8 : Int).toNat, .inr (.inr (.inr (.inr (fun _ => none)))))), (q2, .inl (tc 7, (30 : Int).toNat, .inr (.inr (.inr (.inr (fun _ => none)))))), (q3, .inl (tc 2, (16 : Int).toNat, .inl (fun _ => 0))), (q4, .inl (tc 5, (4 : Int).toNat, .inr (.inr (.inr (.inr (fun _ => none))))))]) H := hw
  refine lv_aload_n hx hb dX8_init_38 rfl (lv_at hl 0 rfl) ?_
  refine nx_new (ci := 4) (fs := [.int 0, .null, .null, .null, .null, .null, .int 0, .null, .null]) hx hb hf4 ⟨tyX4_ok, nmX4⟩ (hts (.classLink RX8 25 RX4) (by first | exact gj_X8_init_0 _ (gp_4 (gp_4 (gp_1 gp_h))) | decide +kernel)) (hts (.instantiable RX4 9) (by first | exact gj_X8_init_0 _ (gp_4 (gp_4 (gp_1 (gp_1 (gp_1 gp_h))))) | decide +kernel)) (hts (.initialized RX4) (by first | exact gj_X8_init_0 _ (gp_4 (gp_4 (gp_4 gp_h))) | decide +kernel)) hw hS hbs (fun j hj => by rcases (show j = 0 ∨ j = 1 ∨ j = 2 ∨ j = 3 ∨ j = 4 ∨ j = 5 ∨ j = 6 ∨ j = 7 ∨ j = 8 by omega) with rfl | rfl | rfl | rfl | rfl | rfl | rfl | rfl | rfl <;> rfl) (by show _ ≤ (228 : Nat); omega) (by show _ ≤ (16184 : Nat); omega) dX8_init_39 (fun r1 H hw hS => ?_)
  refine lv_dup hx hb dX8_init_42 rfl ?_
  refine gos_x (run_IN (As := []) (rest := [.ref r1, .ref h0]) (host := RX8) hx hb hml hown hts (c_X4_init l D tc base (ad, cnt, X, Y, ln) ([(h0, .inr (8, [.ref q1, .int 0, .ref q2, .int 0, .ref q3, .ref q4, .null, .null, .null, .null, .null, .null])), (q1, .inl (tc 8, (8 : Int).toNat, .inr (.inr (.inr (.inr (fun _ => none)))))), (q2, .inl (tc 7, (30 : Int).toNat, .inr (.inr (.inr (.inr (fun _ => none)))))), (q3, .inl (tc 2, (16 : Int).toNat, .inl (fun _ => 0))), (q4, .inl (tc 5, (4 : Int).toNat, .inr (.inr (.inr (.inr (fun _ => none))))))]) r1) ⟨va_cnB 0 hts gX8_init_X4_init_n31 rfl rfl rfl hK.2.2.2.2.1.1 (hts (.initialized RX4) (by first | exact gj_X8_init_0 _ (gp_4 (gp_4 (gp_4 gp_h))) | decide +kernel)) (by decide +kernel) ⟨Nat.le_of_ble_eq_true rfl, Nat.le_of_ble_eq_true rfl⟩, rfl, hts (.instanceMethod yX4_init) (by first | exact gj_X8_init_1 _ (gp_4 gp_h) | decide +kernel)⟩ hK hw rfl hl.1 rfl (Nat.le_of_ble_eq_true rfl) dX8_init_43 ⟨by show _ ≤ (228 : Nat); omega, by show _ ≤ (16184 : Nat); omega⟩) hS (fun u9 E9 H locs p9 hw hS => ?_)
  obtain ⟨rfl, b1, b2, b3, b4, b5, b6, b7, rfl⟩ := p9
  refine W.widen (k := 12) (n := 2527) (by omega) (by omega) ?_
  have hw := growz (KS := [7, 8, 9, 10, 11, 12, 13, 14]) (n := 0) (f := fun k => if k = 7 then r1 else if k = 8 then b1 else if k = 9 then b2 else if k = 10 then b3 else if k = 11 then b4 else if k = 12 then b5 else if k = 13 then b6 else b7) hw (by omega) hSI.1 (by decide) hOw hz rfl
  have har1 : up2 ad [7, 8, 9, 10, 11, 12, 13, 14] 0 (fun k => if k = 7 then r1 else if k = 8 then b1 else if k = 9 then b2 else if k = 10 then b3 else if k = 11 then b4 else if k = 12 then b5 else if k = 13 then b6 else b7) 7 0 = r1 := by rw [up2_s (by decide)]; rfl
  have hSI := hSI.up7
  have hOw := hOw.up (KS := [7, 8, 9, 10, 11, 12, 13, 14]) (by decide +kernel) (by decide +kernel)
  have hz := hz.up (KS := [7, 8, 9, 10, 11, 12, 13, 14])
  generalize hg1 : up2 ad [7, 8, 9, 10, 11, 12, 13, 14] 0 (fun k => if k = 7 then r1 else if k = 8 then b1 else if k = 9 then b2 else if k = 10 then b3 else if k = 11 then b4 else if k = 12 then b5 else if k = 13 then b6 else b7) = ad1 at hw har1
  generalize upc cnt [7, 8, 9, 10, 11, 12, 13, 14] = cnt1 at hw hSI hOw hz
  clear hg1
  skip
  obtain ⟨ad, had⟩ : ∃ a, a = ad1 := ⟨_, rfl⟩
  obtain ⟨cnt, hcnt⟩ : ∃ a, a = cnt1 := ⟨_, rfl⟩
  rw [← had] at hw har1
  rw [← hcnt] at hw hSI hOw hz
  clear had hcnt
  have hw : wx D tc base (ad, cnt, X, Y, ln) ([(h0, .inr (8, [.ref q1, .int 0, .ref q2, .int 0, .ref q3, .ref q4, .null, .null, .null, .null, .null, .null])), (q1, .inl (tc 8, (8 : Int).toNat, .inr (.inr (.inr (.inr (fun _ => none)))))), (q2, .inl (tc 7, (30 : Int).toNat, .inr (.inr (.inr (.inr (fun _ => none)))))), (q3, .inl (tc 2, (16 : Int).toNat, .inl (fun _ => 0))), (q4, .inl (tc 5, (4 : Int).toNat, .inr (.inr (.inr (.inr (fun _ => none))))))]) H := hw
  refine nx_put (ci := 8) hx hb hf8 ⟨tyX8_ok, nmX8⟩ hw hS 0 rfl 6 (by decide) lk32 rfl (tyX8_ok 6 (by decide)) rfl rfl (Nat.le_of_ble_eq_true rfl) dX8_init_46 (fun H locs hw hS => ?_)
  have hw : wx D tc base (ad, cnt, X, Y, ln) ([(h0, .inr (8, [.ref q1, .int 0, .ref q2, .int 0, .ref q3, .ref q4, .ref r1, .null, .null, .null, .null, .null])), (q1, .inl (tc 8, (8 : Int).toNat, .inr (.inr (.inr (.inr (fun _ => none)))))), (q2, .inl (tc 7, (30 : Int).toNat, .inr (.inr (.inr (.inr (fun _ => none)))))), (q3, .inl (tc 2, (16 : Int).toNat, .inl (fun _ => 0))), (q4, .inl (tc 5, (4 : Int).toNat, .inr (.inr (.inr (.inr (fun _ => none))))))]) H := hw
  refine lv_aload_n hx hb dX8_init_49 rfl (lv_at hl 0 rfl) ?_
  refine nx_new (ci := 4) (fs := [.int 0, .null, .null, .null, .null, .null, .int 0, .null, .null]) hx hb hf4 ⟨tyX4_ok, nmX4⟩ (hts (.classLink RX8 25 RX4) (by first | exact gj_X8_init_0 _ (gp_4 (gp_4 (gp_1 gp_h))) | decide +kernel)) (hts (.instantiable RX4 9) (by first | exact gj_X8_init_0 _ (gp_4 (gp_4 (gp_1 (gp_1 (gp_1 gp_h))))) | decide +kernel)) (hts (.initialized RX4) (by first | exact gj_X8_init_0 _ (gp_4 (gp_4 (gp_4 gp_h))) | decide +kernel)) hw hS hbs (fun j hj => by rcases (show j = 0 ∨ j = 1 ∨ j = 2 ∨ j = 3 ∨ j = 4 ∨ j = 5 ∨ j = 6 ∨ j = 7 ∨ j = 8 by omega) with rfl | rfl | rfl | rfl | rfl | rfl | rfl | rfl | rfl <;> rfl) (by show _ ≤ (228 : Nat); omega) (by show _ ≤ (16184 : Nat); omega) dX8_init_50 (fun r2 H hw hS => ?_)
  refine lv_dup hx hb dX8_init_53 rfl ?_
  refine gos_x (run_IN (As := []) (rest := [.ref r2, .ref h0]) (host := RX8) hx hb hml hown hts (c_X4_init l D tc base (ad, cnt, X, Y, ln) ([(h0, .inr (8, [.ref q1, .int 0, .ref q2, .int 0, .ref q3, .ref q4, .ref r1, .null, .null, .null, .null, .null])), (q1, .inl (tc 8, (8 : Int).toNat, .inr (.inr (.inr (.inr (fun _ => none)))))), (q2, .inl (tc 7, (30 : Int).toNat, .inr (.inr (.inr (.inr (fun _ => none)))))), (q3, .inl (tc 2, (16 : Int).toNat, .inl (fun _ => 0))), (q4, .inl (tc 5, (4 : Int).toNat, .inr (.inr (.inr (.inr (fun _ => none))))))]) r2) ⟨va_cnB 0 hts gX8_init_X4_init_n31 rfl rfl rfl hK.2.2.2.2.1.1 (hts (.initialized RX4) (by first | exact gj_X8_init_0 _ (gp_4 (gp_4 (gp_4 gp_h))) | decide +kernel)) (by decide +kernel) ⟨Nat.le_of_ble_eq_true rfl, Nat.le_of_ble_eq_true rfl⟩, rfl, hts (.instanceMethod yX4_init) (by first | exact gj_X8_init_1 _ (gp_4 gp_h) | decide +kernel)⟩ hK hw rfl hl.1 rfl (Nat.le_of_ble_eq_true rfl) dX8_init_54 ⟨by show _ ≤ (228 : Nat); omega, by show _ ≤ (16184 : Nat); omega⟩) hS (fun u9 E9 H locs p9 hw hS => ?_)
  obtain ⟨rfl, b1, b2, b3, b4, b5, b6, b7, rfl⟩ := p9
  refine W.widen (k := 20) (n := 4996) (by omega) (by omega) ?_
  have hw := growz (KS := [7, 8, 9, 10, 11, 12, 13, 14]) (n := 1) (f := fun k => if k = 7 then r2 else if k = 8 then b1 else if k = 9 then b2 else if k = 10 then b3 else if k = 11 then b4 else if k = 12 then b5 else if k = 13 then b6 else b7) hw (by omega) hSI.1 (by decide) hOw hz rfl
  have har2 : up2 ad [7, 8, 9, 10, 11, 12, 13, 14] 1 (fun k => if k = 7 then r2 else if k = 8 then b1 else if k = 9 then b2 else if k = 10 then b3 else if k = 11 then b4 else if k = 12 then b5 else if k = 13 then b6 else b7) 7 1 = r2 := by rw [up2_s (by decide)]; rfl
  have har1 : up2 ad [7, 8, 9, 10, 11, 12, 13, 14] 1 (fun k => if k = 7 then r2 else if k = 8 then b1 else if k = 9 then b2 else if k = 10 then b3 else if k = 11 then b4 else if k = 12 then b5 else if k = 13 then b6 else b7) 7 0 = r1 := by rw [up2_n (by decide)]; exact har1
  have hSI := hSI.up7
  have hOw := hOw.up (KS := [7, 8, 9, 10, 11, 12, 13, 14]) (by decide +kernel) (by decide +kernel)
  have hz := hz.up (KS := [7, 8, 9, 10, 11, 12, 13, 14])
  generalize hg1 : up2 ad [7, 8, 9, 10, 11, 12, 13, 14] 1 (fun k => if k = 7 then r2 else if k = 8 then b1 else if k = 9 then b2 else if k = 10 then b3 else if k = 11 then b4 else if k = 12 then b5 else if k = 13 then b6 else b7) = ad1 at hw har1 har2
  generalize upc cnt [7, 8, 9, 10, 11, 12, 13, 14] = cnt1 at hw hSI hOw hz
  clear hg1
  skip
  obtain ⟨ad, had⟩ : ∃ a, a = ad1 := ⟨_, rfl⟩
  obtain ⟨cnt, hcnt⟩ : ∃ a, a = cnt1 := ⟨_, rfl⟩
  rw [← had] at hw har1 har2
  rw [← hcnt] at hw hSI hOw hz
  clear had hcnt
  have hw : wx D tc base (ad, cnt, X, Y, ln) ([(h0, .inr (8, [.ref q1, .int 0, .ref q2, .int 0, .ref q3, .ref q4, .ref r1, .null, .null, .null, .null, .null])), (q1, .inl (tc 8, (8 : Int).toNat, .inr (.inr (.inr (.inr (fun _ => none)))))), (q2, .inl (tc 7, (30 : Int).toNat, .inr (.inr (.inr (.inr (fun _ => none)))))), (q3, .inl (tc 2, (16 : Int).toNat, .inl (fun _ => 0))), (q4, .inl (tc 5, (4 : Int).toNat, .inr (.inr (.inr (.inr (fun _ => none))))))]) H := hw
  refine nx_putF (ci := 8) hx hb hf8 ⟨tyX8_ok, nmX8⟩ hw hS 0 rfl 7 (by decide) lk36 rfl hnm rfl (tyX8_ok 7 (by decide)) rfl rfl (Nat.le_of_ble_eq_true rfl) dX8_init_57 (fun H locs hw hS => ?_)
  have hw : wx D tc base (ad, cnt, X, Y, ln) ([(h0, .inr (8, [.ref q1, .int 0, .ref q2, .int 0, .ref q3, .ref q4, .ref r1, .ref r2, .null, .null, .null, .null])), (q1, .inl (tc 8, (8 : Int).toNat, .inr (.inr (.inr (.inr (fun _ => none)))))), (q2, .inl (tc 7, (30 : Int).toNat, .inr (.inr (.inr (.inr (fun _ => none)))))), (q3, .inl (tc 2, (16 : Int).toNat, .inl (fun _ => 0))), (q4, .inl (tc 5, (4 : Int).toNat, .inr (.inr (.inr (.inr (fun _ => none))))))]) H := hw
  refine lv_aload_n hx hb dX8_init_60 rfl (lv_at hl 0 rfl) ?_
  refine lv_bipush (v := jI 30) hx hb dX8_init_61 (by decide) ?_
  refine nx_newq (t := 7) (z := 30) hx hb hown (hts (.classLink RX8 15 RX6) (by first | exact gj_X8_init_0 _ (gp_4 (gp_1 gp_h)) | decide +kernel)) hK.2.2.2.2.2.2.2.2.2.1 hK.1 rfl hw hS hbs (by omega) (by omega) (show 20 + 1 ≤ 228 by omega) (show 4996 + (30 : Int).toNat ≤ 16184 by omega) dX8_init_63 (fun q5 H hw hS => ?_)
  have hw : wx D tc base (ad, cnt, X, Y, ln) ([(h0, .inr (8, [.ref q1, .int 0, .ref q2, .int 0, .ref q3, .ref q4, .ref r1, .ref r2, .null, .null, .null, .null])), (q1, .inl (tc 8, (8 : Int).toNat, .inr (.inr (.inr (.inr (fun _ => none)))))), (q2, .inl (tc 7, (30 : Int).toNat, .inr (.inr (.inr (.inr (fun _ => none)))))), (q3, .inl (tc 2, (16 : Int).toNat, .inl (fun _ => 0))), (q4, .inl (tc 5, (4 : Int).toNat, .inr (.inr (.inr (.inr (fun _ => none)))))), (q5, .inl (tc 7, (30 : Int).toNat, .inr (.inr (.inr (.inr (fun _ => none))))))]) H := hw
  refine W.widen (k := 21) (n := 5026) (by omega) (by omega) ?_
  refine nx_putF (ci := 8) hx hb hf8 ⟨tyX8_ok, nmX8⟩ hw hS 0 rfl 8 (by decide) lk39 rfl hnm rfl (tyX8_ok 8 (by decide)) rfl rfl (Nat.le_of_ble_eq_true rfl) dX8_init_66 (fun H locs hw hS => ?_)
  have hw : wx D tc base (ad, cnt, X, Y, ln) ([(h0, .inr (8, [.ref q1, .int 0, .ref q2, .int 0, .ref q3, .ref q4, .ref r1, .ref r2, .ref q5, .null, .null, .null])), (q1, .inl (tc 8, (8 : Int).toNat, .inr (.inr (.inr (.inr (fun _ => none)))))), (q2, .inl (tc 7, (30 : Int).toNat, .inr (.inr (.inr (.inr (fun _ => none)))))), (q3, .inl (tc 2, (16 : Int).toNat, .inl (fun _ => 0))), (q4, .inl (tc 5, (4 : Int).toNat, .inr (.inr (.inr (.inr (fun _ => none)))))), (q5, .inl (tc 7, (30 : Int).toNat, .inr (.inr (.inr (.inr (fun _ => none))))))]) H := hw
  refine lv_aload_n hx hb dX8_init_69 rfl (lv_at hl 0 rfl) ?_
  refine lv_sipush (v := jI 450) hx hb dX8_init_70 (by decide) ?_
  refine nx_newq (t := 6) (z := 450) hx hb hown (hts (.classLink RX8 42 RX5) (by first | exact gj_X8_init_0 _ (gp_16 gp_h) | decide +kernel)) hK.2.2.2.2.2.2.2.2.1 hK.1 rfl hw hS hbs (by omega) (by omega) (show 21 + 1 ≤ 228 by omega) (show 5026 + (450 : Int).toNat ≤ 16184 by omega) dX8_init_73 (fun q6 H hw hS => ?_)
  have hw : wx D tc base (ad, cnt, X, Y, ln) ([(h0, .inr (8, [.ref q1, .int 0, .ref q2, .int 0, .ref q3, .ref q4, .ref r1, .ref r2, .ref q5, .null, .null, .null])), (q1, .inl (tc 8, (8 : Int).toNat, .inr (.inr (.inr (.inr (fun _ => none)))))), (q2, .inl (tc 7, (30 : Int).toNat, .inr (.inr (.inr (.inr (fun _ => none)))))), (q3, .inl (tc 2, (16 : Int).toNat, .inl (fun _ => 0))), (q4, .inl (tc 5, (4 : Int).toNat, .inr (.inr (.inr (.inr (fun _ => none)))))), (q5, .inl (tc 7, (30 : Int).toNat, .inr (.inr (.inr (.inr (fun _ => none)))))), (q6, .inl (tc 6, (450 : Int).toNat, .inr (.inr (.inr (.inr (fun _ => none))))))]) H := hw
  refine W.widen (k := 22) (n := 5476) (by omega) (by omega) ?_
  refine nx_putF (ci := 8) hx hb hf8 ⟨tyX8_ok, nmX8⟩ hw hS 0 rfl 9 (by decide) lk44 rfl hnm rfl (tyX8_ok 9 (by decide)) rfl rfl (Nat.le_of_ble_eq_true rfl) dX8_init_76 (fun H locs hw hS => ?_)
  have hw : wx D tc base (ad, cnt, X, Y, ln) ([(h0, .inr (8, [.ref q1, .int 0, .ref q2, .int 0, .ref q3, .ref q4, .ref r1, .ref r2, .ref q5, .ref q6, .null, .null])), (q1, .inl (tc 8, (8 : Int).toNat, .inr (.inr (.inr (.inr (fun _ => none)))))), (q2, .inl (tc 7, (30 : Int).toNat, .inr (.inr (.inr (.inr (fun _ => none)))))), (q3, .inl (tc 2, (16 : Int).toNat, .inl (fun _ => 0))), (q4, .inl (tc 5, (4 : Int).toNat, .inr (.inr (.inr (.inr (fun _ => none)))))), (q5, .inl (tc 7, (30 : Int).toNat, .inr (.inr (.inr (.inr (fun _ => none)))))), (q6, .inl (tc 6, (450 : Int).toNat, .inr (.inr (.inr (.inr (fun _ => none))))))]) H := hw
  refine lv_aload_n hx hb dX8_init_79 rfl (lv_at hl 0 rfl) ?_
  refine nx_new (ci := 2) (fs := [.null, .int 0, .null, .int 0]) hx hb hf2 ⟨tyX2_ok, nmX2⟩ (hts (.classLink RX8 48 RX2) (by first | exact gj_X8_init_0 _ (gp_16 (gp_1 (gp_1 gp_h))) | decide +kernel)) (hts (.instantiable RX2 4) (by first | exact gj_X8_init_0 _ (gp_16 (gp_1 (gp_1 (gp_1 gp_h)))) | decide +kernel)) (hts (.initialized RX2) (by first | exact gj_X8_init_0 _ (gp_16 (gp_4 gp_h)) | decide +kernel)) hw hS hbs (fun j hj => by rcases (show j = 0 ∨ j = 1 ∨ j = 2 ∨ j = 3 by omega) with rfl | rfl | rfl | rfl <;> rfl) (by show _ ≤ (228 : Nat); omega) (by show _ ≤ (16184 : Nat); omega) dX8_init_80 (fun jq H hw hS => ?_)
  refine lv_dup hx hb dX8_init_83 rfl ?_
  refine gos_x (run_I (As := []) (rest := [.ref jq, .ref h0]) hx hb hml hown hts (c_X2_init l D tc base ad cnt X Y ln ([(h0, .inr (8, [.ref q1, .int 0, .ref q2, .int 0, .ref q3, .ref q4, .ref r1, .ref r2, .ref q5, .ref q6, .null, .null])), (q1, .inl (tc 8, (8 : Int).toNat, .inr (.inr (.inr (.inr (fun _ => none)))))), (q2, .inl (tc 7, (30 : Int).toNat, .inr (.inr (.inr (.inr (fun _ => none)))))), (q3, .inl (tc 2, (16 : Int).toNat, .inl (fun _ => 0))), (q4, .inl (tc 5, (4 : Int).toNat, .inr (.inr (.inr (.inr (fun _ => none)))))), (q5, .inl (tc 7, (30 : Int).toNat, .inr (.inr (.inr (.inr (fun _ => none)))))), (q6, .inl (tc 6, (450 : Int).toNat, .inr (.inr (.inr (.inr (fun _ => none))))))]) jq hOw hz hSI.2.2.1 (hSI.2.2.2.1 29 (by decide)) (hSI.2.2.2.1 30 (by decide)) (hSI.2.2.2.1 31 (by decide))) (cwI 0 hts gX8_init_X2_init rfl rfl rfl (hts (.initialized RX2) (by first | exact gj_X8_init_0 _ (gp_16 (gp_4 gp_h)) | decide +kernel)) (hts (.methodLink RX8 50 yX2_init) (by first | exact gj_X8_init_1 _ (gp_16 gp_h) | decide +kernel)) (hts (.instanceMethod yX2_init) (by first | exact gj_X8_init_1 _ (gp_16 (gp_1 gp_h)) | decide +kernel)) rfl (by decide +kernel) ⟨Nat.le_of_ble_eq_true rfl, Nat.le_of_ble_eq_true rfl⟩) hK hw rfl hl.1 rfl (Nat.le_of_ble_eq_true rfl) dX8_init_84 ⟨by show _ ≤ (228 : Nat); omega, by show _ ≤ (16184 : Nat); omega⟩) hS (fun u9 E9 H locs p9 hw hS => ?_)
  obtain ⟨ad1, cnt1, Y1, rfl, rfl, hajq, j2, ⟨c28, c29, c30, c31⟩, j4, j5, j6, hOw, hz⟩ := p9
  refine W.widen (k := 105) (n := 5884) (by omega) (by omega) ?_
  have har1 : ad1 7 0 = r1 := by rw [j2 _ _ (by decide)]; exact har1
  have har2 : ad1 7 1 = r2 := by rw [j2 _ _ (by decide)]; exact har2
  have hSI : SI 2 0 80 1 0 0 cnt1 := ⟨fun k hk => by rw [j4 k (mem_ne (by decide) hk)]; exact hSI.1 k hk, fun k hk => by rw [j4 k (mem_ne (by decide) hk)]; exact hSI.2.1 k hk, c28, fun k hk => by simp only [List.mem_cons, List.not_mem_nil, or_false] at hk; rcases hk with rfl | rfl | rfl <;> assumption, by rw [j4 32 (by decide)]; exact hSI.2.2.2.2.1, fun k hk => by rw [j4 k (mem_ne (by decide) hk)]; exact hSI.2.2.2.2.2.1 k hk, fun k hk => by rw [j4 k (fun q => hk (mem_sub (by decide) q))]; exact hSI.2.2.2.2.2.2 k hk⟩
  have hY : ∀ k i j, k ≠ 30 → Y1 k i j = none := fun k i j h => by rw [j6 k i j h]; exact hY k i j
  obtain ⟨ad, had⟩ : ∃ a, a = ad1 := ⟨_, rfl⟩
  obtain ⟨cnt, hcnt⟩ : ∃ a, a = cnt1 := ⟨_, rfl⟩
  obtain ⟨Y, hY9⟩ : ∃ a, a = Y1 := ⟨_, rfl⟩
  rw [← had] at hw har1 har2 hajq
  rw [← hcnt] at hw hSI hOw hz
  rw [← hY9] at hw hY hz j5
  clear had hcnt hY9 j2 j4 j6 c28 c29 c30 c31
  have hw : wx D tc base (ad, cnt, X, Y, ln) ([(h0, .inr (8, [.ref q1, .int 0, .ref q2, .int 0, .ref q3, .ref q4, .ref r1, .ref r2, .ref q5, .ref q6, .null, .null])), (q1, .inl (tc 8, (8 : Int).toNat, .inr (.inr (.inr (.inr (fun _ => none)))))), (q2, .inl (tc 7, (30 : Int).toNat, .inr (.inr (.inr (.inr (fun _ => none)))))), (q3, .inl (tc 2, (16 : Int).toNat, .inl (fun _ => 0))), (q4, .inl (tc 5, (4 : Int).toNat, .inr (.inr (.inr (.inr (fun _ => none)))))), (q5, .inl (tc 7, (30 : Int).toNat, .inr (.inr (.inr (.inr (fun _ => none)))))), (q6, .inl (tc 6, (450 : Int).toNat, .inr (.inr (.inr (.inr (fun _ => none))))))]) H := hw
  refine nx_putF (ci := 8) hx hb hf8 ⟨tyX8_ok, nmX8⟩ hw hS 0 rfl 10 (by decide) lk51 rfl hnm rfl (tyX8_ok 10 (by decide)) rfl rfl (Nat.le_of_ble_eq_true rfl) dX8_init_87 (fun H locs hw hS => ?_)
  have hw : wx D tc base (ad, cnt, X, Y, ln) ([(h0, .inr (8, [.ref q1, .int 0, .ref q2, .int 0, .ref q3, .ref q4, .ref r1, .ref r2, .ref q5, .ref q6, .ref jq, .null])), (q1, .inl (tc 8, (8 : Int).toNat, .inr (.inr (.inr (.inr (fun _ => none)))))), (q2, .inl (tc 7, (30 : Int).toNat, .inr (.inr (.inr (.inr (fun _ => none)))))), (q3, .inl (tc 2, (16 : Int).toNat, .inl (fun _ => 0))), (q4, .inl (tc 5, (4 : Int).toNat, .inr (.inr (.inr (.inr (fun _ => none)))))), (q5, .inl (tc 7, (30 : Int).toNat, .inr (.inr (.inr (.inr (fun _ => none)))))), (q6, .inl (tc 6, (450 : Int).toNat, .inr (.inr (.inr (.inr (fun _ => none))))))]) H := hw
  refine lv_aload_n hx hb dX8_init_90 rfl (lv_at hl 0 rfl) ?_
  refine nx_new (ci := 1) (fs := [.int 0, .int 0, .int 0, .int 0]) hx hb hf1 ⟨tyX1_ok, nmX1⟩ (hts (.classLink RX8 55 RX1) (by first | exact gj_X8_init_0 _ (gp_16 (gp_4 (gp_1 (gp_1 gp_h)))) | decide +kernel)) (hts (.instantiable RX1 4) (by first | exact gj_X8_init_0 _ (gp_16 (gp_4 (gp_1 (gp_1 (gp_1 gp_h))))) | decide +kernel)) (hts (.initialized RX1) (by first | exact gj_X8_init_1 _ (gp_h) | decide +kernel)) hw hS hbs (fun j hj => by rcases (show j = 0 ∨ j = 1 ∨ j = 2 ∨ j = 3 by omega) with rfl | rfl | rfl | rfl <;> rfl) (by show _ ≤ (228 : Nat); omega) (by show _ ≤ (16184 : Nat); omega) dX8_init_91 (fun fq H hw hS => ?_)
  refine lv_dup hx hb dX8_init_94 rfl ?_
  refine gos_x (run_IN (As := []) (rest := [.ref fq, .ref h0]) (host := RX8) hx hb hml hown hts (c_X1_init l D tc base (ad, cnt, X, Y, ln) ([(h0, .inr (8, [.ref q1, .int 0, .ref q2, .int 0, .ref q3, .ref q4, .ref r1, .ref r2, .ref q5, .ref q6, .ref jq, .null])), (q1, .inl (tc 8, (8 : Int).toNat, .inr (.inr (.inr (.inr (fun _ => none)))))), (q2, .inl (tc 7, (30 : Int).toNat, .inr (.inr (.inr (.inr (fun _ => none)))))), (q3, .inl (tc 2, (16 : Int).toNat, .inl (fun _ => 0))), (q4, .inl (tc 5, (4 : Int).toNat, .inr (.inr (.inr (.inr (fun _ => none)))))), (q5, .inl (tc 7, (30 : Int).toNat, .inr (.inr (.inr (.inr (fun _ => none)))))), (q6, .inl (tc 6, (450 : Int).toNat, .inr (.inr (.inr (.inr (fun _ => none))))))]) fq) ⟨va_cnB 0 hts gX8_init_X1_init_n57 rfl rfl rfl hK.2.2.2.2.1.2.1 (hts (.initialized RX1) (by first | exact gj_X8_init_1 _ (gp_h) | decide +kernel)) (by decide +kernel) ⟨Nat.le_of_ble_eq_true rfl, Nat.le_of_ble_eq_true rfl⟩, rfl, hts (.instanceMethod yX1_init) (by first | exact gj_X8_init_2 _ (gp_4 gp_h) | decide +kernel)⟩ hK hw rfl hl.1 rfl (Nat.le_of_ble_eq_true rfl) dX8_init_95 ⟨by show _ ≤ (228 : Nat); omega, by show _ ≤ (16184 : Nat); omega⟩) hS (fun u9 E9 H locs p9 hw hS => ?_)
  obtain ⟨rfl, rfl⟩ := p9
  refine W.widen (k := 106) (n := 5888) (by omega) (by omega) ?_
  have hw := growz (KS := [32]) (n := 0) (f := fun _ => fq) hw (by omega) (fun k hk => by rw [List.mem_singleton.mp hk]; exact hSI.2.2.2.2.1) (by decide) hOw hz rfl
  have hafq : up2 ad [32] 0 (fun _ => fq) 32 0 = fq := up2_s (by decide)
  have har1 : up2 ad [32] 0 (fun _ => fq) 7 0 = r1 := by rw [up2_k (by decide)]; exact har1
  have har2 : up2 ad [32] 0 (fun _ => fq) 7 1 = r2 := by rw [up2_k (by decide)]; exact har2
  have hajq : up2 ad [32] 0 (fun _ => fq) 29 0 = jq := by rw [up2_k (by decide)]; exact hajq
  have hSI := hSI.up32
  have hOw := hOw.up (KS := [32]) (by decide +kernel) (by decide +kernel)
  have hz := hz.up (KS := [32])
  generalize up2 ad [32] 0 (fun _ => fq) = ad1 at hw har1 har2 hajq hafq
  generalize upc cnt [32] = cnt1 at hw hSI hOw hz
  obtain ⟨ad, had⟩ : ∃ a, a = ad1 := ⟨_, rfl⟩
  obtain ⟨cnt, hcnt⟩ : ∃ a, a = cnt1 := ⟨_, rfl⟩
  rw [← had] at hw har1 har2 hajq hafq
  rw [← hcnt] at hw hSI hOw hz
  clear had hcnt
  have hw : wx D tc base (ad, cnt, X, Y, ln) ([(h0, .inr (8, [.ref q1, .int 0, .ref q2, .int 0, .ref q3, .ref q4, .ref r1, .ref r2, .ref q5, .ref q6, .ref jq, .null])), (q1, .inl (tc 8, (8 : Int).toNat, .inr (.inr (.inr (.inr (fun _ => none)))))), (q2, .inl (tc 7, (30 : Int).toNat, .inr (.inr (.inr (.inr (fun _ => none)))))), (q3, .inl (tc 2, (16 : Int).toNat, .inl (fun _ => 0))), (q4, .inl (tc 5, (4 : Int).toNat, .inr (.inr (.inr (.inr (fun _ => none)))))), (q5, .inl (tc 7, (30 : Int).toNat, .inr (.inr (.inr (.inr (fun _ => none)))))), (q6, .inl (tc 6, (450 : Int).toNat, .inr (.inr (.inr (.inr (fun _ => none))))))]) H := hw
  refine nx_putF (ci := 8) hx hb hf8 ⟨tyX8_ok, nmX8⟩ hw hS 0 rfl 11 (by decide) lk58 rfl hnm rfl (tyX8_ok 11 (by decide)) rfl rfl (Nat.le_of_ble_eq_true rfl) dX8_init_98 (fun H locs hw hS => ?_)
  have hw : wx D tc base (ad, cnt, X, Y, ln) ([(h0, .inr (8, [.ref q1, .int 0, .ref q2, .int 0, .ref q3, .ref q4, .ref r1, .ref r2, .ref q5, .ref q6, .ref jq, .ref fq])), (q1, .inl (tc 8, (8 : Int).toNat, .inr (.inr (.inr (.inr (fun _ => none)))))), (q2, .inl (tc 7, (30 : Int).toNat, .inr (.inr (.inr (.inr (fun _ => none)))))), (q3, .inl (tc 2, (16 : Int).toNat, .inl (fun _ => 0))), (q4, .inl (tc 5, (4 : Int).toNat, .inr (.inr (.inr (.inr (fun _ => none)))))), (q5, .inl (tc 7, (30 : Int).toNat, .inr (.inr (.inr (.inr (fun _ => none)))))), (q6, .inl (tc 6, (450 : Int).toNat, .inr (.inr (.inr (.inr (fun _ => none))))))]) H := hw
  obtain ⟨ad1, cnt1, Y1, hw, hO⟩ := born_obj hw hX hY j5 hSI hOw hz har1 har2 hajq hafq
  have lp3 : ∀ (nn : Nat) (n : Int) (ad : Nat → Int → Nat) (cnt : Nat → Int) (X : Nat → Int → Int → Int) (Y : Nat → Int → Int → Option Int) (cl sl : Nat) (H : Heap) (locs : List Loc) (ls : Array Slot), 4 - n < (nn : Int) → 0 ≤ n ∧ n ≤ 4 → OI 30 16 n h0 ad cnt X Y → (cl : Int) ≤ 196 + 8 * n ∧ (sl : Int) ≤ 6308 + 2469 * n → wx D tc base (ad, cnt, X, Y, ln) [] H → va_S (frA base) s.heap H locs → lv_has ls 2 [(1, .int (jI n)), (0, .ref h0)] → W p l e ({ frames := 3, cells := 228, slots := 16184, locals := 60 } : Room) s m ([.ref h0] : List Value).toArray below meth c H locs cl sl (MQ below (QX D tc base (fun u' E' => ∃ (ad1 : Nat → Int → Nat) (cnt1 : Nat → Int) (X1 : Nat → Int → Int → Int) (Y1 : Nat → Int → Int → Option Int), u' = (ad1, cnt1, X1, Y1, ln) ∧ E' = [] ∧ OI 30 16 4 h0 ad1 cnt1 X1 Y1)) ([.ref h0] : List Value).toArray s 228 16184 (frA base)) (F0 m 151 ls []) := by
    intro nn
    induction nn with
    | zero => intro n ad cnt X Y cl sl H locs ls hm hn; exfalso; omega
    | succ nn ih =>
      intro n ad cnt X Y cl sl H locs ls hm hn hO hcl hw hS hl
      obtain ⟨o1, hSI, o3, o4, o5, o6, o7, hOw, hz⟩ := hO
      refine lv_iload_n hx hb dX8_init_151 rfl (lv_at hl 0 rfl) ?_
      refine lv_iconst (v := jI 4) hx hb dX8_init_152 rfl ?_
      refine x_icmp_ge (tgt := 175) hx hb (by omega) (by omega) dX8_init_153 (by decide) (fun hc => ?_) (fun hc => ?_)
      · have e4 : n = 4 := by omega
        subst e4
        exact ret_x hx hb hr hlocks hw hS (by omega) (by omega) dX8_init_175 ⟨ad, cnt, X, Y, rfl, rfl, o1, hSI, o3, o4, o5, o6, o7, hOw, hz⟩
      · have c0 : cnt 0 = 1 := hSI.2.2.2.2.2.1 0 (by decide)
        have c4 : cnt 4 = 1 := hSI.2.2.2.2.2.1 4 (by decide)
        refine lv_aload_n hx hb dX8_init_156 rfl (lv_at hl 1 rfl) ?_
        refine W.eq (g2 := F0 m 157 ls [.ref (ad 0 0)]) (by rw [o1]) ?_
        refine x_geto hx hb hf8 (wx_wd hw) (by omega) (by omega) sl_0_5 lk27 dX8_init_157 ?_
        refine lv_iload_n hx hb dX8_init_160 rfl (lv_at hl 0 rfl) ?_
        refine nx_new (ci := 4) (fs := [.int 0, .null, .null, .null, .null, .null, .int 0, .null, .null]) hx hb hf4 ⟨tyX4_ok, nmX4⟩ (hts (.classLink RX8 25 RX4) (by first | exact gj_X8_init_0 _ (gp_4 (gp_4 (gp_1 gp_h))) | decide +kernel)) (hts (.instantiable RX4 9) (by first | exact gj_X8_init_0 _ (gp_4 (gp_4 (gp_1 (gp_1 (gp_1 gp_h))))) | decide +kernel)) (hts (.initialized RX4) (by first | exact gj_X8_init_0 _ (gp_4 (gp_4 (gp_4 gp_h))) | decide +kernel)) hw hS hbs (fun j hj => by rcases (show j = 0 ∨ j = 1 ∨ j = 2 ∨ j = 3 ∨ j = 4 ∨ j = 5 ∨ j = 6 ∨ j = 7 ∨ j = 8 by omega) with rfl | rfl | rfl | rfl | rfl | rfl | rfl | rfl | rfl <;> rfl) (by show _ ≤ (228 : Nat); omega) (by show _ ≤ (16184 : Nat); omega) dX8_init_161 (fun q H hw hS => ?_)
        refine lv_dup hx hb dX8_init_164 rfl ?_
        refine gos_x (run_IN (As := []) (rest := [.ref q, .int (jI n), .ref (ad 4 0)]) (host := RX8) hx hb hml hown hts (c_X4_init l D tc base (ad, cnt, X, Y, ln) [] q) ⟨va_cnB 0 hts gX8_init_X4_init_n31 rfl rfl rfl hK.2.2.2.2.1.1 (hts (.initialized RX4) (by first | exact gj_X8_init_0 _ (gp_4 (gp_4 (gp_4 gp_h))) | decide +kernel)) (by decide +kernel) ⟨Nat.le_of_ble_eq_true rfl, Nat.le_of_ble_eq_true rfl⟩, rfl, hts (.instanceMethod yX4_init) (by first | exact gj_X8_init_1 _ (gp_4 gp_h) | decide +kernel)⟩ hK hw rfl hl.1 rfl (Nat.le_of_ble_eq_true rfl) dX8_init_165 ⟨by show _ ≤ (228 : Nat); omega, by show _ ≤ (16184 : Nat); omega⟩) hS (fun u9 E9 H locs p9 hw hS => ?_)
        obtain ⟨rfl, b1, b2, b3, b4, b5, b6, b7, rfl⟩ := p9
        have hw := growz2 (KS := [7, 8, 9, 10, 11, 12, 13, 14]) (n := 2 + n) (f := fun k => if k = 7 then q else if k = 8 then b1 else if k = 9 then b2 else if k = 10 then b3 else if k = 11 then b4 else if k = 12 then b5 else if k = 13 then b6 else b7) hw (by omega) hSI.1 (by decide) hOw hz (by decide +kernel) rfl
        have ha7 : up2 ad [7, 8, 9, 10, 11, 12, 13, 14] (2 + n) (fun k => if k = 7 then q else if k = 8 then b1 else if k = 9 then b2 else if k = 10 then b3 else if k = 11 then b4 else if k = 12 then b5 else if k = 13 then b6 else b7) 7 (2 + n) = q := by rw [up2_s (by decide)]; rfl
        have ha4 : up2 ad [7, 8, 9, 10, 11, 12, 13, 14] (2 + n) (fun k => if k = 7 then q else if k = 8 then b1 else if k = 9 then b2 else if k = 10 then b3 else if k = 11 then b4 else if k = 12 then b5 else if k = 13 then b6 else b7) 4 0 = ad 4 0 := by rw [up2_k (by decide)]
        have ha0 : up2 ad [7, 8, 9, 10, 11, 12, 13, 14] (2 + n) (fun k => if k = 7 then q else if k = 8 then b1 else if k = 9 then b2 else if k = 10 then b3 else if k = 11 then b4 else if k = 12 then b5 else if k = 13 then b6 else b7) 0 0 = h0 := by rw [up2_k (by decide)]; exact o1
        have hSI := hSI.up7
        have hOw := hOw.up (KS := [7, 8, 9, 10, 11, 12, 13, 14]) (by decide +kernel) (by decide +kernel)
        have hz := hz.up (KS := [7, 8, 9, 10, 11, 12, 13, 14])
        generalize up2 ad [7, 8, 9, 10, 11, 12, 13, 14] (2 + n) (fun k => if k = 7 then q else if k = 8 then b1 else if k = 9 then b2 else if k = 10 then b3 else if k = 11 then b4 else if k = 12 then b5 else if k = 13 then b6 else b7) = ad1 at hw ha7 ha4 ha0
        generalize upc cnt [7, 8, 9, 10, 11, 12, 13, 14] = cnt1 at hw hSI hOw hz
        refine W.eq (g2 := F0 m 168 ls [.ref (ad1 7 (2 + n)), .int (jI n), .ref (ad1 4 0)]) (by rw [ha7, ha4]) ?_
        have c4 : cnt1 4 = 1 := hSI.2.2.2.2.2.1 4 (by decide)
        have c7 : cnt1 7 = 2 + n + 1 := hSI.1 7 (by decide)
        refine nx_aast hx hb hK.1 hw hS hbs (by omega) (by omega) ar_4 rfl rfl sl_7_0 (len_E ar_4 (by first | exact Nat.ne_of_beq_eq_false rfl | decide)) (by omega) (by omega) (by omega) (by omega) (by omega) dX8_init_168 (fun H locs hw hS => ?_)
        refine lv_iinc (v := jI (n + 1)) (lv' := [(1, .int (jI (n + 1))), (0, .ref h0)]) hx hb dX8_init_169 hl (k := 0) rfl (jI_add _ _) (by decide) rfl (fun ls hl => ?_)
        refine lv_goto (tgt := 151) hx hb dX8_init_172 (by decide) ?_
        refine ih (n + 1) _ _ _ _ _ _ _ _ _ (by omega) (by omega) ⟨ha0, by rw [show 2 + (n + 1) = 2 + n + 1 by omega]; exact hSI, fun q g0 g1 => by rw [u3_k _ _ _ _ (by first | exact Nat.ne_of_beq_eq_false rfl | decide)]; exact o3 q g0 g1, o4, fun q g0 g1 => ?_, by rw [u3_k _ _ _ _ (by first | exact Nat.ne_of_beq_eq_false rfl | decide)]; exact o6, fun q g0 g1 => by rw [u3_k _ _ _ _ (by first | exact Nat.ne_of_beq_eq_false rfl | decide)]; exact o7 q g0 g1, hOw, hz.setY (by omega) (by omega)⟩ (by omega) hw hS hl
        by_cases hq : q = n
        · rw [hq]; exact u3_s _ _ _ _ _
        · rw [u3_j _ _ _ _ hq]; exact o5 q g0 (by omega)
  have lp2 : ∀ (nn : Nat) (n : Int) (ad : Nat → Int → Nat) (cnt : Nat → Int) (X : Nat → Int → Int → Int) (Y : Nat → Int → Int → Option Int) (cl sl : Nat) (H : Heap) (locs : List Loc) (ls : Array Slot), 16 - n < (nn : Int) → 0 ≤ n ∧ n ≤ 16 → OI 30 n 0 h0 ad cnt X Y → (cl : Int) ≤ 196 ∧ (sl : Int) ≤ 6308 → wx D tc base (ad, cnt, X, Y, ln) [] H → va_S (frA base) s.heap H locs → lv_has ls 2 [(1, .int (jI n)), (0, .ref h0)] → W p l e ({ frames := 3, cells := 228, slots := 16184, locals := 60 } : Room) s m ([.ref h0] : List Value).toArray below meth c H locs cl sl (MQ below (QX D tc base (fun u' E' => ∃ (ad1 : Nat → Int → Nat) (cnt1 : Nat → Int) (X1 : Nat → Int → Int → Int) (Y1 : Nat → Int → Int → Option Int), u' = (ad1, cnt1, X1, Y1, ln) ∧ E' = [] ∧ OI 30 16 4 h0 ad1 cnt1 X1 Y1)) ([.ref h0] : List Value).toArray s 228 16184 (frA base)) (F0 m 130 ls []) := by
    intro nn
    induction nn with
    | zero => intro n ad cnt X Y cl sl H locs ls hm hn; exfalso; omega
    | succ nn ih =>
      intro n ad cnt X Y cl sl H locs ls hm hn hO hcl hw hS hl
      obtain ⟨o1, hSI, o3, o4, o5, o6, o7, hOw, hz⟩ := hO
      refine lv_iload_n hx hb dX8_init_130 rfl (lv_at hl 0 rfl) ?_
      refine lv_bipush (v := jI 16) hx hb dX8_init_131 (by decide) ?_
      refine x_icmp_ge (tgt := 149) hx hb (by omega) (by omega) dX8_init_133 (by decide) (fun hc => ?_) (fun hc => ?_)
      · have e4 : n = 16 := by omega
        subst e4
        refine lv_iconst (v := jI 0) hx hb dX8_init_149 rfl ?_
        refine lv_istore_n (lv' := [(1, .int (jI 0)), (0, .ref h0)]) hx hb dX8_init_150 rfl hl (by decide) rfl (fun ls hl => ?_)
        exact lp3 5 0 ad cnt X Y cl sl _ _ _ (by omega) (by omega) ⟨o1, hSI, o3, o4, o5, o6, o7, hOw, hz⟩ (by omega) hw hS hl
      · have c0 : cnt 0 = 1 := hSI.2.2.2.2.2.1 0 (by decide)
        have c3 : cnt 3 = 1 := hSI.2.2.2.2.2.1 3 (by decide)
        refine lv_aload_n hx hb dX8_init_136 rfl (lv_at hl 1 rfl) ?_
        refine W.eq (g2 := F0 m 137 ls [.ref (ad 0 0)]) (by rw [o1]) ?_
        refine x_geto hx hb hf8 (wx_wd hw) (by omega) (by omega) sl_0_4 lk21 dX8_init_137 ?_
        refine lv_iload_n hx hb dX8_init_140 rfl (lv_at hl 0 rfl) ?_
        refine lv_iconst (v := jI 1) hx hb dX8_init_141 rfl ?_
        refine x_zast hx hb hK.1 (wx_wd hw) hS (by omega) (by omega) ar_3 (len_E ar_3 (by first | exact Nat.ne_of_beq_eq_false rfl | decide)) (by omega) (by omega) (by omega) (by omega) (by omega) dX8_init_142 (fun H locs hw hS => ?_)
        refine lv_iinc (v := jI (n + 1)) (lv' := [(1, .int (jI (n + 1))), (0, .ref h0)]) hx hb dX8_init_143 hl (k := 0) rfl (jI_add _ _) (by decide) rfl (fun ls hl => ?_)
        refine lv_goto (tgt := 130) hx hb dX8_init_146 (by decide) ?_
        refine ih (n + 1) _ _ _ _ _ _ _ _ _ (by omega) (by omega) ⟨o1, hSI, o3, fun k i j => ?_, o5, o6, o7, hOw, hz.setX (by omega) (by omega)⟩ (by omega) (wx_of hw) hS hl
        simp only [u3]
        rw [o4 k i j]
        by_cases h3 : k = 3 ∧ i = 0
        · obtain ⟨rfl, rfl⟩ := h3
          by_cases hj : j = n
          · subst hj; rw [if_pos ⟨rfl, rfl, rfl⟩, if_pos ⟨rfl, rfl, by omega, by omega⟩]
          · rw [if_neg (fun q => hj q.2.2)]
            by_cases hr9 : 0 ≤ j ∧ j < n
            · rw [if_pos ⟨rfl, rfl, hr9⟩, if_pos ⟨rfl, rfl, by omega, by omega⟩]
            · rw [if_neg (fun q => hr9 q.2.2), if_neg (fun q => hr9 (by omega))]
        · rw [if_neg (fun q => h3 ⟨q.1, q.2.1⟩), if_neg (fun q => h3 ⟨q.1, q.2.1⟩), if_neg (fun q => h3 ⟨q.1, q.2.1⟩)]
  have lp1 : ∀ (nn : Nat) (n : Int) (ad : Nat → Int → Nat) (cnt : Nat → Int) (X : Nat → Int → Int → Int) (Y : Nat → Int → Int → Option Int) (cl sl : Nat) (H : Heap) (locs : List Loc) (ls : Array Slot), 30 - n < (nn : Int) → 0 ≤ n ∧ n ≤ 30 → OI n 0 0 h0 ad cnt X Y → (cl : Int) ≤ 106 + 3 * n ∧ (sl : Int) ≤ 5888 + 14 * n → wx D tc base (ad, cnt, X, Y, ln) [] H → va_S (frA base) s.heap H locs → lv_has ls 2 [(1, .int (jI n)), (0, .ref h0)] → W p l e ({ frames := 3, cells := 228, slots := 16184, locals := 60 } : Room) s m ([.ref h0] : List Value).toArray below meth c H locs cl sl (MQ below (QX D tc base (fun u' E' => ∃ (ad1 : Nat → Int → Nat) (cnt1 : Nat → Int) (X1 : Nat → Int → Int → Int) (Y1 : Nat → Int → Int → Option Int), u' = (ad1, cnt1, X1, Y1, ln) ∧ E' = [] ∧ OI 30 16 4 h0 ad1 cnt1 X1 Y1)) ([.ref h0] : List Value).toArray s 228 16184 (frA base)) (F0 m 103 ls []) := by
    intro nn
    induction nn with
    | zero => intro n ad cnt X Y cl sl H locs ls hm hn; exfalso; omega
    | succ nn ih =>
      intro n ad cnt X Y cl sl H locs ls hm hn hO hcl hw hS hl
      obtain ⟨o1, hSI, o3, o4, o5, o6, o7, hOw, hz⟩ := hO
      refine lv_iload_n hx hb dX8_init_103 rfl (lv_at hl 0 rfl) ?_
      refine lv_bipush (v := jI 30) hx hb dX8_init_104 (by decide) ?_
      refine x_icmp_ge (tgt := 128) hx hb (by omega) (by omega) dX8_init_106 (by decide) (fun hc => ?_) (fun hc => ?_)
      · have e4 : n = 30 := by omega
        subst e4
        refine lv_iconst (v := jI 0) hx hb dX8_init_128 rfl ?_
        refine lv_istore_n (lv' := [(1, .int (jI 0)), (0, .ref h0)]) hx hb dX8_init_129 rfl hl (by decide) rfl (fun ls hl => ?_)
        exact lp2 17 0 ad cnt X Y cl sl _ _ _ (by omega) (by omega) ⟨o1, hSI, o3, o4, o5, o6, o7, hOw, hz⟩ (by omega) hw hS hl
      · have c0 : cnt 0 = 1 := hSI.2.2.2.2.2.1 0 (by decide)
        have c2 : cnt 2 = 1 := hSI.2.2.2.2.2.1 2 (by decide)
        refine lv_aload_n hx hb dX8_init_109 rfl (lv_at hl 1 rfl) ?_
        refine W.eq (g2 := F0 m 110 ls [.ref (ad 0 0)]) (by rw [o1]) ?_
        refine x_geto hx hb hf8 (wx_wd hw) (by omega) (by omega) sl_0_2 lk17 dX8_init_110 ?_
        refine lv_iload_n hx hb dX8_init_113 rfl (lv_at hl 0 rfl) ?_
        refine nx_new (ci := 6) (fs := [.null, .null, .null, .int 0]) hx hb hf6 ⟨tyX6_ok, nmX6⟩ (hts (.classLink RX8 15 RX6) (by first | exact gj_X8_init_0 _ (gp_4 (gp_1 gp_h)) | decide +kernel)) (hts (.instantiable RX6 4) (by first | exact gj_X8_init_1 _ (gp_1 (gp_1 gp_h)) | decide +kernel)) (hts (.initialized RX6) (by first | exact gj_X8_init_1 _ (gp_1 (gp_1 (gp_1 gp_h))) | decide +kernel)) hw hS hbs (fun j hj => by rcases (show j = 0 ∨ j = 1 ∨ j = 2 ∨ j = 3 by omega) with rfl | rfl | rfl | rfl <;> rfl) (by show _ ≤ (228 : Nat); omega) (by show _ ≤ (16184 : Nat); omega) dX8_init_114 (fun q H hw hS => ?_)
        refine lv_dup hx hb dX8_init_117 rfl ?_
        refine gos_x (run_IN (As := []) (rest := [.ref q, .int (jI n), .ref (ad 2 0)]) (host := RX8) hx hb hml hown hts (c_X6_init l D tc base (ad, cnt, X, Y, ln) [] q) ⟨va_cnB 0 hts gX8_init_X6_init_n62 rfl rfl rfl hK.2.2.2.2.1.2.2.1 (hts (.initialized RX6) (by first | exact gj_X8_init_1 _ (gp_1 (gp_1 (gp_1 gp_h))) | decide +kernel)) (by decide +kernel) ⟨Nat.le_of_ble_eq_true rfl, Nat.le_of_ble_eq_true rfl⟩, rfl, hts (.instanceMethod yX6_init) (by first | exact gj_X8_init_2 _ (gp_4 (gp_1 (gp_1 (gp_1 gp_h)))) | decide +kernel)⟩ hK hw rfl hl.1 rfl (Nat.le_of_ble_eq_true rfl) dX8_init_118 ⟨by show _ ≤ (228 : Nat); omega, by show _ ≤ (16184 : Nat); omega⟩) hS (fun u9 E9 H locs p9 hw hS => ?_)
        obtain ⟨rfl, b1, b2, rfl⟩ := p9
        have hw := growz2 (KS := [15, 16, 17]) (n := n) (f := fun k => if k = 15 then q else if k = 16 then b1 else b2) hw (by omega) hSI.2.1 (by decide) hOw hz (by decide +kernel) rfl
        have ha7 : up2 ad [15, 16, 17] n (fun k => if k = 15 then q else if k = 16 then b1 else b2) 15 n = q := by rw [up2_s (by decide)]; rfl
        have ha4 : up2 ad [15, 16, 17] n (fun k => if k = 15 then q else if k = 16 then b1 else b2) 2 0 = ad 2 0 := by rw [up2_k (by decide)]
        have ha0 : up2 ad [15, 16, 17] n (fun k => if k = 15 then q else if k = 16 then b1 else b2) 0 0 = h0 := by rw [up2_k (by decide)]; exact o1
        have hSI := hSI.up15
        have hOw := hOw.up (KS := [15, 16, 17]) (by decide +kernel) (by decide +kernel)
        have hz := hz.up (KS := [15, 16, 17])
        generalize up2 ad [15, 16, 17] n (fun k => if k = 15 then q else if k = 16 then b1 else b2) = ad1 at hw ha7 ha4 ha0
        generalize upc cnt [15, 16, 17] = cnt1 at hw hSI hOw hz
        refine W.eq (g2 := F0 m 121 ls [.ref (ad1 15 n), .int (jI n), .ref (ad1 2 0)]) (by rw [ha7, ha4]) ?_
        have c4 : cnt1 2 = 1 := hSI.2.2.2.2.2.1 2 (by decide)
        have c7 : cnt1 15 = n + 1 := hSI.2.1 15 (by decide)
        refine nx_aast hx hb hK.1 hw hS hbs (by omega) (by omega) ar_2 rfl rfl sl_15_0 (len_E ar_2 (by first | exact Nat.ne_of_beq_eq_false rfl | decide)) (by omega) (by omega) (by omega) (by omega) (by omega) dX8_init_121 (fun H locs hw hS => ?_)
        refine lv_iinc (v := jI (n + 1)) (lv' := [(1, .int (jI (n + 1))), (0, .ref h0)]) hx hb dX8_init_122 hl (k := 0) rfl (jI_add _ _) (by decide) rfl (fun ls hl => ?_)
        refine lv_goto (tgt := 103) hx hb dX8_init_125 (by decide) ?_
        refine ih (n + 1) _ _ _ _ _ _ _ _ _ (by omega) (by omega) ⟨ha0, hSI, fun q g0 g1 => ?_, o4, fun q g0 g1 => by omega, by rw [u3_k _ _ _ _ (by first | exact Nat.ne_of_beq_eq_false rfl | decide)]; exact o6, fun q g0 g1 => by rw [u3_k _ _ _ _ (by first | exact Nat.ne_of_beq_eq_false rfl | decide)]; exact o7 q g0 g1, hOw, hz.setY (by omega) (by omega)⟩ (by omega) hw hS hl
        by_cases hq : q = n
        · rw [hq]; exact u3_s _ _ _ _ _
        · rw [u3_j _ _ _ _ hq]; exact o3 q g0 (by omega)
  refine lv_iconst (v := jI 0) hx hb dX8_init_101 rfl ?_
  refine lv_istore_n (lv' := [(1, .int (jI 0)), (0, .ref h0)]) hx hb dX8_init_102 rfl hl (by decide) rfl (fun ls hl => ?_)
  exact lp1 31 0 ad1 cnt1 X Y1 _ _ _ _ _ (by omega) (by omega) hO (by omega) hw hS hl
end
section
/-! the words of the law's calls are the tables': by their places (printed by wip/tools/goods.py) -/
theorem gp_64 {l : List Cond} {a b0 b1 b2 b3 b4 b5 b6 b7 b8 b9 b10 b11 b12 b13 b14 b15 b16 b17 b18 b19 b20 b21 b22 b23 b24 b25 b26 b27 b28 b29 b30 b31 b32 b33 b34 b35 b36 b37 b38 b39 b40 b41 b42 b43 b44 b45 b46 b47 b48 b49 b50 b51 b52 b53 b54 b55 b56 b57 b58 b59 b60 b61 b62 b63 : Cond} (h : a ∈ l) : a ∈ b0 :: b1 :: b2 :: b3 :: b4 :: b5 :: b6 :: b7 :: b8 :: b9 :: b10 :: b11 :: b12 :: b13 :: b14 :: b15 :: b16 :: b17 :: b18 :: b19 :: b20 :: b21 :: b22 :: b23 :: b24 :: b25 :: b26 :: b27 :: b28 :: b29 :: b30 :: b31 :: b32 :: b33 :: b34 :: b35 :: b36 :: b37 :: b38 :: b39 :: b40 :: b41 :: b42 :: b43 :: b44 :: b45 :: b46 :: b47 :: b48 :: b49 :: b50 :: b51 :: b52 :: b53 :: b54 :: b55 :: b56 :: b57 :: b58 :: b59 :: b60 :: b61 :: b62 :: b63 :: l := gp_16 (gp_16 (gp_16 (gp_16 h)))
theorem gq_h {l : List (MethodName × Nat)} {a : MethodName × Nat} : a ∈ a :: l := List.mem_cons.mpr (Or.inl rfl)
theorem gq_o {l : List (MethodName × Nat)} {a b : MethodName × Nat} (h : a ∈ l) : a ∈ b :: l := List.mem_cons_of_mem _ h
theorem gq_sel {q : MethodName × Nat} (h : q ∈ lw_privs) : Cond.selects q.1.cls q.1 q.1 ∈ lw_tbl := List.mem_append_left _ (List.mem_map.mpr ⟨q, h, rfl⟩)
theorem gq_0 : Cond.selects "StateRecords" ⟨"StateRecords", "typeNumbered", "(I)LStateRecords$Type;"⟩ ⟨"StateRecords", "typeNumbered", "(I)LStateRecords$Type;"⟩ ∈ lw_tbl := gq_sel (q := (⟨"StateRecords", "typeNumbered", "(I)LStateRecords$Type;"⟩, 12)) (List.mem_append_left _ (gq_h))
theorem gq_1 : Cond.selects "StateRecords" ⟨"StateRecords", "thingWithField", "(II)LStateRecords$Thing;"⟩ ⟨"StateRecords", "thingWithField", "(II)LStateRecords$Thing;"⟩ ∈ lw_tbl := gq_sel (q := (⟨"StateRecords", "thingWithField", "(II)LStateRecords$Thing;"⟩, 12)) (List.mem_append_left _ (gq_o gq_h))
theorem gq_2 : Cond.selects "StateRecords" ⟨"StateRecords", "thingNumbered", "(J)LStateRecords$Thing;"⟩ ⟨"StateRecords", "thingNumbered", "(J)LStateRecords$Thing;"⟩ ∈ lw_tbl := gq_sel (q := (⟨"StateRecords", "thingNumbered", "(J)LStateRecords$Thing;"⟩, 12)) (List.mem_append_left _ (gq_o (gq_o gq_h)))
theorem gq_3 : Cond.selects "StateRecords" ⟨"StateRecords", "isWordInUse", "(J)Z"⟩ ⟨"StateRecords", "isWordInUse", "(J)Z"⟩ ∈ lw_tbl := gq_sel (q := (⟨"StateRecords", "isWordInUse", "(J)Z"⟩, 12)) (List.mem_append_left _ (gq_o (gq_o (gq_o gq_h))))
theorem gq_4 : Cond.selects "StateRecords" ⟨"StateRecords", "changeValue", "(LStateRecords$Thing;IJ)I"⟩ ⟨"StateRecords", "changeValue", "(LStateRecords$Thing;IJ)I"⟩ ∈ lw_tbl := gq_sel (q := (⟨"StateRecords", "changeValue", "(LStateRecords$Thing;IJ)I"⟩, 12)) (List.mem_append_left _ (gq_o (gq_o (gq_o (gq_o gq_h)))))
theorem gq_5 : Cond.selects "StateRecords$Journal" ⟨"StateRecords$Journal", "write", "(LStateRecords$Thing;IJLStateRecords$Row;)V"⟩ ⟨"StateRecords$Journal", "write", "(LStateRecords$Thing;IJLStateRecords$Row;)V"⟩ ∈ lw_tbl := gq_sel (q := (⟨"StateRecords$Journal", "write", "(LStateRecords$Thing;IJLStateRecords$Row;)V"⟩, 4)) (List.mem_append_left _ (gq_o (gq_o (gq_o (gq_o (gq_o gq_h))))))
theorem gq_6 : Cond.selects "StateRecords" ⟨"StateRecords", "changeRow", "(LStateRecords$Thing;ILStateRecords$Row;)I"⟩ ⟨"StateRecords", "changeRow", "(LStateRecords$Thing;ILStateRecords$Row;)I"⟩ ∈ lw_tbl := gq_sel (q := (⟨"StateRecords", "changeRow", "(LStateRecords$Thing;ILStateRecords$Row;)I"⟩, 12)) (List.mem_append_left _ (gq_o (gq_o (gq_o (gq_o (gq_o (gq_o gq_h)))))))
theorem gq_7 : Cond.selects "StateRecords" ⟨"StateRecords", "firstFailingCheck", "(LStateRecords$Thing;)I"⟩ ⟨"StateRecords", "firstFailingCheck", "(LStateRecords$Thing;)I"⟩ ∈ lw_tbl := gq_sel (q := (⟨"StateRecords", "firstFailingCheck", "(LStateRecords$Thing;)I"⟩, 12)) (List.mem_append_left _ (gq_o (gq_o (gq_o (gq_o (gq_o (gq_o (gq_o gq_h))))))))
theorem gq_8 : Cond.selects "StateRecords" ⟨"StateRecords", "failureOf", "(LStateRecords$Thing;LStateRecords$Check;)I"⟩ ⟨"StateRecords", "failureOf", "(LStateRecords$Thing;LStateRecords$Check;)I"⟩ ∈ lw_tbl := gq_sel (q := (⟨"StateRecords", "failureOf", "(LStateRecords$Thing;LStateRecords$Check;)I"⟩, 12)) (List.mem_append_left _ (gq_o (gq_o (gq_o (gq_o (gq_o (gq_o (gq_o (gq_o gq_h)))))))))
theorem gq_9 : Cond.selects "StateRecords" ⟨"StateRecords", "failureOfMeets", "(LStateRecords$Thing;LStateRecords$Check;)I"⟩ ⟨"StateRecords", "failureOfMeets", "(LStateRecords$Thing;LStateRecords$Check;)I"⟩ ∈ lw_tbl := gq_sel (q := (⟨"StateRecords", "failureOfMeets", "(LStateRecords$Thing;LStateRecords$Check;)I"⟩, 12)) (List.mem_append_left _ (gq_o (gq_o (gq_o (gq_o (gq_o (gq_o (gq_o (gq_o (gq_o gq_h))))))))))
theorem gq_10 : Cond.selects "StateRecords" ⟨"StateRecords", "failureOfLeads", "(LStateRecords$Thing;LStateRecords$Check;)I"⟩ ⟨"StateRecords", "failureOfLeads", "(LStateRecords$Thing;LStateRecords$Check;)I"⟩ ∈ lw_tbl := gq_sel (q := (⟨"StateRecords", "failureOfLeads", "(LStateRecords$Thing;LStateRecords$Check;)I"⟩, 12)) (List.mem_append_left _ (gq_o (gq_o (gq_o (gq_o (gq_o (gq_o (gq_o (gq_o (gq_o (gq_o gq_h)))))))))))
theorem gq_11 : Cond.selects "StateRecords" ⟨"StateRecords", "recordFrom", "(LStateRecords$Thing;LStateRecords$Records;)V"⟩ ⟨"StateRecords", "recordFrom", "(LStateRecords$Thing;LStateRecords$Records;)V"⟩ ∈ lw_tbl := gq_sel (q := (⟨"StateRecords", "recordFrom", "(LStateRecords$Thing;LStateRecords$Records;)V"⟩, 12)) (List.mem_append_left _ (gq_o (gq_o (gq_o (gq_o (gq_o (gq_o (gq_o (gq_o (gq_o (gq_o (gq_o gq_h))))))))))))
theorem gq_12 : Cond.selects "StateRecords" ⟨"StateRecords", "forgetNumbers", "()V"⟩ ⟨"StateRecords", "forgetNumbers", "()V"⟩ ∈ lw_tbl := gq_sel (q := (⟨"StateRecords", "forgetNumbers", "()V"⟩, 12)) (List.mem_append_left _ (gq_o (gq_o (gq_o (gq_o (gq_o (gq_o (gq_o (gq_o (gq_o (gq_o (gq_o (gq_o gq_h)))))))))))))
theorem gq_13 : Cond.selects "StateRecords" ⟨"StateRecords", "recordNumberOf", "(LStateRecords$Thing;LStateRecords$Records;)I"⟩ ⟨"StateRecords", "recordNumberOf", "(LStateRecords$Thing;LStateRecords$Records;)I"⟩ ∈ lw_tbl := gq_sel (q := (⟨"StateRecords", "recordNumberOf", "(LStateRecords$Thing;LStateRecords$Records;)I"⟩, 12)) (List.mem_append_left _ (gq_o (gq_o (gq_o (gq_o (gq_o (gq_o (gq_o (gq_o (gq_o (gq_o (gq_o (gq_o (gq_o gq_h))))))))))))))
theorem gq_14 : Cond.selects "StateRecords" ⟨"StateRecords", "recordFields", "(LStateRecords$Thing;ILStateRecords$Records;)V"⟩ ⟨"StateRecords", "recordFields", "(LStateRecords$Thing;ILStateRecords$Records;)V"⟩ ∈ lw_tbl := gq_sel (q := (⟨"StateRecords", "recordFields", "(LStateRecords$Thing;ILStateRecords$Records;)V"⟩, 12)) (List.mem_append_left _ (gq_o (gq_o (gq_o (gq_o (gq_o (gq_o (gq_o (gq_o (gq_o (gq_o (gq_o (gq_o (gq_o (gq_o gq_h)))))))))))))))
theorem gq_15 : Cond.selects "StateRecords" ⟨"StateRecords", "recordedValue", "(LStateRecords$Thing;ILStateRecords$Records;)J"⟩ ⟨"StateRecords", "recordedValue", "(LStateRecords$Thing;ILStateRecords$Records;)J"⟩ ∈ lw_tbl := gq_sel (q := (⟨"StateRecords", "recordedValue", "(LStateRecords$Thing;ILStateRecords$Records;)J"⟩, 12)) (List.mem_append_left _ (gq_o (gq_o (gq_o (gq_o (gq_o (gq_o (gq_o (gq_o (gq_o (gq_o (gq_o (gq_o (gq_o (gq_o (gq_o gq_h))))))))))))))))
theorem gq_16 : Cond.selects "StateRecords" ⟨"StateRecords", "firstShutSlot", "(LStateRecords$Records;)I"⟩ ⟨"StateRecords", "firstShutSlot", "(LStateRecords$Records;)I"⟩ ∈ lw_tbl := gq_sel (q := (⟨"StateRecords", "firstShutSlot", "(LStateRecords$Records;)I"⟩, 12)) (List.mem_append_right _ (List.mem_append_left _ (gq_h)))
theorem gq_17 : Cond.selects "StateRecords" ⟨"StateRecords", "addThings", "(LStateRecords$Records;)V"⟩ ⟨"StateRecords", "addThings", "(LStateRecords$Records;)V"⟩ ∈ lw_tbl := gq_sel (q := (⟨"StateRecords", "addThings", "(LStateRecords$Records;)V"⟩, 12)) (List.mem_append_right _ (List.mem_append_left _ (gq_o gq_h)))
theorem gq_18 : Cond.selects "StateRecords" ⟨"StateRecords", "fillThings", "(LStateRecords$Records;II)I"⟩ ⟨"StateRecords", "fillThings", "(LStateRecords$Records;II)I"⟩ ∈ lw_tbl := gq_sel (q := (⟨"StateRecords", "fillThings", "(LStateRecords$Records;II)I"⟩, 12)) (List.mem_append_right _ (List.mem_append_left _ (gq_o (gq_o gq_h))))
theorem gq_19 : Cond.selects "StateRecords" ⟨"StateRecords", "fillField", "(LStateRecords$Thing;LStateRecords$Records;III)I"⟩ ⟨"StateRecords", "fillField", "(LStateRecords$Thing;LStateRecords$Records;III)I"⟩ ∈ lw_tbl := gq_sel (q := (⟨"StateRecords", "fillField", "(LStateRecords$Thing;LStateRecords$Records;III)I"⟩, 12)) (List.mem_append_right _ (List.mem_append_left _ (gq_o (gq_o (gq_o gq_h)))))
theorem gq_20 : Cond.selects "StateRecords" ⟨"StateRecords", "rowPutBack", "(LStateRecords$Records;II)LStateRecords$Row;"⟩ ⟨"StateRecords", "rowPutBack", "(LStateRecords$Records;II)LStateRecords$Row;"⟩ ∈ lw_tbl := gq_sel (q := (⟨"StateRecords", "rowPutBack", "(LStateRecords$Records;II)LStateRecords$Row;"⟩, 12)) (List.mem_append_right _ (List.mem_append_left _ (gq_o (gq_o (gq_o (gq_o gq_h))))))
theorem gq_21 : Cond.selects "StateRecords" ⟨"StateRecords", "judgeThings", "(I)I"⟩ ⟨"StateRecords", "judgeThings", "(I)I"⟩ ∈ lw_tbl := gq_sel (q := (⟨"StateRecords", "judgeThings", "(I)I"⟩, 12)) (List.mem_append_right _ (List.mem_append_left _ (gq_o (gq_o (gq_o (gq_o (gq_o gq_h)))))))
theorem gq_22 : Cond.selects "java/lang/Throwable" ⟨"java/lang/Throwable", "fillInStackTrace", "(I)Ljava/lang/Throwable;"⟩ ⟨"java/lang/Throwable", "fillInStackTrace", "(I)Ljava/lang/Throwable;"⟩ ∈ lw_tbl := gq_sel (q := (⟨"java/lang/Throwable", "fillInStackTrace", "(I)Ljava/lang/Throwable;"⟩, 6)) (List.mem_append_right _ (List.mem_append_left _ (gq_o (gq_o (gq_o (gq_o (gq_o (gq_o gq_h))))))))
theorem gq_23 : Cond.selects "StateRecordsModel" ⟨"StateRecordsModel", "isType", "(I)Z"⟩ ⟨"StateRecordsModel", "isType", "(I)Z"⟩ ∈ lw_tbl := gq_sel (q := (⟨"StateRecordsModel", "isType", "(I)Z"⟩, 51)) (List.mem_append_right _ (List.mem_append_left _ (gq_o (gq_o (gq_o (gq_o (gq_o (gq_o (gq_o gq_h)))))))))
theorem gq_24 : Cond.selects "StateRecordsModel" ⟨"StateRecordsModel", "named", "(II)I"⟩ ⟨"StateRecordsModel", "named", "(II)I"⟩ ∈ lw_tbl := gq_sel (q := (⟨"StateRecordsModel", "named", "(II)I"⟩, 51)) (List.mem_append_right _ (List.mem_append_left _ (gq_o (gq_o (gq_o (gq_o (gq_o (gq_o (gq_o (gq_o gq_h))))))))))
theorem gq_25 : Cond.selects "StateRecordsModel" ⟨"StateRecordsModel", "isField", "(II)Z"⟩ ⟨"StateRecordsModel", "isField", "(II)Z"⟩ ∈ lw_tbl := gq_sel (q := (⟨"StateRecordsModel", "isField", "(II)Z"⟩, 51)) (List.mem_append_right _ (List.mem_append_left _ (gq_o (gq_o (gq_o (gq_o (gq_o (gq_o (gq_o (gq_o (gq_o gq_h)))))))))))
theorem gq_26 : Cond.selects "StateRecordsModel" ⟨"StateRecordsModel", "isThing", "(I)Z"⟩ ⟨"StateRecordsModel", "isThing", "(I)Z"⟩ ∈ lw_tbl := gq_sel (q := (⟨"StateRecordsModel", "isThing", "(I)Z"⟩, 51)) (List.mem_append_right _ (List.mem_append_left _ (gq_o (gq_o (gq_o (gq_o (gq_o (gq_o (gq_o (gq_o (gq_o (gq_o gq_h))))))))))))
theorem gq_27 : Cond.selects "StateRecordsModel" ⟨"StateRecordsModel", "lane", "(II)I"⟩ ⟨"StateRecordsModel", "lane", "(II)I"⟩ ∈ lw_tbl := gq_sel (q := (⟨"StateRecordsModel", "lane", "(II)I"⟩, 51)) (List.mem_append_right _ (List.mem_append_left _ (gq_o (gq_o (gq_o (gq_o (gq_o (gq_o (gq_o (gq_o (gq_o (gq_o (gq_o gq_h)))))))))))))
theorem gq_28 : Cond.selects "StateRecordsModel" ⟨"StateRecordsModel", "isFull", "()Z"⟩ ⟨"StateRecordsModel", "isFull", "()Z"⟩ ∈ lw_tbl := gq_sel (q := (⟨"StateRecordsModel", "isFull", "()Z"⟩, 51)) (List.mem_append_right _ (List.mem_append_left _ (gq_o (gq_o (gq_o (gq_o (gq_o (gq_o (gq_o (gq_o (gq_o (gq_o (gq_o (gq_o gq_h))))))))))))))
theorem gq_29 : Cond.selects "StateRecordsModel" ⟨"StateRecordsModel", "becomes", "(IIJ)V"⟩ ⟨"StateRecordsModel", "becomes", "(IIJ)V"⟩ ∈ lw_tbl := gq_sel (q := (⟨"StateRecordsModel", "becomes", "(IIJ)V"⟩, 51)) (List.mem_append_right _ (List.mem_append_left _ (gq_o (gq_o (gq_o (gq_o (gq_o (gq_o (gq_o (gq_o (gq_o (gq_o (gq_o (gq_o (gq_o gq_h)))))))))))))))
theorem gq_30 : Cond.selects "StateRecordsModel" ⟨"StateRecordsModel", "newRow", "(II)I"⟩ ⟨"StateRecordsModel", "newRow", "(II)I"⟩ ∈ lw_tbl := gq_sel (q := (⟨"StateRecordsModel", "newRow", "(II)I"⟩, 51)) (List.mem_append_right _ (List.mem_append_left _ (gq_o (gq_o (gq_o (gq_o (gq_o (gq_o (gq_o (gq_o (gq_o (gq_o (gq_o (gq_o (gq_o (gq_o gq_h))))))))))))))))
theorem gq_31 : Cond.selects "StateRecordsModel" ⟨"StateRecordsModel", "judged", "(I)I"⟩ ⟨"StateRecordsModel", "judged", "(I)I"⟩ ∈ lw_tbl := gq_sel (q := (⟨"StateRecordsModel", "judged", "(I)I"⟩, 51)) (List.mem_append_right _ (List.mem_append_left _ (gq_o (gq_o (gq_o (gq_o (gq_o (gq_o (gq_o (gq_o (gq_o (gq_o (gq_o (gq_o (gq_o (gq_o (gq_o gq_h)))))))))))))))))
theorem gq_32 : Cond.selects "StateRecordsModel" ⟨"StateRecordsModel", "checked", "(II)I"⟩ ⟨"StateRecordsModel", "checked", "(II)I"⟩ ∈ lw_tbl := gq_sel (q := (⟨"StateRecordsModel", "checked", "(II)I"⟩, 51)) (List.mem_append_right _ (List.mem_append_right _ (gq_h)))
theorem gq_33 : Cond.selects "StateRecordsModel" ⟨"StateRecordsModel", "isLane", "(IIII)Z"⟩ ⟨"StateRecordsModel", "isLane", "(IIII)Z"⟩ ∈ lw_tbl := gq_sel (q := (⟨"StateRecordsModel", "isLane", "(IIII)Z"⟩, 51)) (List.mem_append_right _ (List.mem_append_right _ (gq_o gq_h)))
theorem gq_34 : Cond.selects "StateRecordsModel" ⟨"StateRecordsModel", "isSave", "(I)Z"⟩ ⟨"StateRecordsModel", "isSave", "(I)Z"⟩ ∈ lw_tbl := gq_sel (q := (⟨"StateRecordsModel", "isSave", "(I)Z"⟩, 51)) (List.mem_append_right _ (List.mem_append_right _ (gq_o (gq_o gq_h))))
theorem gq_35 : Cond.selects "StateRecordsModel" ⟨"StateRecordsModel", "saves", "(IZ)I"⟩ ⟨"StateRecordsModel", "saves", "(IZ)I"⟩ ∈ lw_tbl := gq_sel (q := (⟨"StateRecordsModel", "saves", "(IZ)I"⟩, 51)) (List.mem_append_right _ (List.mem_append_right _ (gq_o (gq_o (gq_o gq_h)))))
theorem gq_36 : Cond.selects "StateRecordsModel" ⟨"StateRecordsModel", "recordOf", "(II)I"⟩ ⟨"StateRecordsModel", "recordOf", "(II)I"⟩ ∈ lw_tbl := gq_sel (q := (⟨"StateRecordsModel", "recordOf", "(II)I"⟩, 51)) (List.mem_append_right _ (List.mem_append_right _ (gq_o (gq_o (gq_o (gq_o gq_h))))))
theorem gq_37 : Cond.selects "StateRecordsModel" ⟨"StateRecordsModel", "faulty", "(IIII)I"⟩ ⟨"StateRecordsModel", "faulty", "(IIII)I"⟩ ∈ lw_tbl := gq_sel (q := (⟨"StateRecordsModel", "faulty", "(IIII)I"⟩, 51)) (List.mem_append_right _ (List.mem_append_right _ (gq_o (gq_o (gq_o (gq_o (gq_o gq_h)))))))
theorem gq_38 : Cond.selects "StateRecordsModel" ⟨"StateRecordsModel", "rowOf", "(II)I"⟩ ⟨"StateRecordsModel", "rowOf", "(II)I"⟩ ∈ lw_tbl := gq_sel (q := (⟨"StateRecordsModel", "rowOf", "(II)I"⟩, 51)) (List.mem_append_right _ (List.mem_append_right _ (gq_o (gq_o (gq_o (gq_o (gq_o (gq_o gq_h))))))))
theorem gq_39 : Cond.selects "StateRecordsModel" ⟨"StateRecordsModel", "fieldsBack", "(IIII)I"⟩ ⟨"StateRecordsModel", "fieldsBack", "(IIII)I"⟩ ∈ lw_tbl := gq_sel (q := (⟨"StateRecordsModel", "fieldsBack", "(IIII)I"⟩, 51)) (List.mem_append_right _ (List.mem_append_right _ (gq_o (gq_o (gq_o (gq_o (gq_o (gq_o (gq_o gq_h)))))))))
theorem gq_40 : Cond.selects "StateRecordsModel" ⟨"StateRecordsModel", "rowBack", "(III)I"⟩ ⟨"StateRecordsModel", "rowBack", "(III)I"⟩ ∈ lw_tbl := gq_sel (q := (⟨"StateRecordsModel", "rowBack", "(III)I"⟩, 51)) (List.mem_append_right _ (List.mem_append_right _ (gq_o (gq_o (gq_o (gq_o (gq_o (gq_o (gq_o (gq_o gq_h))))))))))
theorem gq_41 : Cond.selects "StateRecordsModel" ⟨"StateRecordsModel", "meets", "(II)Z"⟩ ⟨"StateRecordsModel", "meets", "(II)Z"⟩ ∈ lw_tbl := gq_sel (q := (⟨"StateRecordsModel", "meets", "(II)Z"⟩, 51)) (List.mem_append_right _ (List.mem_append_right _ (gq_o (gq_o (gq_o (gq_o (gq_o (gq_o (gq_o (gq_o (gq_o gq_h)))))))))))
theorem gq_42 : Cond.selects "StateRecordsModel" ⟨"StateRecordsModel", "rowsMeet", "(II)Z"⟩ ⟨"StateRecordsModel", "rowsMeet", "(II)Z"⟩ ∈ lw_tbl := gq_sel (q := (⟨"StateRecordsModel", "rowsMeet", "(II)Z"⟩, 51)) (List.mem_append_right _ (List.mem_append_right _ (gq_o (gq_o (gq_o (gq_o (gq_o (gq_o (gq_o (gq_o (gq_o (gq_o gq_h))))))))))))
theorem gq_43 : Cond.selects "StateRecordsModel" ⟨"StateRecordsModel", "rowsDiffer", "(II)Z"⟩ ⟨"StateRecordsModel", "rowsDiffer", "(II)Z"⟩ ∈ lw_tbl := gq_sel (q := (⟨"StateRecordsModel", "rowsDiffer", "(II)Z"⟩, 51)) (List.mem_append_right _ (List.mem_append_right _ (gq_o (gq_o (gq_o (gq_o (gq_o (gq_o (gq_o (gq_o (gq_o (gq_o (gq_o gq_h)))))))))))))
theorem gt_1 : GpS tables_1_1 lw_tbl := fun w h => List.mem_append_right _ (List.mem_append_left _ (h))
theorem gt_2 : GpS tables_1_2 lw_tbl := fun w h => List.mem_append_right _ (List.mem_append_right _ (List.mem_append_left _ (h)))
theorem gt_3 : GpS tables_1_3 lw_tbl := fun w h => List.mem_append_right _ (List.mem_append_right _ (List.mem_append_right _ (List.mem_append_left _ (h))))
theorem gt_4 : GpS tables_1_4 lw_tbl := fun w h => List.mem_append_right _ (List.mem_append_right _ (List.mem_append_right _ (List.mem_append_right _ (List.mem_append_left _ (h)))))
theorem gt_5 : GpS tables_1_5 lw_tbl := fun w h => List.mem_append_right _ (List.mem_append_right _ (List.mem_append_right _ (List.mem_append_right _ (List.mem_append_right _ (h)))))
theorem goodIn_cons {big a : List Cond} {c : Cond} (hc : GoodIn big [c]) (ha : GoodIn big a) : GoodIn big (c :: a) := fun w h => (List.mem_cons.mp h).elim (fun e => hc w (by rw [e]; exact List.mem_singleton.mpr rfl)) (ha w)
theorem gu_0_0 : u_lay RX0 TX0 0 ∈ lw_tbl := gt_2 _ (gp_64 (gp_4 (gp_4 (gp_4 gp_h))))
theorem gu_0_1 : u_lay RX0 TX0 1 ∈ lw_tbl := gt_2 _ (gp_64 (gp_4 (gp_4 (gp_4 (gp_1 (gp_1 gp_h))))))
theorem gu_0_2 : u_lay RX0 TX0 2 ∈ lw_tbl := gt_2 _ (gp_64 (gp_16 gp_h))
theorem gu_0_3 : u_lay RX0 TX0 3 ∈ lw_tbl := gt_2 _ (gp_64 (gp_16 (gp_1 (gp_1 gp_h))))
set_option maxRecDepth 20000 in
theorem gwX00 : GoodIn lw_tbl wsX00 := gp_s (gp_c gu_0_0 (gp_c gu_0_1 (gp_c gu_0_2 (gp_c gu_0_3 (gp_n))))) (by decide +kernel)
theorem wsX00_in : ∀ w ∈ wsX00, w ∈ lw_tbl := fun w h => (gwX00 w h).1
theorem gu_1_0 : u_lay RX1 TX1 0 ∈ lw_tbl := gt_1 _ (gp_64 (gp_64 (gp_4 (gp_4 gp_h))))
theorem gu_1_1 : u_lay RX1 TX1 1 ∈ lw_tbl := gt_1 _ (gp_64 (gp_64 (gp_4 (gp_4 (gp_1 (gp_1 gp_h))))))
theorem gu_1_2 : u_lay RX1 TX1 2 ∈ lw_tbl := gt_1 _ (gp_64 (gp_64 (gp_4 (gp_4 (gp_4 gp_h)))))
theorem gu_1_3 : u_lay RX1 TX1 3 ∈ lw_tbl := gt_1 _ (gp_64 (gp_64 (gp_4 (gp_4 (gp_4 (gp_1 (gp_1 gp_h)))))))
set_option maxRecDepth 20000 in
theorem gwX10 : GoodIn lw_tbl wsX10 := gp_s (gp_c gu_1_0 (gp_c gu_1_1 (gp_c gu_1_2 (gp_c gu_1_3 (gp_n))))) (by decide +kernel)
theorem wsX10_in : ∀ w ∈ wsX10, w ∈ lw_tbl := fun w h => (gwX10 w h).1
theorem gu_2_0 : u_lay RX2 TX2 0 ∈ lw_tbl := gt_1 _ (gp_64 (gp_16 (gp_16 (gp_16 (gp_1 gp_h)))))
theorem gu_2_1 : u_lay RX2 TX2 1 ∈ lw_tbl := gt_1 _ (gp_64 (gp_16 (gp_16 (gp_16 (gp_1 (gp_1 (gp_1 gp_h)))))))
theorem gu_2_2 : u_lay RX2 TX2 2 ∈ lw_tbl := gt_1 _ (gp_64 (gp_16 (gp_16 (gp_16 (gp_4 (gp_1 gp_h))))))
theorem gu_2_3 : u_lay RX2 TX2 3 ∈ lw_tbl := gt_1 _ (gp_64 (gp_16 (gp_16 (gp_16 (gp_4 (gp_1 (gp_1 (gp_1 gp_h))))))))
set_option maxRecDepth 20000 in
theorem gwX20 : GoodIn lw_tbl wsX20 := gp_s (gp_c gu_2_0 (gp_c gu_2_1 (gp_c gu_2_2 (gp_c gu_2_3 (gp_n))))) (by decide +kernel)
theorem wsX20_in : ∀ w ∈ wsX20, w ∈ lw_tbl := fun w h => (gwX20 w h).1
theorem gu_3_0 : u_lay RX3 TX3 0 ∈ lw_tbl := gt_1 _ (gp_64 (gp_16 (gp_16 (gp_1 (gp_1 gp_h)))))
theorem gu_3_1 : u_lay RX3 TX3 1 ∈ lw_tbl := gt_1 _ (gp_64 (gp_16 (gp_16 (gp_4 gp_h))))
theorem gu_3_2 : u_lay RX3 TX3 2 ∈ lw_tbl := gt_1 _ (gp_64 (gp_16 (gp_16 (gp_4 (gp_1 (gp_1 gp_h))))))
theorem gu_3_3 : u_lay RX3 TX3 3 ∈ lw_tbl := gt_1 _ (gp_64 (gp_16 (gp_16 (gp_4 (gp_4 gp_h)))))
set_option maxRecDepth 20000 in
theorem gwX30 : GoodIn lw_tbl wsX30 := gp_s (gp_c gu_3_0 (gp_c gu_3_1 (gp_c gu_3_2 (gp_c gu_3_3 (gp_n))))) (by decide +kernel)
theorem wsX30_in : ∀ w ∈ wsX30, w ∈ lw_tbl := fun w h => (gwX30 w h).1
theorem gu_4_0 : u_lay RX4 TX4 0 ∈ lw_tbl := gt_1 _ (gp_16 (gp_16 (gp_16 (gp_4 (gp_1 gp_h)))))
theorem gu_4_1 : u_lay RX4 TX4 1 ∈ lw_tbl := gt_1 _ (gp_16 (gp_16 (gp_16 (gp_4 (gp_1 (gp_1 (gp_1 gp_h)))))))
theorem gu_4_2 : u_lay RX4 TX4 2 ∈ lw_tbl := gt_1 _ (gp_16 (gp_16 (gp_16 (gp_4 (gp_4 (gp_1 gp_h))))))
theorem gu_4_3 : u_lay RX4 TX4 3 ∈ lw_tbl := gt_1 _ (gp_16 (gp_16 (gp_16 (gp_4 (gp_4 (gp_1 (gp_1 (gp_1 gp_h))))))))
theorem gu_4_4 : u_lay RX4 TX4 4 ∈ lw_tbl := gt_1 _ (gp_16 (gp_16 (gp_16 (gp_4 (gp_4 (gp_4 (gp_1 gp_h)))))))
theorem gu_4_5 : u_lay RX4 TX4 5 ∈ lw_tbl := gt_1 _ (gp_16 (gp_16 (gp_16 (gp_4 (gp_4 (gp_4 (gp_1 (gp_1 (gp_1 gp_h)))))))))
theorem gu_4_6 : u_lay RX4 TX4 6 ∈ lw_tbl := gt_1 _ (gp_64 (gp_1 gp_h))
theorem gu_4_7 : u_lay RX4 TX4 7 ∈ lw_tbl := gt_1 _ (gp_64 (gp_1 (gp_1 (gp_1 gp_h))))
theorem gu_4_8 : u_lay RX4 TX4 8 ∈ lw_tbl := gt_1 _ (gp_64 (gp_4 (gp_1 gp_h)))
set_option maxRecDepth 20000 in
theorem gwX40 : GoodIn lw_tbl wsX40 := gp_s (gp_c gu_4_0 (gp_c gu_4_1 (gp_c gu_4_2 (gp_c gu_4_3 (gp_c gu_4_4 (gp_c gu_4_5 (gp_c gu_4_6 (gp_c gu_4_7 (gp_c gu_4_8 (gp_n)))))))))) (by decide +kernel)
theorem wsX40_in : ∀ w ∈ wsX40, w ∈ lw_tbl := fun w h => (gwX40 w h).1
theorem gu_5_0 : u_lay RX5 TX5 0 ∈ lw_tbl := gt_2 _ (gp_64 (gp_64 (gp_16 (gp_16 (gp_1 (gp_1 gp_h))))))
theorem gu_5_1 : u_lay RX5 TX5 1 ∈ lw_tbl := gt_2 _ (gp_64 (gp_64 (gp_16 (gp_16 (gp_4 gp_h)))))
set_option maxRecDepth 20000 in
theorem gwX50 : GoodIn lw_tbl wsX50 := gp_s (gp_c gu_5_0 (gp_c gu_5_1 (gp_n))) (by decide +kernel)
theorem wsX50_in : ∀ w ∈ wsX50, w ∈ lw_tbl := fun w h => (gwX50 w h).1
theorem gu_6_0 : u_lay RX6 TX6 0 ∈ lw_tbl := gt_1 _ (gp_64 (gp_64 (gp_16 (gp_16 (gp_1 (gp_1 (gp_1 gp_h)))))))
theorem gu_6_1 : u_lay RX6 TX6 1 ∈ lw_tbl := gt_1 _ (gp_64 (gp_64 (gp_16 (gp_16 (gp_4 (gp_1 gp_h))))))
theorem gu_6_2 : u_lay RX6 TX6 2 ∈ lw_tbl := gt_1 _ (gp_64 (gp_64 (gp_16 (gp_16 (gp_4 (gp_1 (gp_1 (gp_1 gp_h))))))))
theorem gu_6_3 : u_lay RX6 TX6 3 ∈ lw_tbl := gt_1 _ (gp_64 (gp_64 (gp_16 (gp_16 (gp_4 (gp_4 (gp_1 gp_h)))))))
set_option maxRecDepth 20000 in
theorem gwX60 : GoodIn lw_tbl wsX60 := gp_s (gp_c gu_6_0 (gp_c gu_6_1 (gp_c gu_6_2 (gp_c gu_6_3 (gp_n))))) (by decide +kernel)
theorem wsX60_in : ∀ w ∈ wsX60, w ∈ lw_tbl := fun w h => (gwX60 w h).1
theorem gu_7_0 : u_lay RX7 TX7 0 ∈ lw_tbl := gt_1 _ (gp_64 (gp_64 (gp_64 (gp_16 (gp_16 (gp_4 (gp_4 (gp_4 gp_h))))))))
theorem gu_7_1 : u_lay RX7 TX7 1 ∈ lw_tbl := gt_1 _ (gp_64 (gp_64 (gp_64 (gp_16 (gp_16 (gp_4 (gp_4 (gp_4 (gp_1 (gp_1 gp_h))))))))))
theorem gu_7_2 : u_lay RX7 TX7 2 ∈ lw_tbl := gt_2 _ (gp_h)
theorem gu_7_3 : u_lay RX7 TX7 3 ∈ lw_tbl := gt_2 _ (gp_1 (gp_1 gp_h))
theorem gu_7_4 : u_lay RX7 TX7 4 ∈ lw_tbl := gt_2 _ (gp_4 gp_h)
theorem gu_7_5 : u_lay RX7 TX7 5 ∈ lw_tbl := gt_2 _ (gp_4 (gp_1 (gp_1 gp_h)))
theorem gu_7_6 : u_lay RX7 TX7 6 ∈ lw_tbl := gt_2 _ (gp_4 (gp_4 gp_h))
theorem gu_7_7 : u_lay RX7 TX7 7 ∈ lw_tbl := gt_2 _ (gp_4 (gp_4 (gp_1 (gp_1 gp_h))))
set_option maxRecDepth 20000 in
theorem gwX70 : GoodIn lw_tbl wsX70 := gp_s (gp_c gu_7_0 (gp_c gu_7_1 (gp_c gu_7_2 (gp_c gu_7_3 (gp_c gu_7_4 (gp_c gu_7_5 (gp_c gu_7_6 (gp_c gu_7_7 (gp_n))))))))) (by decide +kernel)
theorem wsX70_in : ∀ w ∈ wsX70, w ∈ lw_tbl := fun w h => (gwX70 w h).1
theorem gu_8_0 : u_lay RX8 TX8 0 ∈ lw_tbl := gt_1 _ (gp_64 (gp_64 (gp_16 (gp_16 (gp_16 (gp_4 (gp_4 gp_h)))))))
theorem gu_8_1 : u_lay RX8 TX8 1 ∈ lw_tbl := gt_1 _ (gp_64 (gp_64 (gp_16 (gp_16 (gp_16 (gp_4 (gp_4 (gp_1 (gp_1 gp_h)))))))))
theorem gu_8_2 : u_lay RX8 TX8 2 ∈ lw_tbl := gt_1 _ (gp_64 (gp_64 (gp_16 (gp_16 (gp_16 (gp_4 (gp_4 (gp_4 gp_h))))))))
theorem gu_8_3 : u_lay RX8 TX8 3 ∈ lw_tbl := gt_1 _ (gp_64 (gp_64 (gp_16 (gp_16 (gp_16 (gp_4 (gp_4 (gp_4 (gp_1 (gp_1 gp_h))))))))))
theorem gu_8_4 : u_lay RX8 TX8 4 ∈ lw_tbl := gt_1 _ (gp_64 (gp_64 (gp_64 gp_h)))
theorem gu_8_5 : u_lay RX8 TX8 5 ∈ lw_tbl := gt_1 _ (gp_64 (gp_64 (gp_64 (gp_1 (gp_1 gp_h)))))
theorem gu_8_6 : u_lay RX8 TX8 6 ∈ lw_tbl := gt_1 _ (gp_64 (gp_64 (gp_64 (gp_4 gp_h))))
theorem gu_8_7 : u_lay RX8 TX8 7 ∈ lw_tbl := gt_1 _ (gp_64 (gp_64 (gp_64 (gp_4 (gp_1 (gp_1 gp_h))))))
theorem gu_8_8 : u_lay RX8 TX8 8 ∈ lw_tbl := gt_1 _ (gp_64 (gp_64 (gp_64 (gp_4 (gp_4 gp_h)))))
theorem gu_8_9 : u_lay RX8 TX8 9 ∈ lw_tbl := gt_1 _ (gp_64 (gp_64 (gp_64 (gp_4 (gp_4 (gp_1 (gp_1 gp_h)))))))
theorem gu_8_10 : u_lay RX8 TX8 10 ∈ lw_tbl := gt_1 _ (gp_64 (gp_64 (gp_64 (gp_4 (gp_4 (gp_4 gp_h))))))
theorem gu_8_11 : u_lay RX8 TX8 11 ∈ lw_tbl := gt_1 _ (gp_64 (gp_64 (gp_64 (gp_4 (gp_4 (gp_4 (gp_1 (gp_1 gp_h))))))))
set_option maxRecDepth 20000 in
theorem gwX80 : GoodIn lw_tbl wsX80 := gp_s (gp_c gu_8_0 (gp_c gu_8_1 (gp_c gu_8_2 (gp_c gu_8_3 (gp_c gu_8_4 (gp_c gu_8_5 (gp_c gu_8_6 (gp_c gu_8_7 (gp_c gu_8_8 (gp_c gu_8_9 (gp_c gu_8_10 (gp_c gu_8_11 (gp_n))))))))))))) (by decide +kernel)
theorem wsX80_in : ∀ w ∈ wsX80, w ∈ lw_tbl := fun w h => (gwX80 w h).1
theorem gu_9_0 : u_lay RX9 TX9 0 ∈ lw_tbl := gt_4 _ (gp_64 (gp_1 (gp_1 gp_h)))
theorem gu_9_1 : u_lay RX9 TX9 1 ∈ lw_tbl := gt_4 _ (gp_64 (gp_4 gp_h))
theorem gu_9_2 : u_lay RX9 TX9 2 ∈ lw_tbl := gt_4 _ (gp_64 (gp_4 (gp_1 (gp_1 gp_h))))
theorem gu_9_3 : u_lay RX9 TX9 3 ∈ lw_tbl := gt_4 _ (gp_64 (gp_4 (gp_4 gp_h)))
theorem gu_9_4 : u_lay RX9 TX9 4 ∈ lw_tbl := gt_4 _ (gp_64 (gp_4 (gp_4 (gp_1 (gp_1 gp_h)))))
theorem gu_9_5 : u_lay RX9 TX9 5 ∈ lw_tbl := gt_4 _ (gp_64 (gp_4 (gp_4 (gp_4 gp_h))))
theorem gu_9_6 : u_lay RX9 TX9 6 ∈ lw_tbl := gt_4 _ (gp_64 (gp_4 (gp_4 (gp_4 (gp_1 (gp_1 gp_h))))))
theorem gu_9_7 : u_lay RX9 TX9 7 ∈ lw_tbl := gt_4 _ (gp_64 (gp_16 gp_h))
theorem gu_9_8 : u_lay RX9 TX9 8 ∈ lw_tbl := gt_4 _ (gp_64 (gp_16 (gp_1 (gp_1 gp_h))))
theorem gu_9_9 : u_lay RX9 TX9 9 ∈ lw_tbl := gt_4 _ (gp_64 (gp_16 (gp_4 gp_h)))
theorem gu_9_10 : u_lay RX9 TX9 10 ∈ lw_tbl := gt_4 _ (gp_64 (gp_16 (gp_4 (gp_1 (gp_1 gp_h)))))
theorem gu_9_11 : u_lay RX9 TX9 11 ∈ lw_tbl := gt_4 _ (gp_64 (gp_16 (gp_4 (gp_4 gp_h))))
theorem gu_9_12 : u_lay RX9 TX9 12 ∈ lw_tbl := gt_4 _ (gp_64 (gp_16 (gp_4 (gp_4 (gp_1 (gp_1 gp_h))))))
theorem gu_9_13 : u_lay RX9 TX9 13 ∈ lw_tbl := gt_4 _ (gp_64 (gp_16 (gp_4 (gp_4 (gp_4 gp_h)))))
theorem gu_9_14 : u_lay RX9 TX9 14 ∈ lw_tbl := gt_4 _ (gp_64 (gp_16 (gp_4 (gp_4 (gp_4 (gp_1 (gp_1 gp_h)))))))
theorem gu_9_15 : u_lay RX9 TX9 15 ∈ lw_tbl := gt_4 _ (gp_64 (gp_16 (gp_16 gp_h)))
theorem gu_9_16 : u_lay RX9 TX9 16 ∈ lw_tbl := gt_4 _ (gp_64 (gp_16 (gp_16 (gp_1 (gp_1 gp_h)))))
theorem gu_9_17 : u_lay RX9 TX9 17 ∈ lw_tbl := gt_4 _ (gp_64 (gp_16 (gp_16 (gp_4 gp_h))))
theorem gu_9_18 : u_lay RX9 TX9 18 ∈ lw_tbl := gt_4 _ (gp_64 (gp_16 (gp_16 (gp_4 (gp_1 (gp_1 gp_h))))))
theorem gu_9_19 : u_lay RX9 TX9 19 ∈ lw_tbl := gt_4 _ (gp_64 (gp_16 (gp_16 (gp_4 (gp_4 gp_h)))))
theorem gu_9_20 : u_lay RX9 TX9 20 ∈ lw_tbl := gt_4 _ (gp_64 (gp_16 (gp_16 (gp_4 (gp_4 (gp_1 (gp_1 gp_h)))))))
theorem gu_9_21 : u_lay RX9 TX9 21 ∈ lw_tbl := gt_4 _ (gp_64 (gp_16 (gp_16 (gp_4 (gp_4 (gp_4 gp_h))))))
theorem gu_9_22 : u_lay RX9 TX9 22 ∈ lw_tbl := gt_4 _ (gp_64 (gp_16 (gp_16 (gp_4 (gp_4 (gp_4 (gp_1 (gp_1 gp_h))))))))
theorem gu_9_23 : u_lay RX9 TX9 23 ∈ lw_tbl := gt_4 _ (gp_64 (gp_16 (gp_16 (gp_16 gp_h))))
theorem gu_9_24 : u_lay RX9 TX9 24 ∈ lw_tbl := gt_4 _ (gp_64 (gp_16 (gp_16 (gp_16 (gp_1 (gp_1 gp_h))))))
theorem gu_9_25 : u_lay RX9 TX9 25 ∈ lw_tbl := gt_4 _ (gp_64 (gp_16 (gp_16 (gp_16 (gp_4 gp_h)))))
theorem gu_9_26 : u_lay RX9 TX9 26 ∈ lw_tbl := gt_4 _ (gp_64 (gp_16 (gp_16 (gp_16 (gp_4 (gp_1 (gp_1 gp_h)))))))
theorem gu_9_27 : u_lay RX9 TX9 27 ∈ lw_tbl := gt_4 _ (gp_64 (gp_16 (gp_16 (gp_16 (gp_4 (gp_4 gp_h))))))
theorem gu_9_28 : u_lay RX9 TX9 28 ∈ lw_tbl := gt_4 _ (gp_64 (gp_16 (gp_16 (gp_16 (gp_4 (gp_4 (gp_1 (gp_1 gp_h))))))))
theorem gu_9_29 : u_lay RX9 TX9 29 ∈ lw_tbl := gt_4 _ (gp_64 (gp_16 (gp_16 (gp_16 (gp_4 (gp_4 (gp_4 gp_h)))))))
theorem gu_9_30 : u_lay RX9 TX9 30 ∈ lw_tbl := gt_4 _ (gp_64 (gp_16 (gp_16 (gp_16 (gp_4 (gp_4 (gp_4 (gp_1 (gp_1 gp_h)))))))))
theorem gu_9_31 : u_lay RX9 TX9 31 ∈ lw_tbl := gt_4 _ (gp_64 (gp_64 gp_h))
theorem gu_9_32 : u_lay RX9 TX9 32 ∈ lw_tbl := gt_4 _ (gp_64 (gp_64 (gp_1 (gp_1 gp_h))))
theorem gu_9_33 : u_lay RX9 TX9 33 ∈ lw_tbl := gt_4 _ (gp_64 (gp_64 (gp_4 gp_h)))
theorem gu_9_34 : u_lay RX9 TX9 34 ∈ lw_tbl := gt_4 _ (gp_64 (gp_64 (gp_4 (gp_1 (gp_1 gp_h)))))
theorem gu_9_35 : u_lay RX9 TX9 35 ∈ lw_tbl := gt_4 _ (gp_64 (gp_64 (gp_4 (gp_4 gp_h))))
theorem gu_9_36 : u_lay RX9 TX9 36 ∈ lw_tbl := gt_4 _ (gp_64 (gp_64 (gp_4 (gp_4 (gp_1 (gp_1 gp_h))))))
theorem gu_9_37 : u_lay RX9 TX9 37 ∈ lw_tbl := gt_4 _ (gp_64 (gp_64 (gp_4 (gp_4 (gp_4 gp_h)))))
theorem gu_9_38 : u_lay RX9 TX9 38 ∈ lw_tbl := gt_4 _ (gp_64 (gp_64 (gp_4 (gp_4 (gp_4 (gp_1 (gp_1 gp_h)))))))
theorem gu_9_39 : u_lay RX9 TX9 39 ∈ lw_tbl := gt_4 _ (gp_64 (gp_64 (gp_16 gp_h)))
theorem gu_9_40 : u_lay RX9 TX9 40 ∈ lw_tbl := gt_4 _ (gp_64 (gp_64 (gp_16 (gp_1 (gp_1 gp_h)))))
theorem gu_9_41 : u_lay RX9 TX9 41 ∈ lw_tbl := gt_4 _ (gp_64 (gp_64 (gp_16 (gp_4 gp_h))))
theorem gu_9_42 : u_lay RX9 TX9 42 ∈ lw_tbl := gt_4 _ (gp_64 (gp_64 (gp_16 (gp_4 (gp_1 (gp_1 gp_h))))))
theorem gu_9_43 : u_lay RX9 TX9 43 ∈ lw_tbl := gt_4 _ (gp_64 (gp_64 (gp_16 (gp_4 (gp_4 gp_h)))))
theorem gu_9_44 : u_lay RX9 TX9 44 ∈ lw_tbl := gt_4 _ (gp_64 (gp_64 (gp_16 (gp_4 (gp_4 (gp_1 (gp_1 gp_h)))))))
theorem gu_9_45 : u_lay RX9 TX9 45 ∈ lw_tbl := gt_4 _ (gp_64 (gp_64 (gp_16 (gp_4 (gp_4 (gp_4 gp_h))))))
theorem gu_9_46 : u_lay RX9 TX9 46 ∈ lw_tbl := gt_4 _ (gp_64 (gp_64 (gp_16 (gp_4 (gp_4 (gp_4 (gp_1 (gp_1 gp_h))))))))
theorem gu_9_47 : u_lay RX9 TX9 47 ∈ lw_tbl := gt_4 _ (gp_64 (gp_64 (gp_16 (gp_16 gp_h))))
theorem gu_9_48 : u_lay RX9 TX9 48 ∈ lw_tbl := gt_4 _ (gp_64 (gp_64 (gp_16 (gp_16 (gp_1 (gp_1 gp_h))))))
theorem gu_9_49 : u_lay RX9 TX9 49 ∈ lw_tbl := gt_4 _ (gp_64 (gp_64 (gp_16 (gp_16 (gp_4 gp_h)))))
theorem gu_9_50 : u_lay RX9 TX9 50 ∈ lw_tbl := gt_4 _ (gp_64 (gp_64 (gp_16 (gp_16 (gp_4 (gp_1 (gp_1 gp_h)))))))
set_option maxRecDepth 20000 in
theorem gwX90 : GoodIn lw_tbl wsX90 := gp_s (gp_c gu_9_0 (gp_c gu_9_1 (gp_c gu_9_2 (gp_c gu_9_3 (gp_c gu_9_4 (gp_c gu_9_5 (gp_c gu_9_6 (gp_c gu_9_7 (gp_c gu_9_8 (gp_c gu_9_9 (gp_c gu_9_10 (gp_c gu_9_11 (gp_c gu_9_12 (gp_c gu_9_13 (gp_c gu_9_14 (gp_c gu_9_15 (gp_c gu_9_16 (gp_c gu_9_17 (gp_c gu_9_18 (gp_c gu_9_19 (gp_c gu_9_20 (gp_c gu_9_21 (gp_c gu_9_22 (gp_c gu_9_23 (gp_c gu_9_24 (gp_c gu_9_25 (gp_c gu_9_26 (gp_c gu_9_27 (gp_c gu_9_28 (gp_c gu_9_29 (gp_c gu_9_30 (gp_c gu_9_31 (gp_c gu_9_32 (gp_c gu_9_33 (gp_c gu_9_34 (gp_c gu_9_35 (gp_c gu_9_36 (gp_c gu_9_37 (gp_c gu_9_38 (gp_c gu_9_39 (gp_c gu_9_40 (gp_c gu_9_41 (gp_c gu_9_42 (gp_c gu_9_43 (gp_c gu_9_44 (gp_c gu_9_45 (gp_c gu_9_46 (gp_c gu_9_47 (gp_c gu_9_48 (gp_c gu_9_49 (gp_c gu_9_50 (gp_n)))))))))))))))))))))))))))))))))))))))))))))))))))) (by decide +kernel)
theorem wsX90_in : ∀ w ∈ wsX90, w ∈ lw_tbl := fun w h => (gwX90 w h).1
def GpW (l : List Cond) : Prop := ∀ w, w ∈ l → vx_no w = true → goodWord w = true → w ∈ lw_tbl
theorem gv_n : GpW [] := fun _ h => absurd h List.not_mem_nil
theorem gv_c {l : List Cond} {c : Cond} (h : c ∈ lw_tbl) (r : GpW l) : GpW (c :: l) := fun w hw a b => (List.mem_cons.mp hw).elim (fun e => by rw [e]; exact h) (fun k => r w k a b)
theorem gv_x {l : List Cond} {c : Cond} (h : vx_no c = false ∨ goodWord c = false) (r : GpW l) : GpW (c :: l) := fun w hw a b => (List.mem_cons.mp hw).elim (fun e => by rw [e] at a b; rcases h with h | h; (rw [h] at a; cases a); (rw [h] at b; cases b)) (fun k => r w k a b)
theorem gv_a {a b : List Cond} (h1 : GpW a) (h2 : GpW b) : GpW (a ++ b) := fun w hw p q => (List.mem_append.mp hw).elim (fun k => h1 w k p q) (fun k => h2 w k p q)
theorem gv_o {own : String} {ic : Nat} {X : String} {names : List String} (h : GpW (Bundle.ownAtoms own ic X names)) : GoodIn lw_tbl ((vx_atS own ic X names).filter goodWord) := fun w hw => by
  obtain ⟨h1, h2⟩ := List.mem_filter.mp hw
  obtain ⟨h3, h4⟩ := List.mem_filter.mp h1
  exact ⟨h w h3 h4 h2, good_of_word h2⟩
theorem gvx0 : GoodIn lw_tbl ((vx_atS RX8 185 "java/lang/IllegalArgumentException" ["java/lang/RuntimeException", "java/lang/Exception"]).filter goodWord) := by first | exact gv_o (gv_a (gv_a (gv_a (gv_c (gt_1 _ (gp_4 (gp_4 (gp_1 (gp_1 (gp_1 gp_h)))))) (gv_c (gt_3 _ (gp_64 (gp_64 (gp_16 (gp_16 (gp_1 gp_h)))))) (gv_c (gt_3 _ (gp_64 (gp_64 (gp_16 (gp_16 (gp_4 (gp_4 (gp_1 (gp_1 gp_h))))))))) (gv_c (gt_3 _ (gp_64 (gp_64 (gp_16 (gp_16 (gp_4 (gp_4 (gp_4 (gp_1 (gp_1 gp_h)))))))))) (gv_c (gt_3 _ (gp_64 (gp_64 (gp_16 (gp_16 (gp_16 (gp_1 gp_h))))))) (gv_c (gt_3 _ (gp_64 (gp_64 (gp_16 (gp_16 (gp_16 (gp_1 (gp_1 (gp_1 gp_h))))))))) (gv_c (gt_3 _ (gp_64 (gp_64 (gp_16 (gp_16 (gp_1 (gp_1 gp_h))))))) (gv_c (gt_3 _ (gp_64 (gp_64 (gp_16 (gp_16 (gp_1 (gp_1 (gp_1 gp_h)))))))) (gv_c (gt_1 _ (gp_16 (gp_4 (gp_4 gp_h)))) (gv_c (gt_1 _ (gp_16 (gp_4 (gp_4 (gp_1 gp_h))))) (gv_c (gt_3 _ (gp_64 (gp_64 (gp_16 (gp_16 (gp_4 gp_h)))))) (gv_c (gt_3 _ (gp_64 (gp_64 (gp_16 (gp_16 (gp_4 (gp_4 (gp_1 gp_h)))))))) (gv_c (gt_3 _ (gp_64 (gp_64 (gp_16 (gp_16 (gp_4 (gp_4 (gp_4 (gp_1 (gp_1 (gp_1 gp_h))))))))))) (gv_c (gt_3 _ (gp_64 (gp_64 (gp_64 (gp_1 (gp_1 (gp_1 gp_h))))))) (gv_c (gt_3 _ (gp_64 (gp_64 (gp_16 (gp_4 (gp_1 (gp_1 (gp_1 gp_h)))))))) (gv_c (gt_3 _ (gp_64 (gp_64 (gp_64 (gp_4 gp_h))))) (gv_c (gt_3 _ (gp_64 (gp_64 (gp_16 (gp_4 (gp_4 (gp_1 gp_h))))))) (gv_c (gt_3 _ (gp_64 (gp_64 (gp_64 (gp_4 (gp_1 gp_h)))))) (gv_c (gt_3 _ (gp_64 (gp_64 (gp_16 (gp_4 (gp_4 (gp_1 (gp_1 (gp_1 gp_h))))))))) (gv_c (gt_3 _ (gp_64 (gp_64 (gp_16 (gp_16 (gp_4 (gp_1 gp_h))))))) (gv_x (by first | exact Or.inr rfl | exact Or.inl (by decide +kernel)) (gv_c (gt_3 _ (gp_64 (gp_64 (gp_16 (gp_16 (gp_4 (gp_1 (gp_1 (gp_1 gp_h))))))))) (gv_x (by first | exact Or.inr rfl | exact Or.inl (by decide +kernel)) (gv_c (gt_3 _ (gp_64 (gp_64 (gp_16 (gp_4 (gp_4 (gp_4 (gp_1 gp_h)))))))) (gv_n))))))))))))))))))))))))) (gv_c (gt_3 _ (gp_64 (gp_64 (gp_16 (gp_16 (gp_16 (gp_4 (gp_4 (gp_4 (gp_1 (gp_1 (gp_1 gp_h)))))))))))) (gv_c (gt_3 _ (gp_64 (gp_64 (gp_64 gp_h)))) (gv_c (gt_3 _ (gp_64 (gp_64 (gp_64 (gp_1 (gp_1 gp_h)))))) (gv_c (gt_3 _ (gp_64 (gp_64 (gp_16 (gp_4 (gp_4 (gp_4 (gp_1 gp_h)))))))) (gv_n)))))) (gv_a (gv_c (gt_3 _ (gp_64 (gp_64 (gp_16 (gp_16 (gp_16 (gp_4 (gp_1 (gp_1 gp_h))))))))) (gv_c (gt_3 _ (gp_64 (gp_64 (gp_16 (gp_16 (gp_16 (gp_4 (gp_1 (gp_1 (gp_1 gp_h)))))))))) (gv_c (gt_3 _ (gp_64 (gp_64 (gp_16 (gp_16 (gp_16 (gp_4 (gp_4 gp_h)))))))) (gv_c (gt_3 _ (gp_64 (gp_64 (gp_16 (gp_16 (gp_16 (gp_4 (gp_4 (gp_1 gp_h))))))))) (gv_c (gt_3 _ (gp_64 (gp_64 (gp_4 (gp_4 (gp_4 (gp_1 (gp_1 (gp_1 gp_h))))))))) (gv_n)))))) (gv_a (gv_c (gt_3 _ (gp_64 (gp_64 (gp_16 (gp_16 (gp_16 (gp_4 (gp_4 (gp_1 gp_h))))))))) (gv_c (gt_3 _ (gp_64 (gp_64 (gp_16 (gp_16 (gp_16 (gp_4 (gp_4 (gp_1 (gp_1 gp_h)))))))))) (gv_c (gt_3 _ (gp_64 (gp_64 (gp_16 (gp_16 (gp_16 (gp_4 (gp_4 (gp_1 (gp_1 (gp_1 gp_h))))))))))) (gv_c (gt_3 _ (gp_64 (gp_64 (gp_16 (gp_16 (gp_16 (gp_4 (gp_4 (gp_4 gp_h))))))))) (gv_c (gt_3 _ (gp_64 (gp_64 (gp_16 (gp_1 gp_h))))) (gv_n)))))) (gv_c (gt_3 _ (gp_64 (gp_64 (gp_16 (gp_16 (gp_16 (gp_4 (gp_4 (gp_4 gp_h))))))))) (gv_c (gt_3 _ (gp_64 (gp_64 (gp_16 (gp_16 (gp_16 (gp_4 (gp_4 (gp_4 (gp_1 gp_h)))))))))) (gv_c (gt_3 _ (gp_64 (gp_64 (gp_16 (gp_16 (gp_16 (gp_4 (gp_4 (gp_4 (gp_1 (gp_1 gp_h))))))))))) (gv_c (gt_3 _ (gp_64 (gp_64 (gp_16 (gp_16 (gp_16 (gp_4 (gp_4 (gp_4 (gp_1 (gp_1 (gp_1 gp_h)))))))))))) (gv_c (gt_3 _ (gp_64 (gp_64 (gp_16 (gp_1 (gp_1 (gp_1 gp_h))))))) (gv_n))))))))) (gv_c (gt_3 _ (gp_64 (gp_64 (gp_16 (gp_16 (gp_16 (gp_4 (gp_1 gp_h)))))))) (gv_c (gt_3 _ (gp_64 (gp_64 (gp_4 (gp_4 (gp_4 gp_h)))))) (gv_c (gt_3 _ (gp_64 (gp_64 (gp_4 (gp_4 (gp_4 (gp_1 gp_h))))))) (gv_c (gt_3 _ (gp_64 (gp_64 (gp_16 (gp_4 gp_h))))) (gv_c (gt_3 _ (gp_64 (gp_64 (gp_16 (gp_4 (gp_1 gp_h)))))) (gv_c (gt_3 _ (gp_64 (gp_64 (gp_16 (gp_4 (gp_1 (gp_1 gp_h))))))) (gv_c (gt_3 _ (gp_64 (gp_64 (gp_16 (gp_4 (gp_4 gp_h)))))) (gv_c (gt_3 _ (gp_64 (gp_64 (gp_16 (gp_4 (gp_4 (gp_1 (gp_1 gp_h)))))))) (gv_c (gt_3 _ (gp_64 (gp_64 (gp_16 (gp_4 (gp_4 (gp_4 gp_h))))))) (gv_x (by first | exact Or.inr rfl | exact Or.inl (by decide +kernel)) (gv_x (by first | exact Or.inr rfl | exact Or.inl (by decide +kernel)) (gv_c (gt_3 _ (gp_64 (gp_64 (gp_16 (gp_16 gp_h))))) (gv_c (gt_3 _ (gp_64 (gp_64 (gp_16 (gp_4 (gp_4 (gp_4 (gp_1 (gp_1 (gp_1 gp_h)))))))))) (gv_c (gt_3 _ (gp_64 (gp_64 (gp_16 (gp_4 (gp_4 (gp_4 (gp_1 (gp_1 gp_h))))))))) (gv_n)))))))))))))))) | exact goodIn_sub (by decide +kernel) (by decide +kernel)
theorem gvx1 : GoodIn lw_tbl ((vx_atS RX8 192 "java/lang/IndexOutOfBoundsException" ["java/lang/RuntimeException", "java/lang/Exception"]).filter goodWord) := by first | exact gv_o (gv_a (gv_a (gv_a (gv_c (gt_1 _ (gp_4 (gp_4 (gp_1 (gp_1 (gp_1 gp_h)))))) (gv_c (gt_3 _ (gp_64 (gp_64 (gp_16 (gp_16 (gp_1 gp_h)))))) (gv_c (gt_3 _ (gp_64 (gp_64 (gp_16 (gp_16 (gp_4 (gp_4 (gp_1 (gp_1 gp_h))))))))) (gv_c (gt_3 _ (gp_64 (gp_64 (gp_16 (gp_16 (gp_4 (gp_4 (gp_4 (gp_1 (gp_1 gp_h)))))))))) (gv_c (gt_3 _ (gp_64 (gp_64 (gp_16 (gp_16 (gp_16 (gp_1 gp_h))))))) (gv_c (gt_3 _ (gp_64 (gp_64 (gp_16 (gp_16 (gp_16 (gp_1 (gp_1 (gp_1 gp_h))))))))) (gv_c (gt_3 _ (gp_64 (gp_64 (gp_16 (gp_16 (gp_1 (gp_1 gp_h))))))) (gv_c (gt_3 _ (gp_64 (gp_64 (gp_16 (gp_16 (gp_1 (gp_1 (gp_1 gp_h)))))))) (gv_c (gt_1 _ (gp_16 (gp_4 (gp_4 gp_h)))) (gv_c (gt_1 _ (gp_16 (gp_4 (gp_4 (gp_1 gp_h))))) (gv_c (gt_3 _ (gp_64 (gp_64 (gp_16 (gp_16 (gp_4 gp_h)))))) (gv_c (gt_3 _ (gp_64 (gp_64 (gp_16 (gp_16 (gp_4 (gp_4 (gp_1 gp_h)))))))) (gv_c (gt_3 _ (gp_64 (gp_64 (gp_16 (gp_16 (gp_4 (gp_4 (gp_4 (gp_1 (gp_1 (gp_1 gp_h))))))))))) (gv_c (gt_3 _ (gp_64 (gp_64 (gp_64 (gp_1 (gp_1 (gp_1 gp_h))))))) (gv_c (gt_3 _ (gp_64 (gp_64 (gp_16 (gp_4 (gp_1 (gp_1 (gp_1 gp_h)))))))) (gv_c (gt_3 _ (gp_64 (gp_64 (gp_64 (gp_4 gp_h))))) (gv_c (gt_3 _ (gp_64 (gp_64 (gp_16 (gp_4 (gp_4 (gp_1 gp_h))))))) (gv_c (gt_3 _ (gp_64 (gp_64 (gp_64 (gp_4 (gp_1 gp_h)))))) (gv_c (gt_3 _ (gp_64 (gp_64 (gp_16 (gp_4 (gp_4 (gp_1 (gp_1 (gp_1 gp_h))))))))) (gv_c (gt_3 _ (gp_64 (gp_64 (gp_16 (gp_16 (gp_4 (gp_1 gp_h))))))) (gv_x (by first | exact Or.inr rfl | exact Or.inl (by decide +kernel)) (gv_c (gt_3 _ (gp_64 (gp_64 (gp_16 (gp_16 (gp_4 (gp_1 (gp_1 (gp_1 gp_h))))))))) (gv_x (by first | exact Or.inr rfl | exact Or.inl (by decide +kernel)) (gv_c (gt_3 _ (gp_64 (gp_64 (gp_16 (gp_4 (gp_4 (gp_4 (gp_1 gp_h)))))))) (gv_n))))))))))))))))))))))))) (gv_c (gt_3 _ (gp_64 (gp_64 (gp_16 (gp_16 (gp_16 (gp_4 (gp_4 (gp_4 (gp_1 (gp_1 (gp_1 gp_h)))))))))))) (gv_c (gt_3 _ (gp_64 (gp_64 (gp_64 gp_h)))) (gv_c (gt_3 _ (gp_64 (gp_64 (gp_64 (gp_1 (gp_1 gp_h)))))) (gv_c (gt_3 _ (gp_64 (gp_64 (gp_16 (gp_4 (gp_4 (gp_4 (gp_1 gp_h)))))))) (gv_n)))))) (gv_a (gv_c (gt_3 _ (gp_64 (gp_64 (gp_64 (gp_16 (gp_4 (gp_4 (gp_1 (gp_1 gp_h))))))))) (gv_c (gt_3 _ (gp_64 (gp_64 (gp_64 (gp_16 (gp_4 (gp_4 (gp_1 (gp_1 (gp_1 gp_h)))))))))) (gv_c (gt_3 _ (gp_64 (gp_64 (gp_64 (gp_16 (gp_4 (gp_4 (gp_4 gp_h)))))))) (gv_c (gt_3 _ (gp_64 (gp_64 (gp_16 (gp_16 (gp_16 (gp_4 (gp_4 (gp_1 gp_h))))))))) (gv_c (gt_3 _ (gp_64 (gp_64 (gp_4 (gp_4 (gp_4 (gp_1 (gp_1 (gp_1 gp_h))))))))) (gv_n)))))) (gv_a (gv_c (gt_3 _ (gp_64 (gp_64 (gp_16 (gp_16 (gp_16 (gp_4 (gp_4 (gp_1 gp_h))))))))) (gv_c (gt_3 _ (gp_64 (gp_64 (gp_16 (gp_16 (gp_16 (gp_4 (gp_4 (gp_1 (gp_1 gp_h)))))))))) (gv_c (gt_3 _ (gp_64 (gp_64 (gp_16 (gp_16 (gp_16 (gp_4 (gp_4 (gp_1 (gp_1 (gp_1 gp_h))))))))))) (gv_c (gt_3 _ (gp_64 (gp_64 (gp_16 (gp_16 (gp_16 (gp_4 (gp_4 (gp_4 gp_h))))))))) (gv_c (gt_3 _ (gp_64 (gp_64 (gp_16 (gp_1 gp_h))))) (gv_n)))))) (gv_c (gt_3 _ (gp_64 (gp_64 (gp_16 (gp_16 (gp_16 (gp_4 (gp_4 (gp_4 gp_h))))))))) (gv_c (gt_3 _ (gp_64 (gp_64 (gp_16 (gp_16 (gp_16 (gp_4 (gp_4 (gp_4 (gp_1 gp_h)))))))))) (gv_c (gt_3 _ (gp_64 (gp_64 (gp_16 (gp_16 (gp_16 (gp_4 (gp_4 (gp_4 (gp_1 (gp_1 gp_h))))))))))) (gv_c (gt_3 _ (gp_64 (gp_64 (gp_16 (gp_16 (gp_16 (gp_4 (gp_4 (gp_4 (gp_1 (gp_1 (gp_1 gp_h)))))))))))) (gv_c (gt_3 _ (gp_64 (gp_64 (gp_16 (gp_1 (gp_1 (gp_1 gp_h))))))) (gv_n))))))))) (gv_c (gt_3 _ (gp_64 (gp_64 (gp_64 (gp_16 (gp_4 (gp_4 (gp_1 gp_h)))))))) (gv_c (gt_3 _ (gp_64 (gp_64 (gp_64 (gp_16 gp_h))))) (gv_c (gt_3 _ (gp_64 (gp_64 (gp_64 (gp_16 (gp_1 gp_h)))))) (gv_c (gt_3 _ (gp_64 (gp_64 (gp_64 (gp_16 (gp_1 (gp_1 gp_h))))))) (gv_c (gt_3 _ (gp_64 (gp_64 (gp_16 (gp_16 (gp_4 (gp_4 (gp_4 (gp_1 gp_h))))))))) (gv_c (gt_3 _ (gp_64 (gp_64 (gp_64 (gp_16 (gp_1 (gp_1 (gp_1 gp_h)))))))) (gv_c (gt_3 _ (gp_64 (gp_64 (gp_64 (gp_16 (gp_4 gp_h)))))) (gv_c (gt_3 _ (gp_64 (gp_64 (gp_64 (gp_16 (gp_4 (gp_1 gp_h))))))) (gv_c (gt_3 _ (gp_64 (gp_64 (gp_64 (gp_16 (gp_4 (gp_1 (gp_1 gp_h)))))))) (gv_x (by first | exact Or.inr rfl | exact Or.inl (by decide +kernel)) (gv_x (by first | exact Or.inr rfl | exact Or.inl (by decide +kernel)) (gv_c (gt_3 _ (gp_64 (gp_64 (gp_16 (gp_16 gp_h))))) (gv_c (gt_3 _ (gp_64 (gp_64 (gp_16 (gp_4 (gp_4 (gp_4 (gp_1 (gp_1 (gp_1 gp_h)))))))))) (gv_c (gt_3 _ (gp_64 (gp_64 (gp_64 (gp_16 (gp_4 (gp_1 (gp_1 (gp_1 gp_h))))))))) (gv_n)))))))))))))))) | exact goodIn_sub (by decide +kernel) (by decide +kernel)
theorem gvx2 : GoodIn lw_tbl ((vx_atS RX8 200 "java/lang/IllegalStateException" ["java/lang/RuntimeException", "java/lang/Exception"]).filter goodWord) := by first | exact gv_o (gv_a (gv_a (gv_a (gv_c (gt_1 _ (gp_4 (gp_4 (gp_1 (gp_1 (gp_1 gp_h)))))) (gv_c (gt_3 _ (gp_64 (gp_64 (gp_16 (gp_16 (gp_1 gp_h)))))) (gv_c (gt_3 _ (gp_64 (gp_64 (gp_16 (gp_16 (gp_4 (gp_4 (gp_1 (gp_1 gp_h))))))))) (gv_c (gt_3 _ (gp_64 (gp_64 (gp_16 (gp_16 (gp_4 (gp_4 (gp_4 (gp_1 (gp_1 gp_h)))))))))) (gv_c (gt_3 _ (gp_64 (gp_64 (gp_16 (gp_16 (gp_16 (gp_1 gp_h))))))) (gv_c (gt_3 _ (gp_64 (gp_64 (gp_16 (gp_16 (gp_16 (gp_1 (gp_1 (gp_1 gp_h))))))))) (gv_c (gt_3 _ (gp_64 (gp_64 (gp_16 (gp_16 (gp_1 (gp_1 gp_h))))))) (gv_c (gt_3 _ (gp_64 (gp_64 (gp_16 (gp_16 (gp_1 (gp_1 (gp_1 gp_h)))))))) (gv_c (gt_1 _ (gp_16 (gp_4 (gp_4 gp_h)))) (gv_c (gt_1 _ (gp_16 (gp_4 (gp_4 (gp_1 gp_h))))) (gv_c (gt_3 _ (gp_64 (gp_64 (gp_16 (gp_16 (gp_4 gp_h)))))) (gv_c (gt_3 _ (gp_64 (gp_64 (gp_16 (gp_16 (gp_4 (gp_4 (gp_1 gp_h)))))))) (gv_c (gt_3 _ (gp_64 (gp_64 (gp_16 (gp_16 (gp_4 (gp_4 (gp_4 (gp_1 (gp_1 (gp_1 gp_h))))))))))) (gv_c (gt_3 _ (gp_64 (gp_64 (gp_64 (gp_1 (gp_1 (gp_1 gp_h))))))) (gv_c (gt_3 _ (gp_64 (gp_64 (gp_16 (gp_4 (gp_1 (gp_1 (gp_1 gp_h)))))))) (gv_c (gt_3 _ (gp_64 (gp_64 (gp_64 (gp_4 gp_h))))) (gv_c (gt_3 _ (gp_64 (gp_64 (gp_16 (gp_4 (gp_4 (gp_1 gp_h))))))) (gv_c (gt_3 _ (gp_64 (gp_64 (gp_64 (gp_4 (gp_1 gp_h)))))) (gv_c (gt_3 _ (gp_64 (gp_64 (gp_16 (gp_4 (gp_4 (gp_1 (gp_1 (gp_1 gp_h))))))))) (gv_c (gt_3 _ (gp_64 (gp_64 (gp_16 (gp_16 (gp_4 (gp_1 gp_h))))))) (gv_x (by first | exact Or.inr rfl | exact Or.inl (by decide +kernel)) (gv_c (gt_3 _ (gp_64 (gp_64 (gp_16 (gp_16 (gp_4 (gp_1 (gp_1 (gp_1 gp_h))))))))) (gv_x (by first | exact Or.inr rfl | exact Or.inl (by decide +kernel)) (gv_c (gt_3 _ (gp_64 (gp_64 (gp_16 (gp_4 (gp_4 (gp_4 (gp_1 gp_h)))))))) (gv_n))))))))))))))))))))))))) (gv_c (gt_3 _ (gp_64 (gp_64 (gp_16 (gp_16 (gp_16 (gp_4 (gp_4 (gp_4 (gp_1 (gp_1 (gp_1 gp_h)))))))))))) (gv_c (gt_3 _ (gp_64 (gp_64 (gp_64 gp_h)))) (gv_c (gt_3 _ (gp_64 (gp_64 (gp_64 (gp_1 (gp_1 gp_h)))))) (gv_c (gt_3 _ (gp_64 (gp_64 (gp_16 (gp_4 (gp_4 (gp_4 (gp_1 gp_h)))))))) (gv_n)))))) (gv_a (gv_c (gt_4 _ (gp_1 (gp_1 gp_h))) (gv_c (gt_4 _ (gp_1 (gp_1 (gp_1 gp_h)))) (gv_c (gt_4 _ (gp_4 gp_h)) (gv_c (gt_3 _ (gp_64 (gp_64 (gp_16 (gp_16 (gp_16 (gp_4 (gp_4 (gp_1 gp_h))))))))) (gv_c (gt_3 _ (gp_64 (gp_64 (gp_4 (gp_4 (gp_4 (gp_1 (gp_1 (gp_1 gp_h))))))))) (gv_n)))))) (gv_a (gv_c (gt_3 _ (gp_64 (gp_64 (gp_16 (gp_16 (gp_16 (gp_4 (gp_4 (gp_1 gp_h))))))))) (gv_c (gt_3 _ (gp_64 (gp_64 (gp_16 (gp_16 (gp_16 (gp_4 (gp_4 (gp_1 (gp_1 gp_h)))))))))) (gv_c (gt_3 _ (gp_64 (gp_64 (gp_16 (gp_16 (gp_16 (gp_4 (gp_4 (gp_1 (gp_1 (gp_1 gp_h))))))))))) (gv_c (gt_3 _ (gp_64 (gp_64 (gp_16 (gp_16 (gp_16 (gp_4 (gp_4 (gp_4 gp_h))))))))) (gv_c (gt_3 _ (gp_64 (gp_64 (gp_16 (gp_1 gp_h))))) (gv_n)))))) (gv_c (gt_3 _ (gp_64 (gp_64 (gp_16 (gp_16 (gp_16 (gp_4 (gp_4 (gp_4 gp_h))))))))) (gv_c (gt_3 _ (gp_64 (gp_64 (gp_16 (gp_16 (gp_16 (gp_4 (gp_4 (gp_4 (gp_1 gp_h)))))))))) (gv_c (gt_3 _ (gp_64 (gp_64 (gp_16 (gp_16 (gp_16 (gp_4 (gp_4 (gp_4 (gp_1 (gp_1 gp_h))))))))))) (gv_c (gt_3 _ (gp_64 (gp_64 (gp_16 (gp_16 (gp_16 (gp_4 (gp_4 (gp_4 (gp_1 (gp_1 (gp_1 gp_h)))))))))))) (gv_c (gt_3 _ (gp_64 (gp_64 (gp_16 (gp_1 (gp_1 (gp_1 gp_h))))))) (gv_n))))))))) (gv_c (gt_4 _ (gp_1 gp_h)) (gv_c (gt_3 _ (gp_64 (gp_64 (gp_64 (gp_16 (gp_16 (gp_4 (gp_4 gp_h)))))))) (gv_c (gt_3 _ (gp_64 (gp_64 (gp_64 (gp_16 (gp_16 (gp_4 (gp_4 (gp_1 gp_h))))))))) (gv_c (gt_3 _ (gp_64 (gp_64 (gp_64 (gp_16 (gp_16 (gp_4 (gp_4 (gp_1 (gp_1 gp_h)))))))))) (gv_c (gt_3 _ (gp_64 (gp_64 (gp_16 (gp_16 (gp_4 (gp_4 (gp_4 gp_h)))))))) (gv_c (gt_3 _ (gp_64 (gp_64 (gp_64 (gp_16 (gp_16 (gp_4 (gp_4 (gp_1 (gp_1 (gp_1 gp_h))))))))))) (gv_c (gt_3 _ (gp_64 (gp_64 (gp_64 (gp_16 (gp_16 (gp_4 (gp_4 (gp_4 gp_h))))))))) (gv_c (gt_3 _ (gp_64 (gp_64 (gp_64 (gp_16 (gp_16 (gp_4 (gp_4 (gp_4 (gp_1 gp_h)))))))))) (gv_c (gt_3 _ (gp_64 (gp_64 (gp_64 (gp_16 (gp_16 (gp_4 (gp_4 (gp_4 (gp_1 (gp_1 gp_h))))))))))) (gv_x (by first | exact Or.inr rfl | exact Or.inl (by decide +kernel)) (gv_x (by first | exact Or.inr rfl | exact Or.inl (by decide +kernel)) (gv_c (gt_3 _ (gp_64 (gp_64 (gp_16 (gp_16 gp_h))))) (gv_c (gt_3 _ (gp_64 (gp_64 (gp_16 (gp_4 (gp_4 (gp_4 (gp_1 (gp_1 (gp_1 gp_h)))))))))) (gv_c (gt_3 _ (gp_64 (gp_64 (gp_64 (gp_16 (gp_16 (gp_4 (gp_4 (gp_4 (gp_1 (gp_1 (gp_1 gp_h)))))))))))) (gv_n)))))))))))))))) | exact goodIn_sub (by decide +kernel) (by decide +kernel)
end
section
set_option maxRecDepth 20000 in
theorem tw_167 : (Cond.instantiable RX1 4) ∈ lw_tbl := gt_1 _ (gp_64 (gp_16 (gp_16 (gp_16 (gp_4 (gp_4 (gp_1 (gp_1 (gp_1 gp_h)))))))))
set_option maxRecDepth 20000 in
theorem tw_166 : (Cond.classLink RX8 55 RX1) ∈ lw_tbl := gt_1 _ (gp_64 (gp_16 (gp_16 (gp_16 (gp_4 (gp_4 (gp_1 (gp_1 gp_h))))))))
set_option maxRecDepth 20000 in
theorem tw_226 : (Cond.fieldLink RX8 51 "StateRecords" "journal" "LStateRecords$Journal;") ∈ lw_tbl := gt_1 _ (gp_64 (gp_64 (gp_16 (gp_16 (gp_16 (gp_4 (gp_1 (gp_1 gp_h))))))))
set_option maxRecDepth 20000 in
theorem tw_47 : (Cond.initialized RX2) ∈ lw_tbl := gt_1 _ (gp_1 (gp_1 (gp_1 gp_h)))
set_option maxRecDepth 20000 in
theorem tw_122 : (Cond.instantiable RX2 4) ∈ lw_tbl := gt_1 _ (gp_64 (gp_4 (gp_4 (gp_4 (gp_1 (gp_1 gp_h))))))
set_option maxRecDepth 20000 in
theorem tw_121 : (Cond.classLink RX8 48 RX2) ∈ lw_tbl := gt_1 _ (gp_64 (gp_4 (gp_4 (gp_4 (gp_1 gp_h)))))
set_option maxRecDepth 20000 in
theorem tw_225 : (Cond.fieldLink RX8 44 "StateRecords" "rowsPutBack" "[LStateRecords$Row;") ∈ lw_tbl := gt_1 _ (gp_64 (gp_64 (gp_16 (gp_16 (gp_16 (gp_4 (gp_1 gp_h)))))))
set_option maxRecDepth 20000 in
theorem tw_119 : (Cond.classLink RX8 42 RX5) ∈ lw_tbl := gt_1 _ (gp_64 (gp_4 (gp_4 (gp_1 (gp_1 (gp_1 gp_h))))))
set_option maxRecDepth 20000 in
theorem tw_224 : (Cond.fieldLink RX8 39 "StateRecords" "recorded" "[LStateRecords$Thing;") ∈ lw_tbl := gt_1 _ (gp_64 (gp_64 (gp_16 (gp_16 (gp_16 (gp_4 gp_h))))))
set_option maxRecDepth 20000 in
theorem tw_223 : (Cond.fieldLink RX8 36 "StateRecords" "secondSpare" "LStateRecords$Records;") ∈ lw_tbl := gt_1 _ (gp_64 (gp_64 (gp_16 (gp_16 (gp_16 (gp_1 (gp_1 (gp_1 gp_h))))))))
set_option maxRecDepth 20000 in
theorem tw_222 : (Cond.fieldLink RX8 32 "StateRecords" "spare" "LStateRecords$Records;") ∈ lw_tbl := gt_1 _ (gp_64 (gp_64 (gp_16 (gp_16 (gp_16 (gp_1 (gp_1 gp_h)))))))
set_option maxRecDepth 20000 in
theorem tw_46 : (Cond.initialized RX4) ∈ lw_tbl := gt_1 _ (gp_1 (gp_1 gp_h))
set_option maxRecDepth 20000 in
theorem tw_76 : (Cond.instantiable RX4 9) ∈ lw_tbl := gt_1 _ (gp_16 (gp_16 gp_h))
set_option maxRecDepth 20000 in
theorem tw_221 : (Cond.fieldLink RX8 27 "StateRecords" "saves" "[LStateRecords$Records;") ∈ lw_tbl := gt_1 _ (gp_64 (gp_64 (gp_16 (gp_16 (gp_16 (gp_1 gp_h))))))
set_option maxRecDepth 20000 in
theorem tw_74 : (Cond.classLink RX8 25 RX4) ∈ lw_tbl := gt_1 _ (gp_16 (gp_4 (gp_4 (gp_4 (gp_1 (gp_1 gp_h))))))
set_option maxRecDepth 20000 in
theorem tw_220 : (Cond.fieldLink RX8 21 "StateRecords" "wordsInUse" "[Z") ∈ lw_tbl := gt_1 _ (gp_64 (gp_64 (gp_16 (gp_16 (gp_16 gp_h)))))
set_option maxRecDepth 20000 in
theorem tw_116 : (Cond.arrayClass .boolean) ∈ lw_tbl := gt_1 _ (gp_64 (gp_4 (gp_4 gp_h)))
set_option maxRecDepth 20000 in
theorem tw_218 : (Cond.fieldLink RX8 17 "StateRecords" "things" "[LStateRecords$Thing;") ∈ lw_tbl := gt_1 _ (gp_64 (gp_64 (gp_16 (gp_16 (gp_4 (gp_4 (gp_4 (gp_1 (gp_1 gp_h)))))))))
set_option maxRecDepth 20000 in
theorem tw_72 : (Cond.classLink RX8 15 RX6) ∈ lw_tbl := gt_1 _ (gp_16 (gp_4 (gp_4 (gp_4 gp_h))))
set_option maxRecDepth 20000 in
theorem tw_216 : (Cond.fieldLink RX8 11 "StateRecords" "types" "[LStateRecords$Type;") ∈ lw_tbl := gt_1 _ (gp_64 (gp_64 (gp_16 (gp_16 (gp_4 (gp_4 (gp_4 gp_h)))))))
set_option maxRecDepth 20000 in
theorem tw_70 : (Cond.classLink RX8 9 RX7) ∈ lw_tbl := gt_1 _ (gp_16 (gp_4 (gp_4 (gp_1 (gp_1 gp_h)))))
set_option maxRecDepth 20000 in
theorem tw_69 : (Cond.code objectInit ⟨ #[ 0xb1 ] ⟩ 1 none) ∈ lw_tbl := gt_1 _ (gp_16 (gp_4 (gp_4 (gp_1 gp_h))))
set_option maxRecDepth 20000 in
theorem tw_68 : (Cond.instanceMethod objectInit) ∈ lw_tbl := gt_1 _ (gp_16 (gp_4 (gp_4 gp_h)))
set_option maxRecDepth 20000 in
theorem tw_67 : (Cond.methodLink RX8 3 objectInit) ∈ lw_tbl := gt_1 _ (gp_16 (gp_4 (gp_1 (gp_1 (gp_1 gp_h)))))
set_option maxRecDepth 20000 in
theorem tw_129 : (Cond.instantiable RX3 4) ∈ lw_tbl := gt_1 _ (gp_64 (gp_16 (gp_4 (gp_1 gp_h))))
set_option maxRecDepth 20000 in
theorem tw_154 : (Cond.fieldLink RX2 17 "StateRecords$Journal" "starts" "[I") ∈ lw_tbl := gt_1 _ (gp_64 (gp_16 (gp_16 (gp_4 (gp_4 (gp_4 (gp_1 (gp_1 gp_h))))))))
set_option maxRecDepth 20000 in
theorem tw_151 : (Cond.fieldLink RX2 11 "StateRecords$Journal" "notes" "[LStateRecords$Note;") ∈ lw_tbl := gt_1 _ (gp_64 (gp_16 (gp_16 (gp_4 (gp_4 (gp_1 (gp_1 (gp_1 gp_h))))))))
set_option maxRecDepth 20000 in
theorem tw_127 : (Cond.classLink RX2 9 RX3) ∈ lw_tbl := gt_1 _ (gp_64 (gp_16 (gp_1 (gp_1 (gp_1 gp_h)))))
set_option maxRecDepth 20000 in
theorem tw_126 : (Cond.methodLink RX2 3 objectInit) ∈ lw_tbl := gt_1 _ (gp_64 (gp_16 (gp_1 (gp_1 gp_h))))
set_option maxRecDepth 20000 in
theorem tw_125 : (Cond.code yX2_init cX2_init 2 none) ∈ lw_tbl := gt_1 _ (gp_64 (gp_16 (gp_1 gp_h)))
set_option maxRecDepth 20000 in
theorem tw_124 : (Cond.instanceMethod yX2_init) ∈ lw_tbl := gt_1 _ (gp_64 (gp_16 gp_h))
set_option maxRecDepth 20000 in
theorem tw_123 : (Cond.methodLink RX8 50 yX2_init) ∈ lw_tbl := gt_1 _ (gp_64 (gp_4 (gp_4 (gp_4 (gp_1 (gp_1 (gp_1 gp_h)))))))
set_option maxRecDepth 20000 in
theorem tw_96 : (Cond.fieldLink RX4 31 "StateRecords$Records" "items" "[J") ∈ lw_tbl := gt_1 _ (gp_16 (gp_16 (gp_16 (gp_4 gp_h))))
set_option maxRecDepth 20000 in
theorem tw_95 : (Cond.fieldLink RX4 28 "StateRecords$Records" "rowLengths" "[I") ∈ lw_tbl := gt_1 _ (gp_16 (gp_16 (gp_16 (gp_1 (gp_1 (gp_1 gp_h))))))
set_option maxRecDepth 20000 in
theorem tw_91 : (Cond.fieldLink RX4 24 "StateRecords$Records" "values" "[J") ∈ lw_tbl := gt_1 _ (gp_16 (gp_16 (gp_4 (gp_4 (gp_4 (gp_1 (gp_1 (gp_1 gp_h))))))))
set_option maxRecDepth 20000 in
theorem tw_118 : (Cond.arrayClass .long) ∈ lw_tbl := gt_1 _ (gp_64 (gp_4 (gp_4 (gp_1 (gp_1 gp_h)))))
set_option maxRecDepth 20000 in
theorem tw_89 : (Cond.fieldLink RX4 21 "StateRecords$Records" "lanes" "[I") ∈ lw_tbl := gt_1 _ (gp_16 (gp_16 (gp_4 (gp_4 (gp_4 (gp_1 gp_h))))))
set_option maxRecDepth 20000 in
theorem tw_87 : (Cond.fieldLink RX4 18 "StateRecords$Records" "names" "[I") ∈ lw_tbl := gt_1 _ (gp_16 (gp_16 (gp_4 (gp_4 (gp_1 (gp_1 (gp_1 gp_h)))))))
set_option maxRecDepth 20000 in
theorem tw_85 : (Cond.fieldLink RX4 15 "StateRecords$Records" "fieldCounts" "[I") ∈ lw_tbl := gt_1 _ (gp_16 (gp_16 (gp_4 (gp_4 (gp_1 gp_h)))))
set_option maxRecDepth 20000 in
theorem tw_83 : (Cond.fieldLink RX4 9 "StateRecords$Records" "types" "[I") ∈ lw_tbl := gt_1 _ (gp_16 (gp_16 (gp_4 (gp_1 (gp_1 (gp_1 gp_h))))))
set_option maxRecDepth 20000 in
theorem tw_117 : (Cond.arrayClass .int) ∈ lw_tbl := gt_1 _ (gp_64 (gp_4 (gp_4 (gp_1 gp_h))))
set_option maxRecDepth 20000 in
theorem tw_80 : (Cond.methodLink RX4 3 objectInit) ∈ lw_tbl := gt_1 _ (gp_16 (gp_16 (gp_4 gp_h)))
set_option maxRecDepth 20000 in
theorem tw_79 : (Cond.code yX4_init cX4_init 1 none) ∈ lw_tbl := gt_1 _ (gp_16 (gp_16 (gp_1 (gp_1 (gp_1 gp_h)))))
set_option maxRecDepth 20000 in
theorem tw_78 : (Cond.instanceMethod yX4_init) ∈ lw_tbl := gt_1 _ (gp_16 (gp_16 (gp_1 (gp_1 gp_h))))
set_option maxRecDepth 20000 in
theorem tw_50 : (Cond.initialized RX6) ∈ lw_tbl := gt_1 _ (gp_4 (gp_1 (gp_1 gp_h)))
set_option maxRecDepth 20000 in
theorem tw_189 : (Cond.instantiable RX6 4) ∈ lw_tbl := gt_1 _ (gp_64 (gp_64 (gp_16 (gp_1 gp_h))))
set_option maxRecDepth 20000 in
theorem tw_227 : (Cond.fieldLink RX8 58 "StateRecords" "latestFault" "LStateRecords$Fault;") ∈ lw_tbl := gt_1 _ (gp_64 (gp_64 (gp_16 (gp_16 (gp_16 (gp_4 (gp_1 (gp_1 (gp_1 gp_h)))))))))
set_option maxRecDepth 20000 in
theorem tw_49 : (Cond.initialized RX1) ∈ lw_tbl := gt_1 _ (gp_4 (gp_1 gp_h))
set_option maxRecDepth 20000 in
theorem tw_201 : (Cond.fieldLink RX6 17 "StateRecords$Thing" "rows" "[LStateRecords$Row;") ∈ lw_tbl := gt_1 _ (gp_64 (gp_64 (gp_16 (gp_4 (gp_4 (gp_4 (gp_1 gp_h)))))))
set_option maxRecDepth 20000 in
theorem tw_194 : (Cond.classLink RX6 15 RX5) ∈ lw_tbl := gt_1 _ (gp_64 (gp_64 (gp_16 (gp_4 (gp_1 (gp_1 gp_h))))))
set_option maxRecDepth 20000 in
theorem tw_197 : (Cond.fieldLink RX6 9 "StateRecords$Thing" "values" "[J") ∈ lw_tbl := gt_1 _ (gp_64 (gp_64 (gp_16 (gp_4 (gp_4 (gp_1 gp_h))))))
set_option maxRecDepth 20000 in
theorem tw_193 : (Cond.methodLink RX6 3 objectInit) ∈ lw_tbl := gt_1 _ (gp_64 (gp_64 (gp_16 (gp_4 (gp_1 gp_h)))))
set_option maxRecDepth 20000 in
theorem tw_192 : (Cond.code yX6_init cX6_init 1 none) ∈ lw_tbl := gt_1 _ (gp_64 (gp_64 (gp_16 (gp_4 gp_h))))
set_option maxRecDepth 20000 in
theorem tw_191 : (Cond.instanceMethod yX6_init) ∈ lw_tbl := gt_1 _ (gp_64 (gp_64 (gp_16 (gp_1 (gp_1 (gp_1 gp_h))))))
set_option maxRecDepth 20000 in
theorem tw_171 : (Cond.methodLink RX1 1 objectInit) ∈ lw_tbl := gt_1 _ (gp_64 (gp_16 (gp_16 (gp_16 (gp_4 (gp_4 (gp_4 (gp_1 (gp_1 (gp_1 gp_h))))))))))
set_option maxRecDepth 20000 in
theorem tw_170 : (Cond.code yX1_init cX1_init 1 none) ∈ lw_tbl := gt_1 _ (gp_64 (gp_16 (gp_16 (gp_16 (gp_4 (gp_4 (gp_4 (gp_1 (gp_1 gp_h)))))))))
set_option maxRecDepth 20000 in
theorem tw_169 : (Cond.instanceMethod yX1_init) ∈ lw_tbl := gt_1 _ (gp_64 (gp_16 (gp_16 (gp_16 (gp_4 (gp_4 (gp_4 (gp_1 gp_h))))))))
set_option maxRecDepth 20000 in
theorem tw_133 : (Cond.methodLink RX3 1 objectInit) ∈ lw_tbl := gt_1 _ (gp_64 (gp_16 (gp_4 (gp_4 (gp_1 gp_h)))))
set_option maxRecDepth 20000 in
theorem tw_132 : (Cond.code yX3_init cX3_init 1 none) ∈ lw_tbl := gt_1 _ (gp_64 (gp_16 (gp_4 (gp_4 gp_h))))
set_option maxRecDepth 20000 in
theorem tw_131 : (Cond.instanceMethod yX3_init) ∈ lw_tbl := gt_1 _ (gp_64 (gp_16 (gp_4 (gp_1 (gp_1 (gp_1 gp_h))))))
set_option maxRecDepth 20000 in
theorem tw_48 : (Cond.initialized RX3) ∈ lw_tbl := gt_1 _ (gp_4 gp_h)
set_option maxRecDepth 20000 in
theorem tw_66 : (Cond.code yX8_init cX8_init 2 none) ∈ lw_tbl := gt_1 _ (gp_16 (gp_4 (gp_1 (gp_1 gp_h))))
set_option maxRecDepth 20000 in
theorem gr_X8_init_r1 : GoodIn lw_tbl wsX8_init_r1 := gp_s (gp_c (tw_67) (gp_c (tw_68) (gp_c (tw_69) (gp_c (tw_70) (gp_c (tw_216) (gp_c (tw_72) (gp_c (tw_218) (gp_c (tw_116) (gp_c (tw_220) (gp_c (tw_74) (gp_c (tw_221) (gp_c (tw_76) (gp_c (tw_46) (gp_c (tw_222) (gp_c (tw_223) (gp_c (tw_224) (gp_c (tw_119) (gp_c (tw_225) (gp_c (tw_121) (gp_c (tw_122) (gp_c (tw_47) (gp_c (tw_226) (gp_c (tw_166) (gp_c (tw_167) (gp_n))))))))))))))))))))))))) (by decide +kernel)
set_option maxRecDepth 20000 in
theorem gr_X8_init_r2 : GoodIn lw_tbl wsX8_init_r2 := gp_s (gp_c (tw_49) (gp_c (tw_227) (gp_c (tw_189) (gp_c (tw_50) (gp_c (tw_78) (gp_c (tw_79) (gp_c (tw_80) (gp_c (tw_117) (gp_c (tw_83) (gp_c (tw_85) (gp_c (tw_87) (gp_c (tw_89) (gp_c (tw_118) (gp_c (tw_91) (gp_c (tw_95) (gp_c (tw_96) (gp_c (tw_123) (gp_c (tw_124) (gp_c (tw_125) (gp_c (tw_126) (gp_c (tw_127) (gp_c (tw_151) (gp_c (tw_154) (gp_c (tw_129) (gp_n))))))))))))))))))))))))) (by decide +kernel)
set_option maxRecDepth 20000 in
theorem gr_X8_init_r3 : GoodIn lw_tbl wsX8_init_r3 := gp_s (gp_c (tw_48) (gp_c (tw_131) (gp_c (tw_132) (gp_c (tw_133) (gp_c (tw_169) (gp_c (tw_170) (gp_c (tw_171) (gp_c (tw_191) (gp_c (tw_192) (gp_c (tw_193) (gp_c (tw_197) (gp_c (tw_194) (gp_c (tw_201) (gp_n)))))))))))))) (by decide +kernel)
set_option maxRecDepth 20000 in
theorem ggT_X8_init : GoodIn lw_tbl wsX8_init := goodIn_cons (gp_s (gp_c (tw_66) (gp_n)) (by decide +kernel)) (goodIn_app (goodIn_app (goodIn_app (goodIn_app (goodIn_app (goodIn_app (goodIn_app gr_X8_init_r1 (goodIn_app gr_X8_init_r2 gr_X8_init_r3)) gwX80) gwX40) gwX20) gwX10) gwX60) gwX30)
set_option maxRecDepth 20000 in
theorem tw_800 : (Cond.fieldLink RX9 63 "StateRecordsModel" "markAt" "[I") ∈ lw_tbl := gt_4 _ (gp_16 (gp_16 (gp_4 gp_h)))
set_option maxRecDepth 20000 in
theorem tw_798 : (Cond.fieldLink RX9 60 "StateRecordsModel" "rUsed" "[Z") ∈ lw_tbl := gt_4 _ (gp_16 (gp_16 (gp_1 (gp_1 gp_h))))
set_option maxRecDepth 20000 in
theorem tw_797 : (Cond.fieldLink RX9 57 "StateRecordsModel" "rItems" "[J") ∈ lw_tbl := gt_4 _ (gp_16 (gp_16 (gp_1 gp_h)))
set_option maxRecDepth 20000 in
theorem tw_796 : (Cond.fieldLink RX9 54 "StateRecordsModel" "rMany" "[I") ∈ lw_tbl := gt_4 _ (gp_16 (gp_16 gp_h))
set_option maxRecDepth 20000 in
theorem tw_795 : (Cond.fieldLink RX9 51 "StateRecordsModel" "rLane" "[I") ∈ lw_tbl := gt_4 _ (gp_16 (gp_4 (gp_4 (gp_4 (gp_1 (gp_1 (gp_1 gp_h)))))))
set_option maxRecDepth 20000 in
theorem tw_794 : (Cond.fieldLink RX9 48 "StateRecordsModel" "xVal" "[J") ∈ lw_tbl := gt_4 _ (gp_16 (gp_4 (gp_4 (gp_4 (gp_1 (gp_1 gp_h))))))
set_option maxRecDepth 20000 in
theorem tw_793 : (Cond.fieldLink RX9 45 "StateRecordsModel" "xType" "[I") ∈ lw_tbl := gt_4 _ (gp_16 (gp_4 (gp_4 (gp_4 (gp_1 gp_h)))))
set_option maxRecDepth 20000 in
theorem tw_791 : (Cond.fieldLink RX9 42 "StateRecordsModel" "cV" "[J") ∈ lw_tbl := gt_4 _ (gp_16 (gp_4 (gp_4 (gp_1 (gp_1 (gp_1 gp_h))))))
set_option maxRecDepth 20000 in
theorem tw_790 : (Cond.fieldLink RX9 39 "StateRecordsModel" "cB" "[I") ∈ lw_tbl := gt_4 _ (gp_16 (gp_4 (gp_4 (gp_1 (gp_1 gp_h)))))
set_option maxRecDepth 20000 in
theorem tw_789 : (Cond.fieldLink RX9 36 "StateRecordsModel" "cA" "[I") ∈ lw_tbl := gt_4 _ (gp_16 (gp_4 (gp_4 (gp_1 gp_h))))
set_option maxRecDepth 20000 in
theorem tw_788 : (Cond.fieldLink RX9 33 "StateRecordsModel" "cKind" "[I") ∈ lw_tbl := gt_4 _ (gp_16 (gp_4 (gp_4 gp_h)))
set_option maxRecDepth 20000 in
theorem tw_787 : (Cond.fieldLink RX9 30 "StateRecordsModel" "cMany" "[I") ∈ lw_tbl := gt_4 _ (gp_16 (gp_4 (gp_1 (gp_1 (gp_1 gp_h)))))
set_option maxRecDepth 20000 in
theorem tw_786 : (Cond.fieldLink RX9 27 "StateRecordsModel" "fShut" "[Z") ∈ lw_tbl := gt_4 _ (gp_16 (gp_4 (gp_1 (gp_1 gp_h))))
set_option maxRecDepth 20000 in
theorem tw_785 : (Cond.fieldLink RX9 23 "StateRecordsModel" "fFirst" "[J") ∈ lw_tbl := gt_4 _ (gp_16 (gp_4 (gp_1 gp_h)))
set_option maxRecDepth 20000 in
theorem tw_784 : (Cond.fieldLink RX9 20 "StateRecordsModel" "fLane" "[I") ∈ lw_tbl := gt_4 _ (gp_16 (gp_4 gp_h))
set_option maxRecDepth 20000 in
theorem tw_783 : (Cond.fieldLink RX9 17 "StateRecordsModel" "fName" "[I") ∈ lw_tbl := gt_4 _ (gp_16 (gp_1 (gp_1 (gp_1 gp_h))))
set_option maxRecDepth 20000 in
theorem tw_782 : (Cond.fieldLink RX9 13 "StateRecordsModel" "fMany" "[I") ∈ lw_tbl := gt_4 _ (gp_16 (gp_1 (gp_1 gp_h)))
set_option maxRecDepth 20000 in
theorem tw_780 : (Cond.fieldLink RX9 7 "StateRecordsModel" "isOut" "[Z") ∈ lw_tbl := gt_4 _ (gp_16 gp_h)
set_option maxRecDepth 20000 in
theorem tw_778 : (Cond.methodLink RX9 1 objectInit) ∈ lw_tbl := gt_4 _ (gp_4 (gp_4 (gp_4 (gp_1 (gp_1 gp_h)))))
set_option maxRecDepth 20000 in
theorem tw_826 : (Cond.fieldLink RX9 136 "StateRecordsModel" "rowMate" "[I") ∈ lw_tbl := gt_4 _ (gp_16 (gp_16 (gp_16 (gp_4 (gp_4 (gp_4 (gp_1 (gp_1 gp_h))))))))
set_option maxRecDepth 20000 in
theorem tw_825 : (Cond.fieldLink RX9 133 "StateRecordsModel" "mateBack" "[I") ∈ lw_tbl := gt_4 _ (gp_16 (gp_16 (gp_16 (gp_4 (gp_4 (gp_4 (gp_1 gp_h)))))))
set_option maxRecDepth 20000 in
theorem tw_824 : (Cond.fieldLink RX9 130 "StateRecordsModel" "mate" "[I") ∈ lw_tbl := gt_4 _ (gp_16 (gp_16 (gp_16 (gp_4 (gp_4 (gp_4 gp_h))))))
set_option maxRecDepth 20000 in
theorem tw_823 : (Cond.fieldLink RX9 127 "StateRecordsModel" "back" "[I") ∈ lw_tbl := gt_4 _ (gp_16 (gp_16 (gp_16 (gp_4 (gp_4 (gp_1 (gp_1 (gp_1 gp_h))))))))
set_option maxRecDepth 20000 in
theorem tw_822 : (Cond.fieldLink RX9 124 "StateRecordsModel" "faultCheck" "I") ∈ lw_tbl := gt_4 _ (gp_16 (gp_16 (gp_16 (gp_4 (gp_4 (gp_1 (gp_1 gp_h)))))))
set_option maxRecDepth 20000 in
theorem tw_821 : (Cond.fieldLink RX9 121 "StateRecordsModel" "faultName" "I") ∈ lw_tbl := gt_4 _ (gp_16 (gp_16 (gp_16 (gp_4 (gp_4 (gp_1 gp_h))))))
set_option maxRecDepth 20000 in
theorem tw_820 : (Cond.fieldLink RX9 117 "StateRecordsModel" "faultRecord" "I") ∈ lw_tbl := gt_4 _ (gp_16 (gp_16 (gp_16 (gp_4 (gp_4 gp_h)))))
set_option maxRecDepth 20000 in
theorem tw_819 : (Cond.fieldLink RX9 114 "StateRecordsModel" "rowOrder" "[I") ∈ lw_tbl := gt_4 _ (gp_16 (gp_16 (gp_16 (gp_4 (gp_1 (gp_1 (gp_1 gp_h)))))))
set_option maxRecDepth 20000 in
theorem tw_818 : (Cond.fieldLink RX9 111 "StateRecordsModel" "order" "[I") ∈ lw_tbl := gt_4 _ (gp_16 (gp_16 (gp_16 (gp_4 (gp_1 (gp_1 gp_h))))))
set_option maxRecDepth 20000 in
theorem tw_817 : (Cond.fieldLink RX9 108 "StateRecordsModel" "sRowItems" "[J") ∈ lw_tbl := gt_4 _ (gp_16 (gp_16 (gp_16 (gp_4 (gp_1 gp_h)))))
set_option maxRecDepth 20000 in
theorem tw_816 : (Cond.fieldLink RX9 105 "StateRecordsModel" "sRowMany" "[I") ∈ lw_tbl := gt_4 _ (gp_16 (gp_16 (gp_16 (gp_4 gp_h))))
set_option maxRecDepth 20000 in
theorem tw_815 : (Cond.fieldLink RX9 102 "StateRecordsModel" "sRowLane" "[I") ∈ lw_tbl := gt_4 _ (gp_16 (gp_16 (gp_16 (gp_1 (gp_1 (gp_1 gp_h))))))
set_option maxRecDepth 20000 in
theorem tw_814 : (Cond.fieldLink RX9 99 "StateRecordsModel" "sRows" "[I") ∈ lw_tbl := gt_4 _ (gp_16 (gp_16 (gp_16 (gp_1 (gp_1 gp_h)))))
set_option maxRecDepth 20000 in
theorem tw_813 : (Cond.fieldLink RX9 96 "StateRecordsModel" "sVal" "[J") ∈ lw_tbl := gt_4 _ (gp_16 (gp_16 (gp_16 (gp_1 gp_h))))
set_option maxRecDepth 20000 in
theorem tw_812 : (Cond.fieldLink RX9 93 "StateRecordsModel" "sLane" "[I") ∈ lw_tbl := gt_4 _ (gp_16 (gp_16 (gp_16 gp_h)))
set_option maxRecDepth 20000 in
theorem tw_811 : (Cond.fieldLink RX9 90 "StateRecordsModel" "sName" "[I") ∈ lw_tbl := gt_4 _ (gp_16 (gp_16 (gp_4 (gp_4 (gp_4 (gp_1 (gp_1 (gp_1 gp_h))))))))
set_option maxRecDepth 20000 in
theorem tw_810 : (Cond.fieldLink RX9 87 "StateRecordsModel" "sFields" "[I") ∈ lw_tbl := gt_4 _ (gp_16 (gp_16 (gp_4 (gp_4 (gp_4 (gp_1 (gp_1 gp_h)))))))
set_option maxRecDepth 20000 in
theorem tw_809 : (Cond.fieldLink RX9 84 "StateRecordsModel" "sType" "[I") ∈ lw_tbl := gt_4 _ (gp_16 (gp_16 (gp_4 (gp_4 (gp_4 (gp_1 gp_h))))))
set_option maxRecDepth 20000 in
theorem tw_808 : (Cond.fieldLink RX9 81 "StateRecordsModel" "sMany" "[I") ∈ lw_tbl := gt_4 _ (gp_16 (gp_16 (gp_4 (gp_4 (gp_4 gp_h)))))
set_option maxRecDepth 20000 in
theorem tw_806 : (Cond.fieldLink RX9 78 "StateRecordsModel" "noteWas" "[J") ∈ lw_tbl := gt_4 _ (gp_16 (gp_16 (gp_4 (gp_4 (gp_1 (gp_1 gp_h))))))
set_option maxRecDepth 20000 in
theorem tw_805 : (Cond.fieldLink RX9 75 "StateRecordsModel" "noteItem" "[I") ∈ lw_tbl := gt_4 _ (gp_16 (gp_16 (gp_4 (gp_4 (gp_1 gp_h)))))
set_option maxRecDepth 20000 in
theorem tw_804 : (Cond.fieldLink RX9 72 "StateRecordsModel" "noteRow" "[I") ∈ lw_tbl := gt_4 _ (gp_16 (gp_16 (gp_4 (gp_4 gp_h))))
set_option maxRecDepth 20000 in
theorem tw_803 : (Cond.fieldLink RX9 69 "StateRecordsModel" "noteField" "[I") ∈ lw_tbl := gt_4 _ (gp_16 (gp_16 (gp_4 (gp_1 (gp_1 (gp_1 gp_h))))))
set_option maxRecDepth 20000 in
theorem tw_802 : (Cond.fieldLink RX9 66 "StateRecordsModel" "noteThing" "[I") ∈ lw_tbl := gt_4 _ (gp_16 (gp_16 (gp_4 (gp_1 (gp_1 gp_h)))))
set_option maxRecDepth 20000 in
theorem tw_828 : (Cond.fieldLink RX9 142 "StateRecordsModel" "queue" "[I") ∈ lw_tbl := gt_4 _ (gp_64 gp_h)
set_option maxRecDepth 20000 in
theorem tw_827 : (Cond.fieldLink RX9 139 "StateRecordsModel" "rowMateBack" "[I") ∈ lw_tbl := gt_4 _ (gp_16 (gp_16 (gp_16 (gp_4 (gp_4 (gp_4 (gp_1 (gp_1 (gp_1 gp_h)))))))))
set_option maxRecDepth 20000 in
theorem tw_777 : (Cond.code yX9_init cX9_init 1 none) ∈ lw_tbl := gt_4 _ (gp_4 (gp_4 (gp_4 (gp_1 gp_h))))
set_option maxRecDepth 20000 in
theorem gr_X9_init_r1 : GoodIn lw_tbl wsX9_init_r1 := gp_s (gp_c (tw_778) (gp_c (tw_68) (gp_c (tw_69) (gp_c (tw_116) (gp_c (tw_780) (gp_c (tw_117) (gp_c (tw_782) (gp_c (tw_783) (gp_c (tw_784) (gp_c (tw_118) (gp_c (tw_785) (gp_c (tw_786) (gp_c (tw_787) (gp_c (tw_788) (gp_c (tw_789) (gp_c (tw_790) (gp_c (tw_791) (gp_c (tw_793) (gp_c (tw_794) (gp_c (tw_795) (gp_c (tw_796) (gp_c (tw_797) (gp_c (tw_798) (gp_c (tw_800) (gp_n))))))))))))))))))))))))) (by decide +kernel)
set_option maxRecDepth 20000 in
theorem gr_X9_init_r2 : GoodIn lw_tbl wsX9_init_r2 := gp_s (gp_c (tw_802) (gp_c (tw_803) (gp_c (tw_804) (gp_c (tw_805) (gp_c (tw_806) (gp_c (tw_808) (gp_c (tw_809) (gp_c (tw_810) (gp_c (tw_811) (gp_c (tw_812) (gp_c (tw_813) (gp_c (tw_814) (gp_c (tw_815) (gp_c (tw_816) (gp_c (tw_817) (gp_c (tw_818) (gp_c (tw_819) (gp_c (tw_820) (gp_c (tw_821) (gp_c (tw_822) (gp_c (tw_823) (gp_c (tw_824) (gp_c (tw_825) (gp_c (tw_826) (gp_n))))))))))))))))))))))))) (by decide +kernel)
set_option maxRecDepth 20000 in
theorem gr_X9_init_r3 : GoodIn lw_tbl wsX9_init_r3 := gp_s (gp_c (tw_827) (gp_c (tw_828) (gp_n))) (by decide +kernel)
set_option maxRecDepth 20000 in
theorem ggT_X9_init : GoodIn lw_tbl wsX9_init := goodIn_cons (gp_s (gp_c (tw_777) (gp_n)) (by decide +kernel)) (goodIn_app (goodIn_app gr_X9_init_r1 (goodIn_app gr_X9_init_r2 gr_X9_init_r3)) gwX90)
set_option maxRecDepth 20000 in
theorem tw_264 : (Cond.fieldLink RX7 32 "StateRecords$Type" "number" "I") ∈ lw_tbl := gt_1 _ (gp_64 (gp_64 (gp_64 (gp_16 (gp_4 (gp_4 (gp_4 gp_h)))))))
set_option maxRecDepth 20000 in
theorem tw_278 : (Cond.fieldLink RX7 28 "StateRecords$Type" "checks" "[LStateRecords$Check;") ∈ lw_tbl := gt_1 _ (gp_64 (gp_64 (gp_64 (gp_16 (gp_16 (gp_4 (gp_4 (gp_1 (gp_1 gp_h)))))))))
set_option maxRecDepth 20000 in
theorem tw_262 : (Cond.classLink RX7 26 RX0) ∈ lw_tbl := gt_1 _ (gp_64 (gp_64 (gp_64 (gp_16 (gp_4 (gp_4 (gp_1 (gp_1 gp_h))))))))
set_option maxRecDepth 20000 in
theorem tw_275 : (Cond.fieldLink RX7 22 "StateRecords$Type" "shuts" "[Z") ∈ lw_tbl := gt_1 _ (gp_64 (gp_64 (gp_64 (gp_16 (gp_16 (gp_4 (gp_1 (gp_1 (gp_1 gp_h)))))))))
set_option maxRecDepth 20000 in
theorem tw_273 : (Cond.fieldLink RX7 18 "StateRecords$Type" "defaults" "[J") ∈ lw_tbl := gt_1 _ (gp_64 (gp_64 (gp_64 (gp_16 (gp_16 (gp_4 (gp_1 gp_h)))))))
set_option maxRecDepth 20000 in
theorem tw_271 : (Cond.fieldLink RX7 15 "StateRecords$Type" "lanes" "[I") ∈ lw_tbl := gt_1 _ (gp_64 (gp_64 (gp_64 (gp_16 (gp_16 (gp_1 (gp_1 (gp_1 gp_h))))))))
set_option maxRecDepth 20000 in
theorem tw_269 : (Cond.fieldLink RX7 9 "StateRecords$Type" "names" "[I") ∈ lw_tbl := gt_1 _ (gp_64 (gp_64 (gp_64 (gp_16 (gp_16 (gp_1 gp_h))))))
set_option maxRecDepth 20000 in
theorem tw_261 : (Cond.methodLink RX7 3 objectInit) ∈ lw_tbl := gt_1 _ (gp_64 (gp_64 (gp_64 (gp_16 (gp_4 (gp_4 (gp_1 gp_h)))))))
set_option maxRecDepth 20000 in
theorem tw_260 : (Cond.code yX7_init cX7_init 2 none) ∈ lw_tbl := gt_1 _ (gp_64 (gp_64 (gp_64 (gp_16 (gp_4 (gp_4 gp_h))))))
set_option maxRecDepth 20000 in
theorem tw_259 : (Cond.instanceMethod yX7_init) ∈ lw_tbl := gt_1 _ (gp_64 (gp_64 (gp_64 (gp_16 (gp_4 (gp_1 (gp_1 (gp_1 gp_h))))))))
set_option maxRecDepth 20000 in
theorem tw_258 : (Cond.methodLink RX8 67 yX7_init) ∈ lw_tbl := gt_1 _ (gp_64 (gp_64 (gp_64 (gp_16 (gp_4 (gp_1 (gp_1 gp_h)))))))
set_option maxRecDepth 20000 in
theorem tw_52 : (Cond.initialized RX7) ∈ lw_tbl := gt_1 _ (gp_4 (gp_4 gp_h))
set_option maxRecDepth 20000 in
theorem tw_257 : (Cond.instantiable RX7 8) ∈ lw_tbl := gt_1 _ (gp_64 (gp_64 (gp_64 (gp_16 (gp_4 (gp_1 gp_h))))))
set_option maxRecDepth 20000 in
theorem tw_217 : (Cond.fieldLink RX8 63 "StateRecords" "typeCount" "I") ∈ lw_tbl := gt_1 _ (gp_64 (gp_64 (gp_16 (gp_16 (gp_4 (gp_4 (gp_4 (gp_1 gp_h))))))))
set_option maxRecDepth 20000 in
theorem tw_256 : (Cond.code yX8_type cX8_type 1 ( some .int )) ∈ lw_tbl := gt_1 _ (gp_64 (gp_64 (gp_64 (gp_16 (gp_4 gp_h)))))
set_option maxRecDepth 20000 in
theorem ggT_X8_type : GoodIn lw_tbl wsX8_type := goodIn_cons (gp_s (gp_c (tw_256) (gp_n)) (by decide +kernel)) (goodIn_app (goodIn_app (gp_s (gp_c (tw_217) (gp_c (tw_216) (gp_c (tw_70) (gp_c (tw_257) (gp_c (tw_52) (gp_c (tw_258) (gp_c (tw_259) (gp_c (tw_260) (gp_c (tw_261) (gp_c (tw_68) (gp_c (tw_69) (gp_c (tw_117) (gp_c (tw_269) (gp_c (tw_271) (gp_c (tw_118) (gp_c (tw_273) (gp_c (tw_116) (gp_c (tw_275) (gp_c (tw_262) (gp_c (tw_278) (gp_c (tw_264) (gp_n)))))))))))))))))))))) (by decide +kernel)) gwX80) gwX70)
set_option maxRecDepth 20000 in
theorem gT_X8_type : GoodIn lw_tbl (wsV RL 27 RX8 yX8_type wsX8_type) := goodIn_app (gp_s (gp_c (gt_1 _ (gp_64 (gp_64 (gp_64 (gp_16 (gp_1 gp_h)))))) (gp_c (gt_1 _ (gp_64 (gp_64 (gp_64 (gp_16 (gp_1 (gp_1 gp_h))))))) (gp_c (gt_1 _ (gp_64 (gp_64 (gp_64 (gp_16 (gp_1 (gp_1 (gp_1 gp_h)))))))) (gp_c (gt_1 _ (gp_1 gp_h)) (gp_n))))) (by decide +kernel)) ggT_X8_type
set_option maxRecDepth 20000 in
theorem tw_781 : (Cond.fieldLink RX9 148 "StateRecordsModel" "types" "I") ∈ lw_tbl := gt_4 _ (gp_16 (gp_1 gp_h))
set_option maxRecDepth 20000 in
theorem tw_779 : (Cond.fieldLink RX9 145 "StateRecordsModel" "code" "I") ∈ lw_tbl := gt_4 _ (gp_4 (gp_4 (gp_4 (gp_1 (gp_1 (gp_1 gp_h))))))
set_option maxRecDepth 20000 in
theorem tw_936 : (Cond.code yX9_type cX9_type 1 ( some .int )) ∈ lw_tbl := gt_4 _ (gp_64 (gp_64 (gp_16 (gp_16 (gp_4 (gp_4 (gp_4 gp_h)))))))
set_option maxRecDepth 20000 in
theorem ggT_X9_type : GoodIn lw_tbl wsX9_type := goodIn_cons (gp_s (gp_c (tw_936) (gp_n)) (by decide +kernel)) (goodIn_app (gp_s (gp_c (tw_779) (gp_c (tw_781) (gp_c (tw_782) (gp_c (tw_787) (gp_n))))) (by decide +kernel)) gwX90)
set_option maxRecDepth 20000 in
theorem gT_X9_type : GoodIn lw_tbl (wsV RL 31 RX9 yX9_type wsX9_type) := goodIn_app (gp_s (gp_c (gt_4 _ (gp_64 (gp_64 (gp_16 (gp_16 (gp_4 (gp_4 (gp_1 gp_h)))))))) (gp_c (gt_4 _ (gp_64 (gp_64 (gp_16 (gp_16 (gp_4 (gp_4 (gp_1 (gp_1 gp_h))))))))) (gp_c (gt_4 _ (gp_64 (gp_64 (gp_16 (gp_16 (gp_4 (gp_4 (gp_1 (gp_1 (gp_1 gp_h)))))))))) (gp_c (gt_1 _ (gp_4 (gp_1 (gp_1 (gp_1 gp_h))))) (gp_n))))) (by decide +kernel)) ggT_X9_type
set_option maxRecDepth 20000 in
theorem tw_266 : (Cond.fieldLink RX7 36 "StateRecords$Type" "fieldCount" "I") ∈ lw_tbl := gt_1 _ (gp_64 (gp_64 (gp_64 (gp_16 (gp_4 (gp_4 (gp_4 (gp_1 (gp_1 gp_h)))))))))
set_option maxRecDepth 20000 in
theorem tw_311 : (Cond.code yX7_fieldNamed cX7_fieldNamed 3 ( some .int )) ∈ lw_tbl := gt_2 _ (gp_16 (gp_4 (gp_4 (gp_1 (gp_1 (gp_1 gp_h))))))
set_option maxRecDepth 20000 in
theorem tw_310 : (Cond.selects RX7 yX7_fieldNamed yX7_fieldNamed) ∈ lw_tbl := gt_2 _ (gp_16 (gp_4 (gp_4 (gp_1 (gp_1 gp_h)))))
set_option maxRecDepth 20000 in
theorem tw_309 : (Cond.instanceMethod yX7_fieldNamed) ∈ lw_tbl := gt_2 _ (gp_16 (gp_4 (gp_4 (gp_1 gp_h))))
set_option maxRecDepth 20000 in
theorem tw_308 : (Cond.methodLink RX8 78 yX7_fieldNamed) ∈ lw_tbl := gt_2 _ (gp_16 (gp_4 (gp_4 gp_h)))
set_option maxRecDepth 20000 in
theorem tw_307 : (Cond.code yX8_isBelow cX8_isBelow 2 ( some .boolean )) ∈ lw_tbl := gt_2 _ (gp_16 (gp_4 (gp_1 (gp_1 (gp_1 gp_h)))))
set_option maxRecDepth 20000 in
theorem tw_306 : (Cond.static yX8_isBelow) ∈ lw_tbl := gt_2 _ (gp_16 (gp_4 (gp_1 (gp_1 gp_h))))
set_option maxRecDepth 20000 in
theorem tw_305 : (Cond.methodLink RX8 74 yX8_isBelow) ∈ lw_tbl := gt_2 _ (gp_16 (gp_4 (gp_1 gp_h)))
set_option maxRecDepth 20000 in
theorem tw_304 : (Cond.code yX8_typeNumbered cX8_typeNumbered 2 ( some ( .object "StateRecords$Type" ) )) ∈ lw_tbl := gt_2 _ (gp_16 (gp_4 gp_h))
set_option maxRecDepth 20000 in
theorem tw_45 : (Cond.initialized RX8) ∈ lw_tbl := gt_1 _ (gp_1 gp_h)
set_option maxRecDepth 20000 in
theorem tw_303 : (Cond.instanceMethod yX8_typeNumbered) ∈ lw_tbl := gt_2 _ (gp_16 (gp_1 (gp_1 (gp_1 gp_h))))
set_option maxRecDepth 20000 in
theorem tw_301 : (Cond.methodLink RX8 70 yX8_typeNumbered) ∈ lw_tbl := gt_2 _ (gp_16 (gp_1 gp_h))
set_option maxRecDepth 20000 in
theorem tw_196 : (Cond.fieldLink RX8 97 "StateRecords$Thing" "type" "LStateRecords$Type;") ∈ lw_tbl := gt_1 _ (gp_64 (gp_64 (gp_16 (gp_4 (gp_4 gp_h)))))
set_option maxRecDepth 20000 in
theorem tw_219 : (Cond.fieldLink RX8 94 "StateRecords" "thingCount" "I") ∈ lw_tbl := gt_1 _ (gp_64 (gp_64 (gp_16 (gp_16 (gp_4 (gp_4 (gp_4 (gp_1 (gp_1 (gp_1 gp_h))))))))))
set_option maxRecDepth 20000 in
theorem tw_312 : (Cond.constantLong RX8 88 ( -1 )) ∈ lw_tbl := gt_2 _ (gp_16 (gp_4 (gp_4 (gp_4 gp_h))))
set_option maxRecDepth 20000 in
theorem tw_268 : (Cond.fieldLink RX8 85 "StateRecords$Type" "fieldCount" "I") ∈ lw_tbl := gt_1 _ (gp_64 (gp_64 (gp_64 (gp_16 (gp_16 gp_h)))))
set_option maxRecDepth 20000 in
theorem tw_155 : (Cond.fieldLink RX8 82 "StateRecords$Journal" "markCount" "I") ∈ lw_tbl := gt_1 _ (gp_64 (gp_16 (gp_16 (gp_4 (gp_4 (gp_4 (gp_1 (gp_1 (gp_1 gp_h)))))))))
set_option maxRecDepth 20000 in
theorem tw_274 : (Cond.fieldLink RX6 35 "StateRecords$Type" "defaults" "[J") ∈ lw_tbl := gt_1 _ (gp_64 (gp_64 (gp_64 (gp_16 (gp_16 (gp_4 (gp_1 (gp_1 gp_h))))))))
set_option maxRecDepth 20000 in
theorem tw_195 : (Cond.fieldLink RX6 21 "StateRecords$Thing" "type" "LStateRecords$Type;") ∈ lw_tbl := gt_1 _ (gp_64 (gp_64 (gp_16 (gp_4 (gp_1 (gp_1 (gp_1 gp_h)))))))
set_option maxRecDepth 20000 in
theorem tw_320 : (Cond.code yX6_setDefault cX6_setDefault 2 none) ∈ lw_tbl := gt_2 _ (gp_16 (gp_16 (gp_4 gp_h)))
set_option maxRecDepth 20000 in
theorem tw_319 : (Cond.selects RX6 yX6_setDefault yX6_setDefault) ∈ lw_tbl := gt_2 _ (gp_16 (gp_16 (gp_1 (gp_1 (gp_1 gp_h)))))
set_option maxRecDepth 20000 in
theorem tw_318 : (Cond.instanceMethod yX6_setDefault) ∈ lw_tbl := gt_2 _ (gp_16 (gp_16 (gp_1 (gp_1 gp_h))))
set_option maxRecDepth 20000 in
theorem tw_317 : (Cond.methodLink RX8 101 yX6_setDefault) ∈ lw_tbl := gt_2 _ (gp_16 (gp_16 (gp_1 gp_h)))
set_option maxRecDepth 20000 in
theorem tw_316 : (Cond.code yX7_addField cX7_addField 6 ( some .int )) ∈ lw_tbl := gt_2 _ (gp_16 (gp_16 gp_h))
set_option maxRecDepth 20000 in
theorem tw_315 : (Cond.selects RX7 yX7_addField yX7_addField) ∈ lw_tbl := gt_2 _ (gp_16 (gp_4 (gp_4 (gp_4 (gp_1 (gp_1 (gp_1 gp_h)))))))
set_option maxRecDepth 20000 in
theorem tw_314 : (Cond.instanceMethod yX7_addField) ∈ lw_tbl := gt_2 _ (gp_16 (gp_4 (gp_4 (gp_4 (gp_1 (gp_1 gp_h))))))
set_option maxRecDepth 20000 in
theorem tw_313 : (Cond.methodLink RX8 90 yX7_addField) ∈ lw_tbl := gt_2 _ (gp_16 (gp_4 (gp_4 (gp_4 (gp_1 gp_h)))))
set_option maxRecDepth 20000 in
theorem tw_300 : (Cond.code yX8_field cX8_field 9 ( some .int )) ∈ lw_tbl := gt_2 _ (gp_16 gp_h)
set_option maxRecDepth 20000 in
theorem gr_X8_field_r1 : GoodIn lw_tbl wsX8_field_r1 := gp_s (gp_c (tw_226) (gp_c (tw_155) (gp_c (tw_268) (gp_c (tw_312) (gp_c (tw_219) (gp_c (tw_218) (gp_c (tw_196) (gp_c (tw_301) (gp_c (tw_303) (gp_c (gq_0) (gp_c (tw_45) (gp_c (tw_304) (gp_c (tw_217) (gp_c (tw_216) (gp_c (tw_305) (gp_c (tw_306) (gp_c (tw_307) (gp_c (tw_308) (gp_c (tw_309) (gp_c (tw_310) (gp_c (tw_52) (gp_c (tw_311) (gp_c (tw_266) (gp_c (tw_269) (gp_n))))))))))))))))))))))))) (by decide +kernel)
set_option maxRecDepth 20000 in
theorem gr_X8_field_r2 : GoodIn lw_tbl wsX8_field_r2 := gp_s (gp_c (tw_313) (gp_c (tw_314) (gp_c (tw_315) (gp_c (tw_316) (gp_c (tw_271) (gp_c (tw_273) (gp_c (tw_275) (gp_c (tw_317) (gp_c (tw_318) (gp_c (tw_319) (gp_c (tw_50) (gp_c (tw_320) (gp_c (tw_197) (gp_c (tw_195) (gp_c (tw_274) (gp_c (tw_201) (gp_n))))))))))))))))) (by decide +kernel)
set_option maxRecDepth 20000 in
theorem ggT_X8_field : GoodIn lw_tbl wsX8_field := goodIn_cons (gp_s (gp_c (tw_300) (gp_n)) (by decide +kernel)) (goodIn_app (goodIn_app (goodIn_app (goodIn_app (goodIn_app gr_X8_field_r1 gr_X8_field_r2) gwX80) gwX20) gwX70) gwX60)
set_option maxRecDepth 20000 in
theorem gT_X8_field : GoodIn lw_tbl (wsV RL 34 RX8 yX8_field wsX8_field) := goodIn_app (gp_s (gp_c (gt_2 _ (gp_4 (gp_4 (gp_4 (gp_1 gp_h))))) (gp_c (gt_2 _ (gp_4 (gp_4 (gp_4 (gp_1 (gp_1 gp_h)))))) (gp_c (gt_2 _ (gp_4 (gp_4 (gp_4 (gp_1 (gp_1 (gp_1 gp_h))))))) (gp_c (tw_45) (gp_n))))) (by decide +kernel)) ggT_X8_field
set_option maxRecDepth 20000 in
theorem tw_948 : (Cond.code yX9_named cX9_named 4 ( some .int )) ∈ lw_tbl := gt_4 _ (gp_64 (gp_64 (gp_16 (gp_16 (gp_16 (gp_4 (gp_4 gp_h)))))))
set_option maxRecDepth 20000 in
theorem tw_947 : (Cond.instanceMethod yX9_named) ∈ lw_tbl := gt_4 _ (gp_64 (gp_64 (gp_16 (gp_16 (gp_16 (gp_4 (gp_1 (gp_1 (gp_1 gp_h)))))))))
set_option maxRecDepth 20000 in
theorem tw_945 : (Cond.methodLink RX9 161 yX9_named) ∈ lw_tbl := gt_4 _ (gp_64 (gp_64 (gp_16 (gp_16 (gp_16 (gp_4 (gp_1 gp_h)))))))
set_option maxRecDepth 20000 in
theorem tw_944 : (Cond.code yX9_isType cX9_isType 2 ( some .boolean )) ∈ lw_tbl := gt_4 _ (gp_64 (gp_64 (gp_16 (gp_16 (gp_16 (gp_4 gp_h))))))
set_option maxRecDepth 20000 in
theorem tw_51 : (Cond.initialized RX9) ∈ lw_tbl := gt_1 _ (gp_4 (gp_1 (gp_1 (gp_1 gp_h))))
set_option maxRecDepth 20000 in
theorem tw_943 : (Cond.instanceMethod yX9_isType) ∈ lw_tbl := gt_4 _ (gp_64 (gp_64 (gp_16 (gp_16 (gp_16 (gp_1 (gp_1 (gp_1 gp_h))))))))
set_option maxRecDepth 20000 in
theorem tw_941 : (Cond.methodLink RX9 158 yX9_isType) ∈ lw_tbl := gt_4 _ (gp_64 (gp_64 (gp_16 (gp_16 (gp_16 (gp_1 gp_h))))))
set_option maxRecDepth 20000 in
theorem tw_792 : (Cond.fieldLink RX9 151 "StateRecordsModel" "things" "I") ∈ lw_tbl := gt_4 _ (gp_16 (gp_4 (gp_4 (gp_4 gp_h))))
set_option maxRecDepth 20000 in
theorem tw_949 : (Cond.constantLong RX9 168 ( -1 )) ∈ lw_tbl := gt_4 _ (gp_64 (gp_64 (gp_16 (gp_16 (gp_16 (gp_4 (gp_4 (gp_1 gp_h))))))))
set_option maxRecDepth 20000 in
theorem tw_799 : (Cond.fieldLink RX9 165 "StateRecordsModel" "marks" "I") ∈ lw_tbl := gt_4 _ (gp_16 (gp_16 (gp_1 (gp_1 (gp_1 gp_h)))))
set_option maxRecDepth 20000 in
theorem tw_940 : (Cond.code yX9_field cX9_field 8 ( some .int )) ∈ lw_tbl := gt_4 _ (gp_64 (gp_64 (gp_16 (gp_16 (gp_16 gp_h)))))
set_option maxRecDepth 20000 in
theorem ggT_X9_field : GoodIn lw_tbl wsX9_field := goodIn_cons (gp_s (gp_c (tw_940) (gp_n)) (by decide +kernel)) (goodIn_app (gp_s (gp_c (tw_779) (gp_c (tw_799) (gp_c (tw_782) (gp_c (tw_783) (gp_c (tw_784) (gp_c (tw_785) (gp_c (tw_949) (gp_c (tw_786) (gp_c (tw_792) (gp_c (tw_793) (gp_c (tw_794) (gp_c (tw_941) (gp_c (tw_943) (gp_c (gq_23) (gp_c (tw_51) (gp_c (tw_944) (gp_c (tw_781) (gp_c (tw_945) (gp_c (tw_947) (gp_c (gq_24) (gp_c (tw_948) (gp_n)))))))))))))))))))))) (by decide +kernel)) gwX90)
set_option maxRecDepth 20000 in
theorem gT_X9_field : GoodIn lw_tbl (wsV RL 38 RX9 yX9_field wsX9_field) := goodIn_app (gp_s (gp_c (gt_4 _ (gp_64 (gp_64 (gp_16 (gp_16 (gp_4 (gp_4 (gp_4 (gp_1 gp_h))))))))) (gp_c (gt_4 _ (gp_64 (gp_64 (gp_16 (gp_16 (gp_4 (gp_4 (gp_4 (gp_1 (gp_1 gp_h)))))))))) (gp_c (gt_4 _ (gp_64 (gp_64 (gp_16 (gp_16 (gp_4 (gp_4 (gp_4 (gp_1 (gp_1 (gp_1 gp_h))))))))))) (gp_c (tw_51) (gp_n))))) (by decide +kernel)) ggT_X9_field
set_option maxRecDepth 20000 in
theorem tw_331 : (Cond.instanceMethod yX7_removeField) ∈ lw_tbl := gt_2 _ (gp_16 (gp_16 (gp_4 (gp_4 (gp_4 (gp_1 (gp_1 (gp_1 gp_h))))))))
set_option maxRecDepth 20000 in
theorem tw_330 : (Cond.methodLink RX8 108 yX7_removeField) ∈ lw_tbl := gt_2 _ (gp_16 (gp_16 (gp_4 (gp_4 (gp_4 (gp_1 (gp_1 gp_h)))))))
set_option maxRecDepth 20000 in
theorem tw_328 : (Cond.code yX7_hasField cX7_hasField 2 ( some .boolean )) ∈ lw_tbl := gt_2 _ (gp_16 (gp_16 (gp_4 (gp_4 (gp_4 gp_h)))))
set_option maxRecDepth 20000 in
theorem tw_327 : (Cond.selects RX7 yX7_hasField yX7_hasField) ∈ lw_tbl := gt_2 _ (gp_16 (gp_16 (gp_4 (gp_4 (gp_1 (gp_1 (gp_1 gp_h)))))))
set_option maxRecDepth 20000 in
theorem tw_326 : (Cond.instanceMethod yX7_hasField) ∈ lw_tbl := gt_2 _ (gp_16 (gp_16 (gp_4 (gp_4 (gp_1 (gp_1 gp_h))))))
set_option maxRecDepth 20000 in
theorem tw_325 : (Cond.methodLink RX8 104 yX7_hasField) ∈ lw_tbl := gt_2 _ (gp_16 (gp_16 (gp_4 (gp_4 (gp_1 gp_h)))))
set_option maxRecDepth 20000 in
theorem tw_337 : (Cond.code yX6_removeField cX6_removeField 3 none) ∈ lw_tbl := gt_2 _ (gp_16 (gp_16 (gp_16 (gp_4 (gp_1 gp_h)))))
set_option maxRecDepth 20000 in
theorem tw_336 : (Cond.selects RX6 yX6_removeField yX6_removeField) ∈ lw_tbl := gt_2 _ (gp_16 (gp_16 (gp_16 (gp_4 gp_h))))
set_option maxRecDepth 20000 in
theorem tw_335 : (Cond.instanceMethod yX6_removeField) ∈ lw_tbl := gt_2 _ (gp_16 (gp_16 (gp_16 (gp_1 (gp_1 (gp_1 gp_h))))))
set_option maxRecDepth 20000 in
theorem tw_334 : (Cond.methodLink RX8 111 yX6_removeField) ∈ lw_tbl := gt_2 _ (gp_16 (gp_16 (gp_16 (gp_1 (gp_1 gp_h)))))
set_option maxRecDepth 20000 in
theorem tw_333 : (Cond.code yX7_removeField cX7_removeField 3 none) ∈ lw_tbl := gt_2 _ (gp_16 (gp_16 (gp_16 (gp_1 gp_h))))
set_option maxRecDepth 20000 in
theorem tw_332 : (Cond.selects RX7 yX7_removeField yX7_removeField) ∈ lw_tbl := gt_2 _ (gp_16 (gp_16 (gp_16 gp_h)))
set_option maxRecDepth 20000 in
theorem tw_324 : (Cond.code yX8_drop cX8_drop 5 ( some .int )) ∈ lw_tbl := gt_2 _ (gp_16 (gp_16 (gp_4 (gp_4 gp_h))))
set_option maxRecDepth 20000 in
theorem gr_X8_drop_r1 : GoodIn lw_tbl wsX8_drop_r1 := gp_s (gp_c (tw_226) (gp_c (tw_155) (gp_c (tw_219) (gp_c (tw_218) (gp_c (tw_196) (gp_c (tw_268) (gp_c (tw_301) (gp_c (tw_303) (gp_c (gq_0) (gp_c (tw_45) (gp_c (tw_304) (gp_c (tw_217) (gp_c (tw_216) (gp_c (tw_305) (gp_c (tw_306) (gp_c (tw_307) (gp_c (tw_325) (gp_c (tw_326) (gp_c (tw_327) (gp_c (tw_52) (gp_c (tw_328) (gp_c (tw_266) (gp_c (tw_330) (gp_c (tw_331) (gp_n))))))))))))))))))))))))) (by decide +kernel)
set_option maxRecDepth 20000 in
theorem gr_X8_drop_r2 : GoodIn lw_tbl wsX8_drop_r2 := gp_s (gp_c (tw_332) (gp_c (tw_333) (gp_c (tw_269) (gp_c (tw_271) (gp_c (tw_273) (gp_c (tw_275) (gp_c (tw_334) (gp_c (tw_335) (gp_c (tw_336) (gp_c (tw_50) (gp_c (tw_337) (gp_c (tw_197) (gp_c (tw_201) (gp_n)))))))))))))) (by decide +kernel)
set_option maxRecDepth 20000 in
theorem ggT_X8_drop : GoodIn lw_tbl wsX8_drop := goodIn_cons (gp_s (gp_c (tw_324) (gp_n)) (by decide +kernel)) (goodIn_app (goodIn_app (goodIn_app (goodIn_app (goodIn_app gr_X8_drop_r1 gr_X8_drop_r2) gwX80) gwX20) gwX60) gwX70)
set_option maxRecDepth 20000 in
theorem gT_X8_drop : GoodIn lw_tbl (wsV RL 39 RX8 yX8_drop wsX8_drop) := goodIn_app (gp_s (gp_c (gt_2 _ (gp_16 (gp_16 (gp_4 (gp_1 gp_h))))) (gp_c (gt_2 _ (gp_16 (gp_16 (gp_4 (gp_1 (gp_1 gp_h)))))) (gp_c (gt_2 _ (gp_16 (gp_16 (gp_4 (gp_1 (gp_1 (gp_1 gp_h))))))) (gp_c (tw_45) (gp_n))))) (by decide +kernel)) ggT_X8_drop
set_option maxRecDepth 20000 in
theorem tw_953 : (Cond.code yX9_drop cX9_drop 5 ( some .int )) ∈ lw_tbl := gt_4 _ (gp_64 (gp_64 (gp_16 (gp_16 (gp_16 (gp_4 (gp_4 (gp_4 (gp_1 gp_h)))))))))
set_option maxRecDepth 20000 in
theorem ggT_X9_drop : GoodIn lw_tbl wsX9_drop := goodIn_cons (gp_s (gp_c (tw_953) (gp_n)) (by decide +kernel)) (goodIn_app (gp_s (gp_c (tw_779) (gp_c (tw_782) (gp_c (tw_799) (gp_c (tw_783) (gp_c (tw_784) (gp_c (tw_785) (gp_c (tw_786) (gp_c (tw_792) (gp_c (tw_794) (gp_c (tw_793) (gp_c (tw_941) (gp_c (tw_943) (gp_c (gq_23) (gp_c (tw_51) (gp_c (tw_944) (gp_c (tw_781) (gp_n))))))))))))))))) (by decide +kernel)) gwX90)
set_option maxRecDepth 20000 in
theorem gT_X9_drop : GoodIn lw_tbl (wsV RL 43 RX9 yX9_drop wsX9_drop) := goodIn_app (gp_s (gp_c (gt_4 _ (gp_64 (gp_64 (gp_16 (gp_16 (gp_16 (gp_4 (gp_4 (gp_1 (gp_1 gp_h)))))))))) (gp_c (gt_4 _ (gp_64 (gp_64 (gp_16 (gp_16 (gp_16 (gp_4 (gp_4 (gp_1 (gp_1 (gp_1 gp_h))))))))))) (gp_c (gt_4 _ (gp_64 (gp_64 (gp_16 (gp_16 (gp_16 (gp_4 (gp_4 (gp_4 gp_h))))))))) (gp_c (tw_51) (gp_n))))) (by decide +kernel)) ggT_X9_drop
set_option maxRecDepth 20000 in
theorem tw_276 : (Cond.fieldLink RX8 112 "StateRecords$Type" "shuts" "[Z") ∈ lw_tbl := gt_1 _ (gp_64 (gp_64 (gp_64 (gp_16 (gp_16 (gp_4 (gp_4 gp_h)))))))
set_option maxRecDepth 20000 in
theorem tw_341 : (Cond.code yX8_shut cX8_shut 6 ( some .int )) ∈ lw_tbl := gt_2 _ (gp_16 (gp_16 (gp_16 (gp_4 (gp_4 (gp_1 gp_h))))))
set_option maxRecDepth 20000 in
theorem ggT_X8_shut : GoodIn lw_tbl wsX8_shut := goodIn_cons (gp_s (gp_c (tw_341) (gp_n)) (by decide +kernel)) (goodIn_app (goodIn_app (gp_s (gp_c (tw_276) (gp_c (tw_301) (gp_c (tw_303) (gp_c (gq_0) (gp_c (tw_45) (gp_c (tw_304) (gp_c (tw_217) (gp_c (tw_216) (gp_c (tw_305) (gp_c (tw_306) (gp_c (tw_307) (gp_c (tw_325) (gp_c (tw_326) (gp_c (tw_327) (gp_c (tw_52) (gp_c (tw_328) (gp_c (tw_266) (gp_n)))))))))))))))))) (by decide +kernel)) gwX70) gwX80)
set_option maxRecDepth 20000 in
theorem gT_X8_shut : GoodIn lw_tbl (wsV RL 44 RX8 yX8_shut wsX8_shut) := goodIn_app (gp_s (gp_c (gt_2 _ (gp_16 (gp_16 (gp_16 (gp_4 (gp_1 (gp_1 gp_h))))))) (gp_c (gt_2 _ (gp_16 (gp_16 (gp_16 (gp_4 (gp_1 (gp_1 (gp_1 gp_h)))))))) (gp_c (gt_2 _ (gp_16 (gp_16 (gp_16 (gp_4 (gp_4 gp_h)))))) (gp_c (tw_45) (gp_n))))) (by decide +kernel)) ggT_X8_shut
set_option maxRecDepth 20000 in
theorem tw_957 : (Cond.code yX9_shut cX9_shut 5 ( some .int )) ∈ lw_tbl := gt_4 _ (gp_64 (gp_64 (gp_64 (gp_1 gp_h))))
set_option maxRecDepth 20000 in
theorem ggT_X9_shut : GoodIn lw_tbl wsX9_shut := goodIn_cons (gp_s (gp_c (tw_957) (gp_n)) (by decide +kernel)) (goodIn_app (gp_s (gp_c (tw_779) (gp_c (tw_782) (gp_c (tw_786) (gp_c (tw_941) (gp_c (tw_943) (gp_c (gq_23) (gp_c (tw_51) (gp_c (tw_944) (gp_c (tw_781) (gp_n)))))))))) (by decide +kernel)) gwX90)
set_option maxRecDepth 20000 in
theorem gT_X9_shut : GoodIn lw_tbl (wsV RL 48 RX9 yX9_shut wsX9_shut) := goodIn_app (gp_s (gp_c (gt_4 _ (gp_64 (gp_64 (gp_16 (gp_16 (gp_16 (gp_4 (gp_4 (gp_4 (gp_1 (gp_1 gp_h))))))))))) (gp_c (gt_4 _ (gp_64 (gp_64 (gp_16 (gp_16 (gp_16 (gp_4 (gp_4 (gp_4 (gp_1 (gp_1 (gp_1 gp_h)))))))))))) (gp_c (gt_4 _ (gp_64 (gp_64 (gp_64 gp_h)))) (gp_c (tw_51) (gp_n))))) (by decide +kernel)) ggT_X9_shut
set_option maxRecDepth 20000 in
theorem tw_356 : (Cond.fieldLink RX0 16 "StateRecords$Check" "b" "I") ∈ lw_tbl := gt_2 _ (gp_64 (gp_4 (gp_4 gp_h)))
set_option maxRecDepth 20000 in
theorem tw_354 : (Cond.fieldLink RX0 13 "StateRecords$Check" "a" "I") ∈ lw_tbl := gt_2 _ (gp_64 (gp_4 (gp_1 (gp_1 gp_h))))
set_option maxRecDepth 20000 in
theorem tw_352 : (Cond.fieldLink RX0 7 "StateRecords$Check" "kind" "I") ∈ lw_tbl := gt_2 _ (gp_64 (gp_4 gp_h))
set_option maxRecDepth 20000 in
theorem tw_351 : (Cond.methodLink RX0 1 objectInit) ∈ lw_tbl := gt_2 _ (gp_64 (gp_1 (gp_1 (gp_1 gp_h))))
set_option maxRecDepth 20000 in
theorem tw_350 : (Cond.code yX0_init cX0_init 6 none) ∈ lw_tbl := gt_2 _ (gp_64 (gp_1 (gp_1 gp_h)))
set_option maxRecDepth 20000 in
theorem tw_349 : (Cond.instanceMethod yX0_init) ∈ lw_tbl := gt_2 _ (gp_64 (gp_1 gp_h))
set_option maxRecDepth 20000 in
theorem tw_348 : (Cond.methodLink RX8 124 yX0_init) ∈ lw_tbl := gt_2 _ (gp_64 gp_h)
set_option maxRecDepth 20000 in
theorem tw_53 : (Cond.initialized RX0) ∈ lw_tbl := gt_1 _ (gp_4 (gp_4 (gp_1 gp_h)))
set_option maxRecDepth 20000 in
theorem tw_347 : (Cond.instantiable RX0 4) ∈ lw_tbl := gt_2 _ (gp_16 (gp_16 (gp_16 (gp_4 (gp_4 (gp_4 (gp_1 (gp_1 (gp_1 gp_h)))))))))
set_option maxRecDepth 20000 in
theorem tw_346 : (Cond.classLink RX8 122 RX0) ∈ lw_tbl := gt_2 _ (gp_16 (gp_16 (gp_16 (gp_4 (gp_4 (gp_4 (gp_1 (gp_1 gp_h))))))))
set_option maxRecDepth 20000 in
theorem tw_279 : (Cond.fieldLink RX8 118 "StateRecords$Type" "checks" "[LStateRecords$Check;") ∈ lw_tbl := gt_1 _ (gp_64 (gp_64 (gp_64 (gp_16 (gp_16 (gp_4 (gp_4 (gp_1 (gp_1 (gp_1 gp_h))))))))))
set_option maxRecDepth 20000 in
theorem tw_277 : (Cond.fieldLink RX8 115 "StateRecords$Type" "checkCount" "I") ∈ lw_tbl := gt_1 _ (gp_64 (gp_64 (gp_64 (gp_16 (gp_16 (gp_4 (gp_4 (gp_1 gp_h))))))))
set_option maxRecDepth 20000 in
theorem tw_358 : (Cond.fieldLink RX0 19 "StateRecords$Check" "v" "J") ∈ lw_tbl := gt_2 _ (gp_64 (gp_4 (gp_4 (gp_1 (gp_1 gp_h)))))
set_option maxRecDepth 20000 in
theorem tw_345 : (Cond.code yX8_check cX8_check 8 ( some .int )) ∈ lw_tbl := gt_2 _ (gp_16 (gp_16 (gp_16 (gp_4 (gp_4 (gp_4 (gp_1 gp_h)))))))
set_option maxRecDepth 20000 in
theorem gr_X8_check_r1 : GoodIn lw_tbl wsX8_check_r1 := gp_s (gp_c (tw_277) (gp_c (tw_279) (gp_c (tw_346) (gp_c (tw_347) (gp_c (tw_53) (gp_c (tw_301) (gp_c (tw_303) (gp_c (gq_0) (gp_c (tw_45) (gp_c (tw_304) (gp_c (tw_217) (gp_c (tw_216) (gp_c (tw_305) (gp_c (tw_306) (gp_c (tw_307) (gp_c (tw_348) (gp_c (tw_349) (gp_c (tw_350) (gp_c (tw_351) (gp_c (tw_68) (gp_c (tw_69) (gp_c (tw_352) (gp_c (tw_354) (gp_c (tw_356) (gp_n))))))))))))))))))))))))) (by decide +kernel)
set_option maxRecDepth 20000 in
theorem gr_X8_check_r2 : GoodIn lw_tbl wsX8_check_r2 := gp_s (gp_c (tw_358) (gp_n)) (by decide +kernel)
set_option maxRecDepth 20000 in
theorem ggT_X8_check : GoodIn lw_tbl wsX8_check := goodIn_cons (gp_s (gp_c (tw_345) (gp_n)) (by decide +kernel)) (goodIn_app (goodIn_app (goodIn_app (goodIn_app gr_X8_check_r1 gr_X8_check_r2) gwX70) gwX00) gwX80)
set_option maxRecDepth 20000 in
theorem gT_X8_check : GoodIn lw_tbl (wsV RL 49 RX8 yX8_check wsX8_check) := goodIn_app (gp_s (gp_c (gt_2 _ (gp_16 (gp_16 (gp_16 (gp_4 (gp_4 (gp_1 (gp_1 gp_h)))))))) (gp_c (gt_2 _ (gp_16 (gp_16 (gp_16 (gp_4 (gp_4 (gp_1 (gp_1 (gp_1 gp_h))))))))) (gp_c (gt_2 _ (gp_16 (gp_16 (gp_16 (gp_4 (gp_4 (gp_4 gp_h))))))) (gp_c (tw_45) (gp_n))))) (by decide +kernel)) ggT_X8_check
set_option maxRecDepth 20000 in
theorem tw_961 : (Cond.code yX9_check cX9_check 8 ( some .int )) ∈ lw_tbl := gt_4 _ (gp_64 (gp_64 (gp_64 (gp_4 (gp_1 gp_h)))))
set_option maxRecDepth 20000 in
theorem ggT_X9_check : GoodIn lw_tbl wsX9_check := goodIn_cons (gp_s (gp_c (tw_961) (gp_n)) (by decide +kernel)) (goodIn_app (gp_s (gp_c (tw_779) (gp_c (tw_787) (gp_c (tw_788) (gp_c (tw_789) (gp_c (tw_790) (gp_c (tw_791) (gp_c (tw_941) (gp_c (tw_943) (gp_c (gq_23) (gp_c (tw_51) (gp_c (tw_944) (gp_c (tw_781) (gp_n))))))))))))) (by decide +kernel)) gwX90)
set_option maxRecDepth 20000 in
theorem gT_X9_check : GoodIn lw_tbl (wsV RL 53 RX9 yX9_check wsX9_check) := goodIn_app (gp_s (gp_c (gt_4 _ (gp_64 (gp_64 (gp_64 (gp_1 (gp_1 gp_h)))))) (gp_c (gt_4 _ (gp_64 (gp_64 (gp_64 (gp_1 (gp_1 (gp_1 gp_h))))))) (gp_c (gt_4 _ (gp_64 (gp_64 (gp_64 (gp_4 gp_h))))) (gp_c (tw_51) (gp_n))))) (by decide +kernel)) ggT_X9_check
set_option maxRecDepth 20000 in
theorem tw_372 : (Cond.code yX8_unchecked cX8_unchecked 4 ( some .int )) ∈ lw_tbl := gt_2 _ (gp_64 (gp_16 (gp_4 (gp_4 gp_h))))
set_option maxRecDepth 20000 in
theorem ggT_X8_unchecked : GoodIn lw_tbl wsX8_unchecked := goodIn_cons (gp_s (gp_c (tw_372) (gp_n)) (by decide +kernel)) (goodIn_app (goodIn_app (gp_s (gp_c (tw_277) (gp_c (tw_301) (gp_c (tw_303) (gp_c (gq_0) (gp_c (tw_45) (gp_c (tw_304) (gp_c (tw_217) (gp_c (tw_216) (gp_c (tw_305) (gp_c (tw_306) (gp_c (tw_307) (gp_n)))))))))))) (by decide +kernel)) gwX70) gwX80)
set_option maxRecDepth 20000 in
theorem gT_X8_unchecked : GoodIn lw_tbl (wsV RL 54 RX8 yX8_unchecked wsX8_unchecked) := goodIn_app (gp_s (gp_c (gt_2 _ (gp_64 (gp_16 (gp_4 (gp_1 gp_h))))) (gp_c (gt_2 _ (gp_64 (gp_16 (gp_4 (gp_1 (gp_1 gp_h)))))) (gp_c (gt_2 _ (gp_64 (gp_16 (gp_4 (gp_1 (gp_1 (gp_1 gp_h))))))) (gp_c (tw_45) (gp_n))))) (by decide +kernel)) ggT_X8_unchecked
set_option maxRecDepth 20000 in
theorem tw_965 : (Cond.code yX9_unchecked cX9_unchecked 3 ( some .int )) ∈ lw_tbl := gt_4 _ (gp_64 (gp_64 (gp_64 (gp_4 (gp_4 (gp_1 gp_h))))))
set_option maxRecDepth 20000 in
theorem ggT_X9_unchecked : GoodIn lw_tbl wsX9_unchecked := goodIn_cons (gp_s (gp_c (tw_965) (gp_n)) (by decide +kernel)) (goodIn_app (gp_s (gp_c (tw_779) (gp_c (tw_787) (gp_c (tw_941) (gp_c (tw_943) (gp_c (gq_23) (gp_c (tw_51) (gp_c (tw_944) (gp_c (tw_781) (gp_n))))))))) (by decide +kernel)) gwX90)
set_option maxRecDepth 20000 in
theorem gT_X9_unchecked : GoodIn lw_tbl (wsV RL 58 RX9 yX9_unchecked wsX9_unchecked) := goodIn_app (gp_s (gp_c (gt_4 _ (gp_64 (gp_64 (gp_64 (gp_4 (gp_1 (gp_1 gp_h))))))) (gp_c (gt_4 _ (gp_64 (gp_64 (gp_64 (gp_4 (gp_1 (gp_1 (gp_1 gp_h)))))))) (gp_c (gt_4 _ (gp_64 (gp_64 (gp_64 (gp_4 (gp_4 gp_h)))))) (gp_c (tw_51) (gp_n))))) (by decide +kernel)) ggT_X9_unchecked
set_option maxRecDepth 20000 in
theorem tw_376 : (Cond.code yX8_word cX8_word 4 ( some .int )) ∈ lw_tbl := gt_2 _ (gp_64 (gp_16 (gp_4 (gp_4 (gp_4 gp_h)))))
set_option maxRecDepth 20000 in
theorem ggT_X8_word : GoodIn lw_tbl wsX8_word := goodIn_cons (gp_s (gp_c (tw_376) (gp_n)) (by decide +kernel)) (goodIn_app (gp_s (gp_c (tw_220) (gp_c (tw_305) (gp_c (tw_306) (gp_c (tw_45) (gp_c (tw_307) (gp_n)))))) (by decide +kernel)) gwX80)
set_option maxRecDepth 20000 in
theorem gT_X8_word : GoodIn lw_tbl (wsV RL 59 RX8 yX8_word wsX8_word) := goodIn_app (gp_s (gp_c (gt_2 _ (gp_64 (gp_16 (gp_4 (gp_4 (gp_1 gp_h)))))) (gp_c (gt_2 _ (gp_64 (gp_16 (gp_4 (gp_4 (gp_1 (gp_1 gp_h))))))) (gp_c (gt_2 _ (gp_64 (gp_16 (gp_4 (gp_4 (gp_1 (gp_1 (gp_1 gp_h)))))))) (gp_c (tw_45) (gp_n))))) (by decide +kernel)) ggT_X8_word
set_option maxRecDepth 20000 in
theorem tw_969 : (Cond.code yX9_word cX9_word 4 ( some .int )) ∈ lw_tbl := gt_4 _ (gp_64 (gp_64 (gp_64 (gp_4 (gp_4 (gp_4 (gp_1 gp_h)))))))
set_option maxRecDepth 20000 in
theorem ggT_X9_word : GoodIn lw_tbl wsX9_word := goodIn_cons (gp_s (gp_c (tw_969) (gp_n)) (by decide +kernel)) (goodIn_app (gp_s (gp_c (tw_779) (gp_c (tw_780) (gp_n))) (by decide +kernel)) gwX90)
set_option maxRecDepth 20000 in
theorem gT_X9_word : GoodIn lw_tbl (wsV RL 63 RX9 yX9_word wsX9_word) := goodIn_app (gp_s (gp_c (gt_4 _ (gp_64 (gp_64 (gp_64 (gp_4 (gp_4 (gp_1 (gp_1 gp_h)))))))) (gp_c (gt_4 _ (gp_64 (gp_64 (gp_64 (gp_4 (gp_4 (gp_1 (gp_1 (gp_1 gp_h))))))))) (gp_c (gt_4 _ (gp_64 (gp_64 (gp_64 (gp_4 (gp_4 (gp_4 gp_h))))))) (gp_c (tw_51) (gp_n))))) (by decide +kernel)) ggT_X9_word
set_option maxRecDepth 20000 in
theorem tw_385 : (Cond.methodLink RX6 31 yX6_setDefault) ∈ lw_tbl := gt_2 _ (gp_64 (gp_16 (gp_16 (gp_4 (gp_1 gp_h)))))
set_option maxRecDepth 20000 in
theorem tw_267 : (Cond.fieldLink RX6 25 "StateRecords$Type" "fieldCount" "I") ∈ lw_tbl := gt_1 _ (gp_64 (gp_64 (gp_64 (gp_16 (gp_4 (gp_4 (gp_4 (gp_1 (gp_1 (gp_1 gp_h))))))))))
set_option maxRecDepth 20000 in
theorem tw_384 : (Cond.code yX6_become cX6_become 3 none) ∈ lw_tbl := gt_2 _ (gp_64 (gp_16 (gp_16 (gp_4 gp_h))))
set_option maxRecDepth 20000 in
theorem tw_383 : (Cond.selects RX6 yX6_become yX6_become) ∈ lw_tbl := gt_2 _ (gp_64 (gp_16 (gp_16 (gp_1 (gp_1 (gp_1 gp_h))))))
set_option maxRecDepth 20000 in
theorem tw_382 : (Cond.instanceMethod yX6_become) ∈ lw_tbl := gt_2 _ (gp_64 (gp_16 (gp_16 (gp_1 (gp_1 gp_h)))))
set_option maxRecDepth 20000 in
theorem tw_381 : (Cond.methodLink RX8 127 yX6_become) ∈ lw_tbl := gt_2 _ (gp_64 (gp_16 (gp_16 (gp_1 gp_h))))
set_option maxRecDepth 20000 in
theorem tw_380 : (Cond.code yX8_thing cX8_thing 3 ( some .int )) ∈ lw_tbl := gt_2 _ (gp_64 (gp_16 (gp_16 gp_h)))
set_option maxRecDepth 20000 in
theorem gr_X8_thing_r1 : GoodIn lw_tbl wsX8_thing_r1 := gp_s (gp_c (tw_219) (gp_c (tw_218) (gp_c (tw_301) (gp_c (tw_303) (gp_c (gq_0) (gp_c (tw_45) (gp_c (tw_304) (gp_c (tw_217) (gp_c (tw_216) (gp_c (tw_305) (gp_c (tw_306) (gp_c (tw_307) (gp_c (tw_381) (gp_c (tw_382) (gp_c (tw_383) (gp_c (tw_50) (gp_c (tw_384) (gp_c (tw_195) (gp_c (tw_267) (gp_c (tw_385) (gp_c (tw_318) (gp_c (tw_319) (gp_c (tw_320) (gp_c (tw_197) (gp_n))))))))))))))))))))))))) (by decide +kernel)
set_option maxRecDepth 20000 in
theorem gr_X8_thing_r2 : GoodIn lw_tbl wsX8_thing_r2 := gp_s (gp_c (tw_274) (gp_c (tw_201) (gp_n))) (by decide +kernel)
set_option maxRecDepth 20000 in
theorem ggT_X8_thing : GoodIn lw_tbl wsX8_thing := goodIn_cons (gp_s (gp_c (tw_380) (gp_n)) (by decide +kernel)) (goodIn_app (goodIn_app (goodIn_app (goodIn_app gr_X8_thing_r1 gr_X8_thing_r2) gwX80) gwX60) gwX70)
set_option maxRecDepth 20000 in
theorem gT_X8_thing : GoodIn lw_tbl (wsV RL 64 RX8 yX8_thing wsX8_thing) := goodIn_app (gp_s (gp_c (gt_2 _ (gp_64 (gp_16 (gp_4 (gp_4 (gp_4 (gp_1 gp_h))))))) (gp_c (gt_2 _ (gp_64 (gp_16 (gp_4 (gp_4 (gp_4 (gp_1 (gp_1 gp_h)))))))) (gp_c (gt_2 _ (gp_64 (gp_16 (gp_4 (gp_4 (gp_4 (gp_1 (gp_1 (gp_1 gp_h))))))))) (gp_c (tw_45) (gp_n))))) (by decide +kernel)) ggT_X8_thing
set_option maxRecDepth 20000 in
theorem tw_973 : (Cond.code yX9_thing cX9_thing 3 ( some .int )) ∈ lw_tbl := gt_4 _ (gp_64 (gp_64 (gp_64 (gp_16 (gp_1 gp_h)))))
set_option maxRecDepth 20000 in
theorem ggT_X9_thing : GoodIn lw_tbl wsX9_thing := goodIn_cons (gp_s (gp_c (tw_973) (gp_n)) (by decide +kernel)) (goodIn_app (gp_s (gp_c (tw_779) (gp_c (tw_792) (gp_c (tw_793) (gp_c (tw_782) (gp_c (tw_794) (gp_c (tw_785) (gp_c (tw_941) (gp_c (tw_943) (gp_c (gq_23) (gp_c (tw_51) (gp_c (tw_944) (gp_c (tw_781) (gp_n))))))))))))) (by decide +kernel)) gwX90)
set_option maxRecDepth 20000 in
theorem gT_X9_thing : GoodIn lw_tbl (wsV RL 67 RX9 yX9_thing wsX9_thing) := goodIn_app (gp_s (gp_c (gt_4 _ (gp_64 (gp_64 (gp_64 (gp_4 (gp_4 (gp_4 (gp_1 (gp_1 gp_h))))))))) (gp_c (gt_4 _ (gp_64 (gp_64 (gp_64 (gp_4 (gp_4 (gp_4 (gp_1 (gp_1 (gp_1 gp_h)))))))))) (gp_c (gt_4 _ (gp_64 (gp_64 (gp_64 (gp_16 gp_h))))) (gp_c (tw_51) (gp_n))))) (by decide +kernel)) ggT_X9_thing
set_option maxRecDepth 20000 in
theorem tw_399 : (Cond.static yX8_failed) ∈ lw_tbl := gt_2 _ (gp_64 (gp_16 (gp_16 (gp_16 (gp_1 (gp_1 (gp_1 gp_h)))))))
set_option maxRecDepth 20000 in
theorem tw_398 : (Cond.methodLink RX8 139 yX8_failed) ∈ lw_tbl := gt_2 _ (gp_64 (gp_16 (gp_16 (gp_16 (gp_1 (gp_1 gp_h))))))
set_option maxRecDepth 20000 in
theorem tw_397 : (Cond.code yX8_thingNumbered cX8_thingNumbered 3 ( some ( .object "StateRecords$Thing" ) )) ∈ lw_tbl := gt_2 _ (gp_64 (gp_16 (gp_16 (gp_16 (gp_1 gp_h)))))
set_option maxRecDepth 20000 in
theorem tw_396 : (Cond.instanceMethod yX8_thingNumbered) ∈ lw_tbl := gt_2 _ (gp_64 (gp_16 (gp_16 (gp_16 gp_h))))
set_option maxRecDepth 20000 in
theorem tw_394 : (Cond.methodLink RX8 177 yX8_thingNumbered) ∈ lw_tbl := gt_2 _ (gp_64 (gp_16 (gp_16 (gp_4 (gp_4 (gp_4 (gp_1 (gp_1 gp_h))))))))
set_option maxRecDepth 20000 in
theorem tw_393 : (Cond.code yX8_thingWithField cX8_thingWithField 4 ( some ( .object "StateRecords$Thing" ) )) ∈ lw_tbl := gt_2 _ (gp_64 (gp_16 (gp_16 (gp_4 (gp_4 (gp_4 (gp_1 gp_h)))))))
set_option maxRecDepth 20000 in
theorem tw_392 : (Cond.instanceMethod yX8_thingWithField) ∈ lw_tbl := gt_2 _ (gp_64 (gp_16 (gp_16 (gp_4 (gp_4 (gp_4 gp_h))))))
set_option maxRecDepth 20000 in
theorem tw_390 : (Cond.methodLink RX8 131 yX8_thingWithField) ∈ lw_tbl := gt_2 _ (gp_64 (gp_16 (gp_16 (gp_4 (gp_4 (gp_1 (gp_1 gp_h)))))))
set_option maxRecDepth 20000 in
theorem tw_272 : (Cond.fieldLink RX8 135 "StateRecords$Type" "lanes" "[I") ∈ lw_tbl := gt_1 _ (gp_64 (gp_64 (gp_64 (gp_16 (gp_16 (gp_4 gp_h))))))
set_option maxRecDepth 20000 in
theorem tw_199 : (Cond.fieldLink RX2 26 "StateRecords$Thing" "values" "[J") ∈ lw_tbl := gt_1 _ (gp_64 (gp_64 (gp_16 (gp_4 (gp_4 (gp_1 (gp_1 (gp_1 gp_h))))))))
set_option maxRecDepth 20000 in
theorem tw_417 : (Cond.code yX2_noteField cX2_noteField 3 none) ∈ lw_tbl := gt_2 _ (gp_64 (gp_64 (gp_4 (gp_1 gp_h))))
set_option maxRecDepth 20000 in
theorem tw_416 : (Cond.selects RX2 yX2_noteField yX2_noteField) ∈ lw_tbl := gt_2 _ (gp_64 (gp_64 (gp_4 gp_h)))
set_option maxRecDepth 20000 in
theorem tw_415 : (Cond.instanceMethod yX2_noteField) ∈ lw_tbl := gt_2 _ (gp_64 (gp_64 (gp_1 (gp_1 (gp_1 gp_h)))))
set_option maxRecDepth 20000 in
theorem tw_414 : (Cond.methodLink RX8 277 yX2_noteField) ∈ lw_tbl := gt_2 _ (gp_64 (gp_64 (gp_1 (gp_1 gp_h))))
set_option maxRecDepth 20000 in
theorem tw_152 : (Cond.fieldLink RX2 22 "StateRecords$Journal" "noteCount" "I") ∈ lw_tbl := gt_1 _ (gp_64 (gp_16 (gp_16 (gp_4 (gp_4 (gp_4 gp_h))))))
set_option maxRecDepth 20000 in
theorem tw_413 : (Cond.code yX2_isFull cX2_isFull 1 ( some .boolean )) ∈ lw_tbl := gt_2 _ (gp_64 (gp_64 (gp_1 gp_h)))
set_option maxRecDepth 20000 in
theorem tw_412 : (Cond.selects RX2 yX2_isFull yX2_isFull) ∈ lw_tbl := gt_2 _ (gp_64 (gp_64 gp_h))
set_option maxRecDepth 20000 in
theorem tw_411 : (Cond.instanceMethod yX2_isFull) ∈ lw_tbl := gt_2 _ (gp_64 (gp_16 (gp_16 (gp_16 (gp_4 (gp_4 (gp_4 (gp_1 (gp_1 (gp_1 gp_h))))))))))
set_option maxRecDepth 20000 in
theorem tw_410 : (Cond.methodLink RX8 165 yX2_isFull) ∈ lw_tbl := gt_2 _ (gp_64 (gp_16 (gp_16 (gp_16 (gp_4 (gp_4 (gp_4 (gp_1 (gp_1 gp_h)))))))))
set_option maxRecDepth 20000 in
theorem tw_200 : (Cond.fieldLink RX8 193 "StateRecords$Thing" "values" "[J") ∈ lw_tbl := gt_1 _ (gp_64 (gp_64 (gp_16 (gp_4 (gp_4 (gp_4 gp_h))))))
set_option maxRecDepth 20000 in
theorem tw_409 : (Cond.code yX8_changeValue cX8_changeValue 5 ( some .int )) ∈ lw_tbl := gt_2 _ (gp_64 (gp_16 (gp_16 (gp_16 (gp_4 (gp_4 (gp_4 (gp_1 gp_h))))))))
set_option maxRecDepth 20000 in
theorem tw_408 : (Cond.instanceMethod yX8_changeValue) ∈ lw_tbl := gt_2 _ (gp_64 (gp_16 (gp_16 (gp_16 (gp_4 (gp_4 (gp_4 gp_h)))))))
set_option maxRecDepth 20000 in
theorem tw_406 : (Cond.methodLink RX8 146 yX8_changeValue) ∈ lw_tbl := gt_2 _ (gp_64 (gp_16 (gp_16 (gp_16 (gp_4 (gp_4 (gp_1 (gp_1 gp_h))))))))
set_option maxRecDepth 20000 in
theorem tw_405 : (Cond.constantLong RX8 275 ( 16 )) ∈ lw_tbl := gt_2 _ (gp_64 (gp_16 (gp_16 (gp_16 (gp_4 (gp_4 (gp_1 gp_h)))))))
set_option maxRecDepth 20000 in
theorem tw_404 : (Cond.code yX8_isWordInUse cX8_isWordInUse 3 ( some .boolean )) ∈ lw_tbl := gt_2 _ (gp_64 (gp_16 (gp_16 (gp_16 (gp_4 (gp_4 gp_h))))))
set_option maxRecDepth 20000 in
theorem tw_403 : (Cond.instanceMethod yX8_isWordInUse) ∈ lw_tbl := gt_2 _ (gp_64 (gp_16 (gp_16 (gp_16 (gp_4 (gp_1 (gp_1 (gp_1 gp_h))))))))
set_option maxRecDepth 20000 in
theorem tw_401 : (Cond.methodLink RX8 142 yX8_isWordInUse) ∈ lw_tbl := gt_2 _ (gp_64 (gp_16 (gp_16 (gp_16 (gp_4 (gp_1 gp_h))))))
set_option maxRecDepth 20000 in
theorem tw_400 : (Cond.code yX8_failed cX8_failed 1 ( some .int )) ∈ lw_tbl := gt_2 _ (gp_64 (gp_16 (gp_16 (gp_16 (gp_4 gp_h)))))
set_option maxRecDepth 20000 in
theorem tw_422 : (Cond.methodLink RX2 48 yX2_isFull) ∈ lw_tbl := gt_2 _ (gp_64 (gp_64 (gp_4 (gp_4 (gp_1 (gp_1 gp_h))))))
set_option maxRecDepth 20000 in
theorem tw_141 : (Cond.fieldLink RX2 63 "StateRecords$Note" "row" "LStateRecords$Row;") ∈ lw_tbl := gt_1 _ (gp_64 (gp_16 (gp_16 (gp_1 gp_h))))
set_option maxRecDepth 20000 in
theorem tw_139 : (Cond.fieldLink RX2 59 "StateRecords$Note" "value" "J") ∈ lw_tbl := gt_1 _ (gp_64 (gp_16 (gp_4 (gp_4 (gp_4 (gp_1 (gp_1 (gp_1 gp_h))))))))
set_option maxRecDepth 20000 in
theorem tw_137 : (Cond.fieldLink RX2 56 "StateRecords$Note" "index" "I") ∈ lw_tbl := gt_1 _ (gp_64 (gp_16 (gp_4 (gp_4 (gp_4 (gp_1 gp_h))))))
set_option maxRecDepth 20000 in
theorem tw_135 : (Cond.fieldLink RX2 52 "StateRecords$Note" "thing" "LStateRecords$Thing;") ∈ lw_tbl := gt_1 _ (gp_64 (gp_16 (gp_4 (gp_4 (gp_1 (gp_1 (gp_1 gp_h)))))))
set_option maxRecDepth 20000 in
theorem tw_156 : (Cond.fieldLink RX2 45 "StateRecords$Journal" "markCount" "I") ∈ lw_tbl := gt_1 _ (gp_64 (gp_16 (gp_16 (gp_16 gp_h))))
set_option maxRecDepth 20000 in
theorem tw_421 : (Cond.code yX2_write cX2_write 7 none) ∈ lw_tbl := gt_2 _ (gp_64 (gp_64 (gp_4 (gp_4 (gp_1 gp_h)))))
set_option maxRecDepth 20000 in
theorem tw_420 : (Cond.instanceMethod yX2_write) ∈ lw_tbl := gt_2 _ (gp_64 (gp_64 (gp_4 (gp_4 gp_h))))
set_option maxRecDepth 20000 in
theorem tw_418 : (Cond.methodLink RX2 36 yX2_write) ∈ lw_tbl := gt_2 _ (gp_64 (gp_64 (gp_4 (gp_1 (gp_1 gp_h)))))
set_option maxRecDepth 20000 in
theorem tw_203 : (Cond.fieldLink RX2 32 "StateRecords$Thing" "rows" "[LStateRecords$Row;") ∈ lw_tbl := gt_1 _ (gp_64 (gp_64 (gp_16 (gp_4 (gp_4 (gp_4 (gp_1 (gp_1 (gp_1 gp_h)))))))))
set_option maxRecDepth 20000 in
theorem tw_389 : (Cond.code yX8_put cX8_put 7 ( some .int )) ∈ lw_tbl := gt_2 _ (gp_64 (gp_16 (gp_16 (gp_4 (gp_4 (gp_1 gp_h))))))
set_option maxRecDepth 20000 in
theorem gr_X8_put_r1 : GoodIn lw_tbl wsX8_put_r1 := gp_s (gp_c (tw_196) (gp_c (tw_272) (gp_c (tw_312) (gp_c (tw_390) (gp_c (tw_392) (gp_c (gq_1) (gp_c (tw_45) (gp_c (tw_393) (gp_c (tw_394) (gp_c (tw_396) (gp_c (gq_2) (gp_c (tw_397) (gp_c (tw_219) (gp_c (tw_218) (gp_c (tw_325) (gp_c (tw_326) (gp_c (tw_327) (gp_c (tw_52) (gp_c (tw_328) (gp_c (tw_266) (gp_c (tw_306) (gp_c (tw_307) (gp_c (tw_398) (gp_c (tw_399) (gp_n))))))))))))))))))))))))) (by decide +kernel)
set_option maxRecDepth 20000 in
theorem gr_X8_put_r2 : GoodIn lw_tbl wsX8_put_r2 := gp_s (gp_c (tw_400) (gp_c (tw_401) (gp_c (tw_403) (gp_c (gq_3) (gp_c (tw_404) (gp_c (tw_405) (gp_c (tw_220) (gp_c (tw_406) (gp_c (tw_408) (gp_c (gq_4) (gp_c (tw_409) (gp_c (tw_226) (gp_c (tw_200) (gp_c (tw_410) (gp_c (tw_411) (gp_c (tw_412) (gp_c (tw_47) (gp_c (tw_413) (gp_c (tw_152) (gp_c (tw_414) (gp_c (tw_415) (gp_c (tw_416) (gp_c (tw_417) (gp_c (tw_199) (gp_n))))))))))))))))))))))))) (by decide +kernel)
set_option maxRecDepth 20000 in
theorem gr_X8_put_r3 : GoodIn lw_tbl wsX8_put_r3 := gp_s (gp_c (tw_203) (gp_c (tw_418) (gp_c (tw_420) (gp_c (gq_5) (gp_c (tw_421) (gp_c (tw_156) (gp_c (tw_151) (gp_c (tw_135) (gp_c (tw_137) (gp_c (tw_139) (gp_c (tw_141) (gp_c (tw_422) (gp_n))))))))))))) (by decide +kernel)
set_option maxRecDepth 20000 in
theorem ggT_X8_put : GoodIn lw_tbl wsX8_put := goodIn_cons (gp_s (gp_c (tw_389) (gp_n)) (by decide +kernel)) (goodIn_app (goodIn_app (goodIn_app (goodIn_app (goodIn_app (goodIn_app gr_X8_put_r1 (goodIn_app gr_X8_put_r2 gr_X8_put_r3)) gwX60) gwX70) gwX80) gwX20) gwX30)
set_option maxRecDepth 20000 in
theorem gT_X8_put : GoodIn lw_tbl (wsV RL 68 RX8 yX8_put wsX8_put) := goodIn_app (gp_s (gp_c (gt_2 _ (gp_64 (gp_16 (gp_16 (gp_4 (gp_1 (gp_1 gp_h))))))) (gp_c (gt_2 _ (gp_64 (gp_16 (gp_16 (gp_4 (gp_1 (gp_1 (gp_1 gp_h)))))))) (gp_c (gt_2 _ (gp_64 (gp_16 (gp_16 (gp_4 (gp_4 gp_h)))))) (gp_c (tw_45) (gp_n))))) (by decide +kernel)) ggT_X8_put
set_option maxRecDepth 20000 in
theorem tw_993 : (Cond.instanceMethod yX9_isFull) ∈ lw_tbl := gt_4 _ (gp_64 (gp_64 (gp_64 (gp_16 (gp_16 (gp_4 (gp_1 gp_h)))))))
set_option maxRecDepth 20000 in
theorem tw_991 : (Cond.methodLink RX9 182 yX9_isFull) ∈ lw_tbl := gt_4 _ (gp_64 (gp_64 (gp_64 (gp_16 (gp_16 (gp_1 (gp_1 (gp_1 gp_h))))))))
set_option maxRecDepth 20000 in
theorem tw_989 : (Cond.code yX9_lane cX9_lane 3 ( some .int )) ∈ lw_tbl := gt_4 _ (gp_64 (gp_64 (gp_64 (gp_16 (gp_16 (gp_1 gp_h))))))
set_option maxRecDepth 20000 in
theorem tw_988 : (Cond.instanceMethod yX9_lane) ∈ lw_tbl := gt_4 _ (gp_64 (gp_64 (gp_64 (gp_16 (gp_16 gp_h)))))
set_option maxRecDepth 20000 in
theorem tw_986 : (Cond.methodLink RX9 170 yX9_lane) ∈ lw_tbl := gt_4 _ (gp_64 (gp_64 (gp_64 (gp_16 (gp_4 (gp_4 (gp_4 (gp_1 (gp_1 gp_h)))))))))
set_option maxRecDepth 20000 in
theorem tw_985 : (Cond.code yX9_isThing cX9_isThing 2 ( some .boolean )) ∈ lw_tbl := gt_4 _ (gp_64 (gp_64 (gp_64 (gp_16 (gp_4 (gp_4 (gp_4 (gp_1 gp_h))))))))
set_option maxRecDepth 20000 in
theorem tw_984 : (Cond.instanceMethod yX9_isThing) ∈ lw_tbl := gt_4 _ (gp_64 (gp_64 (gp_64 (gp_16 (gp_4 (gp_4 (gp_4 gp_h)))))))
set_option maxRecDepth 20000 in
theorem tw_982 : (Cond.methodLink RX9 154 yX9_isThing) ∈ lw_tbl := gt_4 _ (gp_64 (gp_64 (gp_64 (gp_16 (gp_4 (gp_4 (gp_1 (gp_1 gp_h))))))))
set_option maxRecDepth 20000 in
theorem tw_981 : (Cond.code yX9_isField cX9_isField 3 ( some .boolean )) ∈ lw_tbl := gt_4 _ (gp_64 (gp_64 (gp_64 (gp_16 (gp_4 (gp_4 (gp_1 gp_h)))))))
set_option maxRecDepth 20000 in
theorem tw_980 : (Cond.instanceMethod yX9_isField) ∈ lw_tbl := gt_4 _ (gp_64 (gp_64 (gp_64 (gp_16 (gp_4 (gp_4 gp_h))))))
set_option maxRecDepth 20000 in
theorem tw_978 : (Cond.methodLink RX9 176 yX9_isField) ∈ lw_tbl := gt_4 _ (gp_64 (gp_64 (gp_64 (gp_16 (gp_4 (gp_1 (gp_1 gp_h)))))))
set_option maxRecDepth 20000 in
theorem tw_990 : (Cond.constantLong RX9 180 ( 15 )) ∈ lw_tbl := gt_4 _ (gp_64 (gp_64 (gp_64 (gp_16 (gp_16 (gp_1 (gp_1 gp_h)))))))
set_option maxRecDepth 20000 in
theorem tw_998 : (Cond.code yX9_becomes cX9_becomes 5 none) ∈ lw_tbl := gt_4 _ (gp_64 (gp_64 (gp_64 (gp_16 (gp_16 (gp_4 (gp_4 (gp_1 (gp_1 gp_h)))))))))
set_option maxRecDepth 20000 in
theorem tw_997 : (Cond.instanceMethod yX9_becomes) ∈ lw_tbl := gt_4 _ (gp_64 (gp_64 (gp_64 (gp_16 (gp_16 (gp_4 (gp_4 (gp_1 gp_h))))))))
set_option maxRecDepth 20000 in
theorem tw_995 : (Cond.methodLink RX9 186 yX9_becomes) ∈ lw_tbl := gt_4 _ (gp_64 (gp_64 (gp_64 (gp_16 (gp_16 (gp_4 (gp_1 (gp_1 (gp_1 gp_h)))))))))
set_option maxRecDepth 20000 in
theorem tw_801 : (Cond.fieldLink RX9 173 "StateRecordsModel" "notes" "I") ∈ lw_tbl := gt_4 _ (gp_16 (gp_16 (gp_4 (gp_1 gp_h))))
set_option maxRecDepth 20000 in
theorem tw_994 : (Cond.code yX9_isFull cX9_isFull 1 ( some .boolean )) ∈ lw_tbl := gt_4 _ (gp_64 (gp_64 (gp_64 (gp_16 (gp_16 (gp_4 (gp_1 (gp_1 gp_h))))))))
set_option maxRecDepth 20000 in
theorem tw_977 : (Cond.code yX9_put cX9_put 5 ( some .int )) ∈ lw_tbl := gt_4 _ (gp_64 (gp_64 (gp_64 (gp_16 (gp_4 (gp_1 gp_h))))))
set_option maxRecDepth 20000 in
theorem gr_X9_put_r1 : GoodIn lw_tbl wsX9_put_r1 := gp_s (gp_c (tw_779) (gp_c (tw_949) (gp_c (tw_990) (gp_c (tw_780) (gp_c (tw_978) (gp_c (tw_980) (gp_c (gq_25) (gp_c (tw_51) (gp_c (tw_981) (gp_c (tw_782) (gp_c (tw_793) (gp_c (tw_982) (gp_c (tw_984) (gp_c (gq_26) (gp_c (tw_985) (gp_c (tw_792) (gp_c (tw_986) (gp_c (tw_988) (gp_c (gq_27) (gp_c (tw_989) (gp_c (tw_784) (gp_c (tw_991) (gp_c (tw_993) (gp_c (gq_28) (gp_n))))))))))))))))))))))))) (by decide +kernel)
set_option maxRecDepth 20000 in
theorem gr_X9_put_r2 : GoodIn lw_tbl wsX9_put_r2 := gp_s (gp_c (tw_994) (gp_c (tw_799) (gp_c (tw_801) (gp_c (tw_995) (gp_c (tw_997) (gp_c (gq_29) (gp_c (tw_998) (gp_c (tw_802) (gp_c (tw_803) (gp_c (tw_805) (gp_c (tw_806) (gp_c (tw_794) (gp_c (tw_804) (gp_n)))))))))))))) (by decide +kernel)
set_option maxRecDepth 20000 in
theorem ggT_X9_put : GoodIn lw_tbl wsX9_put := goodIn_cons (gp_s (gp_c (tw_977) (gp_n)) (by decide +kernel)) (goodIn_app (goodIn_app gr_X9_put_r1 gr_X9_put_r2) gwX90)
set_option maxRecDepth 20000 in
theorem gT_X9_put : GoodIn lw_tbl (wsV RL 72 RX9 yX9_put wsX9_put) := goodIn_app (gp_s (gp_c (gt_4 _ (gp_64 (gp_64 (gp_64 (gp_16 (gp_1 (gp_1 gp_h))))))) (gp_c (gt_4 _ (gp_64 (gp_64 (gp_64 (gp_16 (gp_1 (gp_1 (gp_1 gp_h)))))))) (gp_c (gt_4 _ (gp_64 (gp_64 (gp_64 (gp_16 (gp_4 gp_h)))))) (gp_c (tw_51) (gp_n))))) (by decide +kernel)) ggT_X9_put
set_option maxRecDepth 20000 in
theorem tw_426 : (Cond.code yX8_refer cX8_refer 5 ( some .int )) ∈ lw_tbl := gt_2 _ (gp_64 (gp_64 (gp_4 (gp_4 (gp_4 (gp_1 (gp_1 gp_h)))))))
set_option maxRecDepth 20000 in
theorem gr_X8_refer_r1 : GoodIn lw_tbl wsX8_refer_r1 := gp_s (gp_c (tw_219) (gp_c (tw_196) (gp_c (tw_272) (gp_c (tw_390) (gp_c (tw_392) (gp_c (gq_1) (gp_c (tw_45) (gp_c (tw_393) (gp_c (tw_394) (gp_c (tw_396) (gp_c (gq_2) (gp_c (tw_397) (gp_c (tw_218) (gp_c (tw_325) (gp_c (tw_326) (gp_c (tw_327) (gp_c (tw_52) (gp_c (tw_328) (gp_c (tw_266) (gp_c (tw_306) (gp_c (tw_307) (gp_c (tw_305) (gp_c (tw_398) (gp_c (tw_399) (gp_n))))))))))))))))))))))))) (by decide +kernel)
set_option maxRecDepth 20000 in
theorem gr_X8_refer_r2 : GoodIn lw_tbl wsX8_refer_r2 := gp_s (gp_c (tw_400) (gp_c (tw_406) (gp_c (tw_408) (gp_c (gq_4) (gp_c (tw_409) (gp_c (tw_226) (gp_c (tw_200) (gp_c (tw_410) (gp_c (tw_411) (gp_c (tw_412) (gp_c (tw_47) (gp_c (tw_413) (gp_c (tw_152) (gp_c (tw_414) (gp_c (tw_415) (gp_c (tw_416) (gp_c (tw_417) (gp_c (tw_199) (gp_c (tw_203) (gp_c (tw_418) (gp_c (tw_420) (gp_c (gq_5) (gp_c (tw_421) (gp_c (tw_156) (gp_n))))))))))))))))))))))))) (by decide +kernel)
set_option maxRecDepth 20000 in
theorem gr_X8_refer_r3 : GoodIn lw_tbl wsX8_refer_r3 := gp_s (gp_c (tw_151) (gp_c (tw_135) (gp_c (tw_137) (gp_c (tw_139) (gp_c (tw_141) (gp_c (tw_422) (gp_n))))))) (by decide +kernel)
set_option maxRecDepth 20000 in
theorem ggT_X8_refer : GoodIn lw_tbl wsX8_refer := goodIn_cons (gp_s (gp_c (tw_426) (gp_n)) (by decide +kernel)) (goodIn_app (goodIn_app (goodIn_app (goodIn_app (goodIn_app (goodIn_app gr_X8_refer_r1 (goodIn_app gr_X8_refer_r2 gr_X8_refer_r3)) gwX80) gwX60) gwX70) gwX20) gwX30)
set_option maxRecDepth 20000 in
theorem gT_X8_refer : GoodIn lw_tbl (wsV RL 73 RX8 yX8_refer wsX8_refer) := goodIn_app (gp_s (gp_c (gt_2 _ (gp_64 (gp_64 (gp_4 (gp_4 (gp_1 (gp_1 (gp_1 gp_h)))))))) (gp_c (gt_2 _ (gp_64 (gp_64 (gp_4 (gp_4 (gp_4 gp_h)))))) (gp_c (gt_2 _ (gp_64 (gp_64 (gp_4 (gp_4 (gp_4 (gp_1 gp_h))))))) (gp_c (tw_45) (gp_n))))) (by decide +kernel)) ggT_X8_refer
set_option maxRecDepth 20000 in
theorem tw_1002 : (Cond.code yX9_refer cX9_refer 4 ( some .int )) ∈ lw_tbl := gt_4 _ (gp_64 (gp_64 (gp_64 (gp_16 (gp_16 (gp_4 (gp_4 (gp_4 (gp_1 (gp_1 gp_h))))))))))
set_option maxRecDepth 20000 in
theorem gr_X9_refer_r1 : GoodIn lw_tbl wsX9_refer_r1 := gp_s (gp_c (tw_779) (gp_c (tw_978) (gp_c (tw_980) (gp_c (gq_25) (gp_c (tw_51) (gp_c (tw_981) (gp_c (tw_782) (gp_c (tw_793) (gp_c (tw_982) (gp_c (tw_984) (gp_c (gq_26) (gp_c (tw_985) (gp_c (tw_792) (gp_c (tw_986) (gp_c (tw_988) (gp_c (gq_27) (gp_c (tw_989) (gp_c (tw_784) (gp_c (tw_991) (gp_c (tw_993) (gp_c (gq_28) (gp_c (tw_994) (gp_c (tw_799) (gp_c (tw_801) (gp_n))))))))))))))))))))))))) (by decide +kernel)
set_option maxRecDepth 20000 in
theorem gr_X9_refer_r2 : GoodIn lw_tbl wsX9_refer_r2 := gp_s (gp_c (tw_995) (gp_c (tw_997) (gp_c (gq_29) (gp_c (tw_998) (gp_c (tw_802) (gp_c (tw_803) (gp_c (tw_805) (gp_c (tw_806) (gp_c (tw_794) (gp_c (tw_804) (gp_n))))))))))) (by decide +kernel)
set_option maxRecDepth 20000 in
theorem ggT_X9_refer : GoodIn lw_tbl wsX9_refer := goodIn_cons (gp_s (gp_c (tw_1002) (gp_n)) (by decide +kernel)) (goodIn_app (goodIn_app gr_X9_refer_r1 gr_X9_refer_r2) gwX90)
set_option maxRecDepth 20000 in
theorem gT_X9_refer : GoodIn lw_tbl (wsV RL 77 RX9 yX9_refer wsX9_refer) := goodIn_app (gp_s (gp_c (gt_4 _ (gp_64 (gp_64 (gp_64 (gp_16 (gp_16 (gp_4 (gp_4 (gp_1 (gp_1 (gp_1 gp_h))))))))))) (gp_c (gt_4 _ (gp_64 (gp_64 (gp_64 (gp_16 (gp_16 (gp_4 (gp_4 (gp_4 gp_h))))))))) (gp_c (gt_4 _ (gp_64 (gp_64 (gp_64 (gp_16 (gp_16 (gp_4 (gp_4 (gp_4 (gp_1 gp_h)))))))))) (gp_c (tw_51) (gp_n))))) (by decide +kernel)) ggT_X9_refer
set_option maxRecDepth 20000 in
theorem tw_54 : (Cond.initialized RX5) ∈ lw_tbl := gt_1 _ (gp_4 (gp_4 (gp_1 (gp_1 gp_h))))
set_option maxRecDepth 20000 in
theorem tw_434 : (Cond.instantiable RX5 2) ∈ lw_tbl := gt_2 _ (gp_64 (gp_64 (gp_16 (gp_4 (gp_1 (gp_1 gp_h))))))
set_option maxRecDepth 20000 in
theorem tw_204 : (Cond.fieldLink RX8 158 "StateRecords$Thing" "rows" "[LStateRecords$Row;") ∈ lw_tbl := gt_1 _ (gp_64 (gp_64 (gp_16 (gp_16 gp_h))))
set_option maxRecDepth 20000 in
theorem tw_454 : (Cond.code yX8_changeRow cX8_changeRow 4 ( some .int )) ∈ lw_tbl := gt_2 _ (gp_64 (gp_64 (gp_16 (gp_16 (gp_4 (gp_4 (gp_1 (gp_1 gp_h))))))))
set_option maxRecDepth 20000 in
theorem tw_453 : (Cond.instanceMethod yX8_changeRow) ∈ lw_tbl := gt_2 _ (gp_64 (gp_64 (gp_16 (gp_16 (gp_4 (gp_4 (gp_1 gp_h)))))))
set_option maxRecDepth 20000 in
theorem tw_451 : (Cond.methodLink RX8 154 yX8_changeRow) ∈ lw_tbl := gt_2 _ (gp_64 (gp_64 (gp_16 (gp_16 (gp_4 (gp_1 (gp_1 (gp_1 gp_h))))))))
set_option maxRecDepth 20000 in
theorem tw_439 : (Cond.fieldLink RX5 7 "StateRecords$Row" "items" "[J") ∈ lw_tbl := gt_2 _ (gp_64 (gp_64 (gp_16 (gp_4 (gp_4 (gp_1 (gp_1 (gp_1 gp_h))))))))
set_option maxRecDepth 20000 in
theorem tw_438 : (Cond.methodLink RX5 1 objectInit) ∈ lw_tbl := gt_2 _ (gp_64 (gp_64 (gp_16 (gp_4 (gp_4 (gp_1 (gp_1 gp_h)))))))
set_option maxRecDepth 20000 in
theorem tw_437 : (Cond.code yX5_init cX5_init 2 none) ∈ lw_tbl := gt_2 _ (gp_64 (gp_64 (gp_16 (gp_4 (gp_4 (gp_1 gp_h))))))
set_option maxRecDepth 20000 in
theorem tw_436 : (Cond.instanceMethod yX5_init) ∈ lw_tbl := gt_2 _ (gp_64 (gp_64 (gp_16 (gp_4 (gp_4 gp_h)))))
set_option maxRecDepth 20000 in
theorem tw_435 : (Cond.methodLink RX8 153 yX5_init) ∈ lw_tbl := gt_2 _ (gp_64 (gp_64 (gp_16 (gp_4 (gp_1 (gp_1 (gp_1 gp_h)))))))
set_option maxRecDepth 20000 in
theorem tw_433 : (Cond.code yX8_isRowLane cX8_isRowLane 1 ( some .boolean )) ∈ lw_tbl := gt_2 _ (gp_64 (gp_64 (gp_16 (gp_4 (gp_1 gp_h)))))
set_option maxRecDepth 20000 in
theorem tw_432 : (Cond.static yX8_isRowLane) ∈ lw_tbl := gt_2 _ (gp_64 (gp_64 (gp_16 (gp_4 gp_h))))
set_option maxRecDepth 20000 in
theorem tw_431 : (Cond.methodLink RX8 150 yX8_isRowLane) ∈ lw_tbl := gt_2 _ (gp_64 (gp_64 (gp_16 (gp_1 (gp_1 (gp_1 gp_h))))))
set_option maxRecDepth 20000 in
theorem tw_430 : (Cond.code yX8_row cX8_row 5 ( some .int )) ∈ lw_tbl := gt_2 _ (gp_64 (gp_64 (gp_16 (gp_1 (gp_1 gp_h)))))
set_option maxRecDepth 20000 in
theorem gr_X8_row_r1 : GoodIn lw_tbl wsX8_row_r1 := gp_s (gp_c (tw_196) (gp_c (tw_272) (gp_c (tw_119) (gp_c (tw_434) (gp_c (tw_54) (gp_c (tw_390) (gp_c (tw_392) (gp_c (gq_1) (gp_c (tw_45) (gp_c (tw_393) (gp_c (tw_394) (gp_c (tw_396) (gp_c (gq_2) (gp_c (tw_397) (gp_c (tw_219) (gp_c (tw_218) (gp_c (tw_325) (gp_c (tw_326) (gp_c (tw_327) (gp_c (tw_52) (gp_c (tw_328) (gp_c (tw_266) (gp_c (tw_306) (gp_c (tw_307) (gp_n))))))))))))))))))))))))) (by decide +kernel)
set_option maxRecDepth 20000 in
theorem gr_X8_row_r2 : GoodIn lw_tbl wsX8_row_r2 := gp_s (gp_c (tw_431) (gp_c (tw_432) (gp_c (tw_433) (gp_c (tw_398) (gp_c (tw_399) (gp_c (tw_400) (gp_c (tw_435) (gp_c (tw_436) (gp_c (tw_437) (gp_c (tw_438) (gp_c (tw_68) (gp_c (tw_69) (gp_c (tw_118) (gp_c (tw_439) (gp_c (tw_451) (gp_c (tw_453) (gp_c (gq_6) (gp_c (tw_454) (gp_c (tw_226) (gp_c (tw_204) (gp_c (tw_410) (gp_c (tw_411) (gp_c (tw_412) (gp_c (tw_47) (gp_n))))))))))))))))))))))))) (by decide +kernel)
set_option maxRecDepth 20000 in
theorem gr_X8_row_r3 : GoodIn lw_tbl wsX8_row_r3 := gp_s (gp_c (tw_413) (gp_c (tw_152) (gp_c (tw_414) (gp_c (tw_415) (gp_c (tw_416) (gp_c (tw_417) (gp_c (tw_199) (gp_c (tw_203) (gp_c (tw_418) (gp_c (tw_420) (gp_c (gq_5) (gp_c (tw_421) (gp_c (tw_156) (gp_c (tw_151) (gp_c (tw_135) (gp_c (tw_137) (gp_c (tw_139) (gp_c (tw_141) (gp_c (tw_422) (gp_n)))))))))))))))))))) (by decide +kernel)
set_option maxRecDepth 20000 in
theorem ggT_X8_row : GoodIn lw_tbl wsX8_row := goodIn_cons (gp_s (gp_c (tw_430) (gp_n)) (by decide +kernel)) (goodIn_app (goodIn_app (goodIn_app (goodIn_app (goodIn_app (goodIn_app (goodIn_app gr_X8_row_r1 (goodIn_app gr_X8_row_r2 gr_X8_row_r3)) gwX60) gwX70) gwX50) gwX80) gwX20) gwX30)
set_option maxRecDepth 20000 in
theorem gT_X8_row : GoodIn lw_tbl (wsV RL 78 RX8 yX8_row wsX8_row) := goodIn_app (gp_s (gp_c (gt_2 _ (gp_64 (gp_64 (gp_4 (gp_4 (gp_4 (gp_1 (gp_1 (gp_1 gp_h))))))))) (gp_c (gt_2 _ (gp_64 (gp_64 (gp_16 gp_h)))) (gp_c (gt_2 _ (gp_64 (gp_64 (gp_16 (gp_1 gp_h))))) (gp_c (tw_45) (gp_n))))) (by decide +kernel)) ggT_X8_row
set_option maxRecDepth 20000 in
theorem tw_1010 : (Cond.code yX9_newRow cX9_newRow 5 ( some .int )) ∈ lw_tbl := gt_5 _ (gp_4 (gp_1 (gp_1 gp_h)))
set_option maxRecDepth 20000 in
theorem tw_1009 : (Cond.instanceMethod yX9_newRow) ∈ lw_tbl := gt_5 _ (gp_4 (gp_1 gp_h))
set_option maxRecDepth 20000 in
theorem tw_1007 : (Cond.methodLink RX9 190 yX9_newRow) ∈ lw_tbl := gt_5 _ (gp_1 (gp_1 (gp_1 gp_h)))
set_option maxRecDepth 20000 in
theorem tw_1006 : (Cond.code yX9_row cX9_row 4 ( some .int )) ∈ lw_tbl := gt_5 _ (gp_1 (gp_1 gp_h))
set_option maxRecDepth 20000 in
theorem gr_X9_row_r1 : GoodIn lw_tbl wsX9_row_r1 := gp_s (gp_c (tw_779) (gp_c (tw_949) (gp_c (tw_978) (gp_c (tw_980) (gp_c (gq_25) (gp_c (tw_51) (gp_c (tw_981) (gp_c (tw_782) (gp_c (tw_793) (gp_c (tw_982) (gp_c (tw_984) (gp_c (gq_26) (gp_c (tw_985) (gp_c (tw_792) (gp_c (tw_986) (gp_c (tw_988) (gp_c (gq_27) (gp_c (tw_989) (gp_c (tw_784) (gp_c (tw_991) (gp_c (tw_993) (gp_c (gq_28) (gp_c (tw_994) (gp_c (tw_799) (gp_n))))))))))))))))))))))))) (by decide +kernel)
set_option maxRecDepth 20000 in
theorem gr_X9_row_r2 : GoodIn lw_tbl wsX9_row_r2 := gp_s (gp_c (tw_801) (gp_c (tw_1007) (gp_c (tw_1009) (gp_c (gq_30) (gp_c (tw_1010) (gp_c (tw_798) (gp_c (tw_794) (gp_c (tw_804) (gp_c (tw_795) (gp_c (tw_796) (gp_c (tw_797) (gp_c (tw_995) (gp_c (tw_997) (gp_c (gq_29) (gp_c (tw_998) (gp_c (tw_802) (gp_c (tw_803) (gp_c (tw_805) (gp_c (tw_806) (gp_n)))))))))))))))))))) (by decide +kernel)
set_option maxRecDepth 20000 in
theorem ggT_X9_row : GoodIn lw_tbl wsX9_row := goodIn_cons (gp_s (gp_c (tw_1006) (gp_n)) (by decide +kernel)) (goodIn_app (goodIn_app gr_X9_row_r1 gr_X9_row_r2) gwX90)
set_option maxRecDepth 20000 in
theorem gT_X9_row : GoodIn lw_tbl (wsV RL 81 RX9 yX9_row wsX9_row) := goodIn_app (gp_s (gp_c (gt_4 _ (gp_64 (gp_64 (gp_64 (gp_16 (gp_16 (gp_4 (gp_4 (gp_4 (gp_1 (gp_1 (gp_1 gp_h)))))))))))) (gp_c (gt_5 _ (gp_h)) (gp_c (gt_5 _ (gp_1 gp_h)) (gp_c (tw_51) (gp_n))))) (by decide +kernel)) ggT_X9_row
set_option maxRecDepth 20000 in
theorem tw_458 : (Cond.code yX8_share cX8_share 8 ( some .int )) ∈ lw_tbl := gt_2 _ (gp_64 (gp_64 (gp_16 (gp_16 (gp_4 (gp_4 (gp_4 (gp_1 (gp_1 gp_h)))))))))
set_option maxRecDepth 20000 in
theorem gr_X8_share_r1 : GoodIn lw_tbl wsX8_share_r1 := gp_s (gp_c (tw_196) (gp_c (tw_272) (gp_c (tw_204) (gp_c (tw_390) (gp_c (tw_392) (gp_c (gq_1) (gp_c (tw_45) (gp_c (tw_393) (gp_c (tw_394) (gp_c (tw_396) (gp_c (gq_2) (gp_c (tw_397) (gp_c (tw_219) (gp_c (tw_218) (gp_c (tw_325) (gp_c (tw_326) (gp_c (tw_327) (gp_c (tw_52) (gp_c (tw_328) (gp_c (tw_266) (gp_c (tw_306) (gp_c (tw_307) (gp_c (tw_431) (gp_c (tw_432) (gp_n))))))))))))))))))))))))) (by decide +kernel)
set_option maxRecDepth 20000 in
theorem gr_X8_share_r2 : GoodIn lw_tbl wsX8_share_r2 := gp_s (gp_c (tw_433) (gp_c (tw_398) (gp_c (tw_399) (gp_c (tw_400) (gp_c (tw_451) (gp_c (tw_453) (gp_c (gq_6) (gp_c (tw_454) (gp_c (tw_226) (gp_c (tw_410) (gp_c (tw_411) (gp_c (tw_412) (gp_c (tw_47) (gp_c (tw_413) (gp_c (tw_152) (gp_c (tw_414) (gp_c (tw_415) (gp_c (tw_416) (gp_c (tw_417) (gp_c (tw_199) (gp_c (tw_203) (gp_c (tw_418) (gp_c (tw_420) (gp_c (gq_5) (gp_n))))))))))))))))))))))))) (by decide +kernel)
set_option maxRecDepth 20000 in
theorem gr_X8_share_r3 : GoodIn lw_tbl wsX8_share_r3 := gp_s (gp_c (tw_421) (gp_c (tw_156) (gp_c (tw_151) (gp_c (tw_135) (gp_c (tw_137) (gp_c (tw_139) (gp_c (tw_141) (gp_c (tw_422) (gp_n))))))))) (by decide +kernel)
set_option maxRecDepth 20000 in
theorem ggT_X8_share : GoodIn lw_tbl wsX8_share := goodIn_cons (gp_s (gp_c (tw_458) (gp_n)) (by decide +kernel)) (goodIn_app (goodIn_app (goodIn_app (goodIn_app (goodIn_app (goodIn_app gr_X8_share_r1 (goodIn_app gr_X8_share_r2 gr_X8_share_r3)) gwX60) gwX70) gwX80) gwX20) gwX30)
set_option maxRecDepth 20000 in
theorem gT_X8_share : GoodIn lw_tbl (wsV RL 82 RX8 yX8_share wsX8_share) := goodIn_app (gp_s (gp_c (gt_2 _ (gp_64 (gp_64 (gp_16 (gp_16 (gp_4 (gp_4 (gp_1 (gp_1 (gp_1 gp_h)))))))))) (gp_c (gt_2 _ (gp_64 (gp_64 (gp_16 (gp_16 (gp_4 (gp_4 (gp_4 gp_h)))))))) (gp_c (gt_2 _ (gp_64 (gp_64 (gp_16 (gp_16 (gp_4 (gp_4 (gp_4 (gp_1 gp_h))))))))) (gp_c (tw_45) (gp_n))))) (by decide +kernel)) ggT_X8_share
set_option maxRecDepth 20000 in
theorem tw_1014 : (Cond.code yX9_share cX9_share 5 ( some .int )) ∈ lw_tbl := gt_5 _ (gp_4 (gp_4 (gp_1 (gp_1 gp_h))))
set_option maxRecDepth 20000 in
theorem gr_X9_share_r1 : GoodIn lw_tbl wsX9_share_r1 := gp_s (gp_c (tw_779) (gp_c (tw_794) (gp_c (tw_978) (gp_c (tw_980) (gp_c (gq_25) (gp_c (tw_51) (gp_c (tw_981) (gp_c (tw_782) (gp_c (tw_793) (gp_c (tw_982) (gp_c (tw_984) (gp_c (gq_26) (gp_c (tw_985) (gp_c (tw_792) (gp_c (tw_986) (gp_c (tw_988) (gp_c (gq_27) (gp_c (tw_989) (gp_c (tw_784) (gp_c (tw_991) (gp_c (tw_993) (gp_c (gq_28) (gp_c (tw_994) (gp_c (tw_799) (gp_n))))))))))))))))))))))))) (by decide +kernel)
set_option maxRecDepth 20000 in
theorem gr_X9_share_r2 : GoodIn lw_tbl wsX9_share_r2 := gp_s (gp_c (tw_801) (gp_c (tw_995) (gp_c (tw_997) (gp_c (gq_29) (gp_c (tw_998) (gp_c (tw_802) (gp_c (tw_803) (gp_c (tw_805) (gp_c (tw_806) (gp_c (tw_804) (gp_n))))))))))) (by decide +kernel)
set_option maxRecDepth 20000 in
theorem ggT_X9_share : GoodIn lw_tbl wsX9_share := goodIn_cons (gp_s (gp_c (tw_1014) (gp_n)) (by decide +kernel)) (goodIn_app (goodIn_app gr_X9_share_r1 gr_X9_share_r2) gwX90)
set_option maxRecDepth 20000 in
theorem gT_X9_share : GoodIn lw_tbl (wsV RL 86 RX9 yX9_share wsX9_share) := goodIn_app (gp_s (gp_c (gt_5 _ (gp_4 (gp_1 (gp_1 (gp_1 gp_h))))) (gp_c (gt_5 _ (gp_4 (gp_4 gp_h))) (gp_c (gt_5 _ (gp_4 (gp_4 (gp_1 gp_h)))) (gp_c (tw_51) (gp_n))))) (by decide +kernel)) ggT_X9_share
set_option maxRecDepth 20000 in
theorem tw_443 : (Cond.fieldLink RX8 161 "StateRecords$Row" "items" "[J") ∈ lw_tbl := gt_2 _ (gp_64 (gp_64 (gp_16 (gp_4 (gp_4 (gp_4 (gp_1 (gp_1 (gp_1 gp_h)))))))))
set_option maxRecDepth 20000 in
theorem tw_442 : (Cond.fieldLink RX2 40 "StateRecords$Row" "items" "[J") ∈ lw_tbl := gt_2 _ (gp_64 (gp_64 (gp_16 (gp_4 (gp_4 (gp_4 (gp_1 (gp_1 gp_h))))))))
set_option maxRecDepth 20000 in
theorem tw_466 : (Cond.code yX2_noteItem cX2_noteItem 3 none) ∈ lw_tbl := gt_2 _ (gp_64 (gp_64 (gp_16 (gp_16 (gp_16 (gp_4 (gp_1 (gp_1 gp_h))))))))
set_option maxRecDepth 20000 in
theorem tw_465 : (Cond.selects RX2 yX2_noteItem yX2_noteItem) ∈ lw_tbl := gt_2 _ (gp_64 (gp_64 (gp_16 (gp_16 (gp_16 (gp_4 (gp_1 gp_h)))))))
set_option maxRecDepth 20000 in
theorem tw_464 : (Cond.instanceMethod yX2_noteItem) ∈ lw_tbl := gt_2 _ (gp_64 (gp_64 (gp_16 (gp_16 (gp_16 (gp_4 gp_h))))))
set_option maxRecDepth 20000 in
theorem tw_463 : (Cond.methodLink RX8 169 yX2_noteItem) ∈ lw_tbl := gt_2 _ (gp_64 (gp_64 (gp_16 (gp_16 (gp_16 (gp_1 (gp_1 (gp_1 gp_h))))))))
set_option maxRecDepth 20000 in
theorem tw_469 : (Cond.code yX8_lowestBits cX8_lowestBits 3 ( some .long )) ∈ lw_tbl := gt_2 _ (gp_64 (gp_64 (gp_16 (gp_16 (gp_16 (gp_4 (gp_4 (gp_1 gp_h))))))))
set_option maxRecDepth 20000 in
theorem tw_468 : (Cond.static yX8_lowestBits) ∈ lw_tbl := gt_2 _ (gp_64 (gp_64 (gp_16 (gp_16 (gp_16 (gp_4 (gp_4 gp_h)))))))
set_option maxRecDepth 20000 in
theorem tw_467 : (Cond.methodLink RX8 173 yX8_lowestBits) ∈ lw_tbl := gt_2 _ (gp_64 (gp_64 (gp_16 (gp_16 (gp_16 (gp_4 (gp_1 (gp_1 (gp_1 gp_h)))))))))
set_option maxRecDepth 20000 in
theorem tw_462 : (Cond.code yX8_item cX8_item 9 ( some .int )) ∈ lw_tbl := gt_2 _ (gp_64 (gp_64 (gp_16 (gp_16 (gp_16 (gp_1 (gp_1 gp_h)))))))
set_option maxRecDepth 20000 in
theorem gr_X8_item_r1 : GoodIn lw_tbl wsX8_item_r1 := gp_s (gp_c (tw_196) (gp_c (tw_272) (gp_c (tw_204) (gp_c (tw_443) (gp_c (tw_226) (gp_c (tw_390) (gp_c (tw_392) (gp_c (gq_1) (gp_c (tw_45) (gp_c (tw_393) (gp_c (tw_394) (gp_c (tw_396) (gp_c (gq_2) (gp_c (tw_397) (gp_c (tw_219) (gp_c (tw_218) (gp_c (tw_325) (gp_c (tw_326) (gp_c (tw_327) (gp_c (tw_52) (gp_c (tw_328) (gp_c (tw_266) (gp_c (tw_306) (gp_c (tw_307) (gp_n))))))))))))))))))))))))) (by decide +kernel)
set_option maxRecDepth 20000 in
theorem gr_X8_item_r2 : GoodIn lw_tbl wsX8_item_r2 := gp_s (gp_c (tw_431) (gp_c (tw_432) (gp_c (tw_433) (gp_c (tw_398) (gp_c (tw_399) (gp_c (tw_400) (gp_c (tw_305) (gp_c (tw_410) (gp_c (tw_411) (gp_c (tw_412) (gp_c (tw_47) (gp_c (tw_413) (gp_c (tw_152) (gp_c (tw_463) (gp_c (tw_464) (gp_c (tw_465) (gp_c (tw_466) (gp_c (tw_442) (gp_c (tw_418) (gp_c (tw_420) (gp_c (gq_5) (gp_c (tw_421) (gp_c (tw_156) (gp_c (tw_151) (gp_n))))))))))))))))))))))))) (by decide +kernel)
set_option maxRecDepth 20000 in
theorem gr_X8_item_r3 : GoodIn lw_tbl wsX8_item_r3 := gp_s (gp_c (tw_135) (gp_c (tw_137) (gp_c (tw_139) (gp_c (tw_141) (gp_c (tw_422) (gp_c (tw_467) (gp_c (tw_468) (gp_c (tw_469) (gp_n))))))))) (by decide +kernel)
set_option maxRecDepth 20000 in
theorem ggT_X8_item : GoodIn lw_tbl wsX8_item := goodIn_cons (gp_s (gp_c (tw_462) (gp_n)) (by decide +kernel)) (goodIn_app (goodIn_app (goodIn_app (goodIn_app (goodIn_app (goodIn_app (goodIn_app gr_X8_item_r1 (goodIn_app gr_X8_item_r2 gr_X8_item_r3)) gwX60) gwX70) gwX50) gwX80) gwX20) gwX30)
set_option maxRecDepth 20000 in
theorem gT_X8_item : GoodIn lw_tbl (wsV RL 87 RX8 yX8_item wsX8_item) := goodIn_app (gp_s (gp_c (gt_2 _ (gp_64 (gp_64 (gp_16 (gp_16 (gp_4 (gp_4 (gp_4 (gp_1 (gp_1 (gp_1 gp_h))))))))))) (gp_c (gt_2 _ (gp_64 (gp_64 (gp_16 (gp_16 (gp_16 gp_h)))))) (gp_c (gt_2 _ (gp_64 (gp_64 (gp_16 (gp_16 (gp_16 (gp_1 gp_h))))))) (gp_c (tw_45) (gp_n))))) (by decide +kernel)) ggT_X8_item
set_option maxRecDepth 20000 in
theorem tw_1021 : (Cond.code yX9_cut cX9_cut 3 ( some .long )) ∈ lw_tbl := gt_5 _ (gp_16 (gp_1 gp_h))
set_option maxRecDepth 20000 in
theorem tw_1020 : (Cond.static yX9_cut) ∈ lw_tbl := gt_5 _ (gp_16 gp_h)
set_option maxRecDepth 20000 in
theorem tw_1019 : (Cond.methodLink RX9 193 yX9_cut) ∈ lw_tbl := gt_5 _ (gp_4 (gp_4 (gp_4 (gp_1 (gp_1 (gp_1 gp_h))))))
set_option maxRecDepth 20000 in
theorem tw_1018 : (Cond.code yX9_item cX9_item 7 ( some .int )) ∈ lw_tbl := gt_5 _ (gp_4 (gp_4 (gp_4 (gp_1 (gp_1 gp_h)))))
set_option maxRecDepth 20000 in
theorem gr_X9_item_r1 : GoodIn lw_tbl wsX9_item_r1 := gp_s (gp_c (tw_779) (gp_c (tw_794) (gp_c (tw_796) (gp_c (tw_799) (gp_c (tw_804) (gp_c (tw_801) (gp_c (tw_805) (gp_c (tw_806) (gp_c (tw_797) (gp_c (tw_795) (gp_c (tw_978) (gp_c (tw_980) (gp_c (gq_25) (gp_c (tw_51) (gp_c (tw_981) (gp_c (tw_782) (gp_c (tw_793) (gp_c (tw_982) (gp_c (tw_984) (gp_c (gq_26) (gp_c (tw_985) (gp_c (tw_792) (gp_c (tw_986) (gp_c (tw_988) (gp_n))))))))))))))))))))))))) (by decide +kernel)
set_option maxRecDepth 20000 in
theorem gr_X9_item_r2 : GoodIn lw_tbl wsX9_item_r2 := gp_s (gp_c (gq_27) (gp_c (tw_989) (gp_c (tw_784) (gp_c (tw_991) (gp_c (tw_993) (gp_c (gq_28) (gp_c (tw_994) (gp_c (tw_1019) (gp_c (tw_1020) (gp_c (tw_1021) (gp_n))))))))))) (by decide +kernel)
set_option maxRecDepth 20000 in
theorem ggT_X9_item : GoodIn lw_tbl wsX9_item := goodIn_cons (gp_s (gp_c (tw_1018) (gp_n)) (by decide +kernel)) (goodIn_app (goodIn_app gr_X9_item_r1 gr_X9_item_r2) gwX90)
set_option maxRecDepth 20000 in
theorem gT_X9_item : GoodIn lw_tbl (wsV RL 90 RX9 yX9_item wsX9_item) := goodIn_app (gp_s (gp_c (gt_5 _ (gp_4 (gp_4 (gp_1 (gp_1 (gp_1 gp_h)))))) (gp_c (gt_5 _ (gp_4 (gp_4 (gp_4 gp_h)))) (gp_c (gt_5 _ (gp_4 (gp_4 (gp_4 (gp_1 gp_h))))) (gp_c (tw_51) (gp_n))))) (by decide +kernel)) ggT_X9_item
set_option maxRecDepth 20000 in
theorem tw_59 : (Cond.initialized "java/lang/IndexOutOfBoundsException") ∈ lw_tbl := gt_1 _ (gp_4 (gp_4 (gp_4 (gp_1 (gp_1 (gp_1 gp_h))))))
set_option maxRecDepth 20000 in
theorem tw_731 : (Cond.classLink RX8 188 "java/lang/IndexOutOfBoundsException") ∈ lw_tbl := gt_3 _ (gp_64 (gp_64 (gp_64 (gp_4 (gp_4 (gp_4 (gp_1 (gp_1 (gp_1 gp_h)))))))))
set_option maxRecDepth 20000 in
theorem tw_58 : (Cond.initialized "java/lang/IllegalArgumentException") ∈ lw_tbl := gt_1 _ (gp_4 (gp_4 (gp_4 (gp_1 (gp_1 gp_h)))))
set_option maxRecDepth 20000 in
theorem tw_663 : (Cond.classLink RX8 181 "java/lang/IllegalArgumentException") ∈ lw_tbl := gt_3 _ (gp_64 (gp_64 (gp_4 (gp_4 (gp_1 (gp_1 (gp_1 gp_h)))))))
set_option maxRecDepth 20000 in
theorem tw_662 : (Cond.code yX8_at cX8_at 5 ( some .long )) ∈ lw_tbl := gt_3 _ (gp_64 (gp_64 (gp_4 (gp_4 (gp_1 (gp_1 gp_h))))))
set_option maxRecDepth 20000 in
theorem tw_661 : (Cond.selects RX8 yX8_at yX8_at) ∈ lw_tbl := gt_3 _ (gp_64 (gp_64 (gp_4 (gp_4 (gp_1 gp_h)))))
set_option maxRecDepth 20000 in
theorem tw_660 : (Cond.instanceMethod yX8_at) ∈ lw_tbl := gt_3 _ (gp_64 (gp_64 (gp_4 (gp_4 gp_h))))
set_option maxRecDepth 20000 in
theorem tw_659 : (Cond.methodLink RL 7 yX8_at) ∈ lw_tbl := gt_3 _ (gp_64 (gp_64 (gp_4 (gp_1 (gp_1 (gp_1 gp_h))))))
set_option maxRecDepth 20000 in
theorem tw_658 : (Cond.classLink RL 15 "java/lang/IndexOutOfBoundsException") ∈ lw_tbl := gt_3 _ (gp_64 (gp_64 (gp_4 (gp_1 (gp_1 gp_h)))))
set_option maxRecDepth 20000 in
theorem tw_657 : (Cond.classLink RL 13 "java/lang/IllegalArgumentException") ∈ lw_tbl := gt_3 _ (gp_64 (gp_64 (gp_4 (gp_1 gp_h))))
set_option maxRecDepth 20000 in
theorem tw_656 : (Cond.codeWith yL_at cL_at 5 ( some .int ) [ ( 0 , 9 , 12 , 13 ) , ( 0 , 9 , 16 , 15 ) ]) ∈ lw_tbl := gt_3 _ (gp_64 (gp_64 (gp_4 gp_h)))
set_option maxRecDepth 20000 in
theorem gr_L_at_r1 : GoodIn lw_tbl wsL_at_r1 := gp_s (gp_c (tw_657) (gp_c (tw_658) (gp_c (tw_659) (gp_c (tw_660) (gp_c (tw_661) (gp_c (tw_45) (gp_c (tw_662) (gp_c (tw_663) (gp_c (tw_58) (gp_c (tw_731) (gp_c (tw_59) (gp_c (tw_196) (gp_c (tw_272) (gp_c (tw_200) (gp_c (tw_204) (gp_c (tw_312) (gp_c (tw_443) (gp_c (tw_394) (gp_c (tw_396) (gp_c (gq_2) (gp_c (tw_397) (gp_c (tw_219) (gp_c (tw_218) (gp_c (tw_325) (gp_n))))))))))))))))))))))))) (by decide +kernel)
set_option maxRecDepth 20000 in
theorem gr_L_at_r2 : GoodIn lw_tbl wsL_at_r2 := gp_s (gp_c (tw_326) (gp_c (tw_327) (gp_c (tw_52) (gp_c (tw_328) (gp_c (tw_266) (gp_c (tw_306) (gp_c (tw_307) (gp_c (tw_431) (gp_c (tw_432) (gp_c (tw_433) (gp_n))))))))))) (by decide +kernel)
set_option maxRecDepth 20000 in
theorem ggT_L_at : GoodIn lw_tbl wsL_at := goodIn_cons (gp_s (gp_c (tw_656) (gp_n)) (by decide +kernel)) (goodIn_app (goodIn_app (goodIn_app (goodIn_app (goodIn_app (goodIn_app (goodIn_app gr_L_at_r1 gr_L_at_r2) gwX60) gwX70) gwX50) gwX80) gvx0) gvx1)
set_option maxRecDepth 20000 in
theorem gT_L_at : GoodIn lw_tbl (va_wsS RL 91 yL_at wsL_at) := goodIn_app (gp_s (gp_c (gt_3 _ (gp_64 (gp_64 (gp_1 (gp_1 gp_h))))) (gp_c (gt_3 _ (gp_64 (gp_64 (gp_1 (gp_1 (gp_1 gp_h)))))) (gp_c (gt_1 _ (gp_h)) (gp_n)))) (by decide +kernel)) ggT_L_at
set_option maxRecDepth 20000 in
theorem tw_1025 : (Cond.code yX9_at cX9_at 5 ( some .long )) ∈ lw_tbl := gt_5 _ (gp_16 (gp_4 (gp_1 gp_h)))
set_option maxRecDepth 20000 in
theorem ggT_X9_at : GoodIn lw_tbl wsX9_at := goodIn_cons (gp_s (gp_c (tw_1025) (gp_n)) (by decide +kernel)) (goodIn_app (gp_s (gp_c (tw_779) (gp_c (tw_794) (gp_c (tw_796) (gp_c (tw_982) (gp_c (tw_984) (gp_c (gq_26) (gp_c (tw_51) (gp_c (tw_985) (gp_c (tw_792) (gp_c (tw_978) (gp_c (tw_980) (gp_c (gq_25) (gp_c (tw_981) (gp_c (tw_782) (gp_c (tw_793) (gp_c (tw_986) (gp_c (tw_988) (gp_c (gq_27) (gp_c (tw_989) (gp_c (tw_784) (gp_n))))))))))))))))))))) (by decide +kernel)) gwX90)
set_option maxRecDepth 20000 in
theorem gT_X9_at : GoodIn lw_tbl (wsV RL 96 RX9 yX9_at wsX9_at) := goodIn_app (gp_s (gp_c (gt_5 _ (gp_16 (gp_1 (gp_1 gp_h)))) (gp_c (gt_5 _ (gp_16 (gp_1 (gp_1 (gp_1 gp_h))))) (gp_c (gt_5 _ (gp_16 (gp_4 gp_h))) (gp_c (tw_51) (gp_n))))) (by decide +kernel)) ggT_X9_at
set_option maxRecDepth 20000 in
theorem tw_60 : (Cond.initialized "java/lang/IllegalStateException") ∈ lw_tbl := gt_1 _ (gp_16 gp_h)
set_option maxRecDepth 20000 in
theorem tw_755 : (Cond.classLink RX8 196 "java/lang/IllegalStateException") ∈ lw_tbl := gt_3 _ (gp_64 (gp_64 (gp_64 (gp_16 (gp_16 (gp_4 (gp_1 (gp_1 (gp_1 gp_h)))))))))
set_option maxRecDepth 20000 in
theorem tw_754 : (Cond.code yX8_itemAt cX8_itemAt 6 ( some .long )) ∈ lw_tbl := gt_3 _ (gp_64 (gp_64 (gp_64 (gp_16 (gp_16 (gp_4 (gp_1 (gp_1 gp_h))))))))
set_option maxRecDepth 20000 in
theorem tw_753 : (Cond.selects RX8 yX8_itemAt yX8_itemAt) ∈ lw_tbl := gt_3 _ (gp_64 (gp_64 (gp_64 (gp_16 (gp_16 (gp_4 (gp_1 gp_h)))))))
set_option maxRecDepth 20000 in
theorem tw_752 : (Cond.instanceMethod yX8_itemAt) ∈ lw_tbl := gt_3 _ (gp_64 (gp_64 (gp_64 (gp_16 (gp_16 (gp_4 gp_h))))))
set_option maxRecDepth 20000 in
theorem tw_751 : (Cond.methodLink RL 17 yX8_itemAt) ∈ lw_tbl := gt_3 _ (gp_64 (gp_64 (gp_64 (gp_16 (gp_16 (gp_1 (gp_1 (gp_1 gp_h))))))))
set_option maxRecDepth 20000 in
theorem tw_750 : (Cond.classLink RL 21 "java/lang/IllegalStateException") ∈ lw_tbl := gt_3 _ (gp_64 (gp_64 (gp_64 (gp_16 (gp_16 (gp_1 (gp_1 gp_h)))))))
set_option maxRecDepth 20000 in
theorem tw_749 : (Cond.codeWith yL_itemAt cL_itemAt 6 ( some .int ) [ ( 0 , 11 , 14 , 13 ) , ( 0 , 11 , 18 , 21 ) , ( 0 , 11 , 22 , 15 ) ]) ∈ lw_tbl := gt_3 _ (gp_64 (gp_64 (gp_64 (gp_16 (gp_16 (gp_1 gp_h))))))
set_option maxRecDepth 20000 in
theorem gr_L_itemAt_r1 : GoodIn lw_tbl wsL_itemAt_r1 := gp_s (gp_c (tw_657) (gp_c (tw_750) (gp_c (tw_658) (gp_c (tw_751) (gp_c (tw_752) (gp_c (tw_753) (gp_c (tw_45) (gp_c (tw_754) (gp_c (tw_663) (gp_c (tw_58) (gp_c (tw_731) (gp_c (tw_59) (gp_c (tw_755) (gp_c (tw_60) (gp_c (tw_196) (gp_c (tw_272) (gp_c (tw_204) (gp_c (tw_443) (gp_c (tw_394) (gp_c (tw_396) (gp_c (gq_2) (gp_c (tw_397) (gp_c (tw_219) (gp_c (tw_218) (gp_n))))))))))))))))))))))))) (by decide +kernel)
set_option maxRecDepth 20000 in
theorem gr_L_itemAt_r2 : GoodIn lw_tbl wsL_itemAt_r2 := gp_s (gp_c (tw_325) (gp_c (tw_326) (gp_c (tw_327) (gp_c (tw_52) (gp_c (tw_328) (gp_c (tw_266) (gp_c (tw_306) (gp_c (tw_307) (gp_c (tw_431) (gp_c (tw_432) (gp_c (tw_433) (gp_c (tw_305) (gp_n))))))))))))) (by decide +kernel)
set_option maxRecDepth 20000 in
theorem ggT_L_itemAt : GoodIn lw_tbl wsL_itemAt := goodIn_cons (gp_s (gp_c (tw_749) (gp_n)) (by decide +kernel)) (goodIn_app (goodIn_app (goodIn_app (goodIn_app (goodIn_app (goodIn_app (goodIn_app (goodIn_app gr_L_itemAt_r1 gr_L_itemAt_r2) gwX60) gwX70) gwX50) gwX80) gvx0) gvx1) gvx2)
set_option maxRecDepth 20000 in
theorem gT_L_itemAt : GoodIn lw_tbl (va_wsS RL 97 yL_itemAt wsL_itemAt) := goodIn_app (gp_s (gp_c (gt_3 _ (gp_64 (gp_64 (gp_64 (gp_16 (gp_4 (gp_4 (gp_4 (gp_1 (gp_1 (gp_1 gp_h))))))))))) (gp_c (gt_3 _ (gp_64 (gp_64 (gp_64 (gp_16 (gp_16 gp_h)))))) (gp_c (gt_1 _ (gp_h)) (gp_n)))) (by decide +kernel)) ggT_L_itemAt
set_option maxRecDepth 20000 in
theorem tw_1029 : (Cond.code yX9_itemAt cX9_itemAt 5 ( some .long )) ∈ lw_tbl := gt_5 _ (gp_16 (gp_4 (gp_4 (gp_1 gp_h))))
set_option maxRecDepth 20000 in
theorem ggT_X9_itemAt : GoodIn lw_tbl wsX9_itemAt := goodIn_cons (gp_s (gp_c (tw_1029) (gp_n)) (by decide +kernel)) (goodIn_app (gp_s (gp_c (tw_779) (gp_c (tw_794) (gp_c (tw_796) (gp_c (tw_797) (gp_c (tw_982) (gp_c (tw_984) (gp_c (gq_26) (gp_c (tw_51) (gp_c (tw_985) (gp_c (tw_792) (gp_c (tw_978) (gp_c (tw_980) (gp_c (gq_25) (gp_c (tw_981) (gp_c (tw_782) (gp_c (tw_793) (gp_c (tw_986) (gp_c (tw_988) (gp_c (gq_27) (gp_c (tw_989) (gp_c (tw_784) (gp_n)))))))))))))))))))))) (by decide +kernel)) gwX90)
set_option maxRecDepth 20000 in
theorem gT_X9_itemAt : GoodIn lw_tbl (wsV RL 100 RX9 yX9_itemAt wsX9_itemAt) := goodIn_app (gp_s (gp_c (gt_5 _ (gp_16 (gp_4 (gp_1 (gp_1 gp_h))))) (gp_c (gt_5 _ (gp_16 (gp_4 (gp_1 (gp_1 (gp_1 gp_h)))))) (gp_c (gt_5 _ (gp_16 (gp_4 (gp_4 gp_h)))) (gp_c (tw_51) (gp_n))))) (by decide +kernel)) ggT_X9_itemAt
set_option maxRecDepth 20000 in
theorem tw_473 : (Cond.code yX8_forget cX8_forget 2 ( some .int )) ∈ lw_tbl := gt_2 _ (gp_64 (gp_64 (gp_16 (gp_16 (gp_16 (gp_4 (gp_4 (gp_4 (gp_1 gp_h)))))))))
set_option maxRecDepth 20000 in
theorem ggT_X8_forget : GoodIn lw_tbl wsX8_forget := goodIn_cons (gp_s (gp_c (tw_473) (gp_n)) (by decide +kernel)) (goodIn_app (goodIn_app (gp_s (gp_c (tw_226) (gp_c (tw_155) (gp_c (tw_219) (gp_n)))) (by decide +kernel)) gwX80) gwX20)
set_option maxRecDepth 20000 in
theorem gT_X8_forget : GoodIn lw_tbl (wsV RL 101 RX8 yX8_forget wsX8_forget) := goodIn_app (gp_s (gp_c (gt_2 _ (gp_64 (gp_64 (gp_16 (gp_16 (gp_16 (gp_4 (gp_4 (gp_1 (gp_1 gp_h)))))))))) (gp_c (gt_2 _ (gp_64 (gp_64 (gp_16 (gp_16 (gp_16 (gp_4 (gp_4 (gp_1 (gp_1 (gp_1 gp_h))))))))))) (gp_c (gt_2 _ (gp_64 (gp_64 (gp_16 (gp_16 (gp_16 (gp_4 (gp_4 (gp_4 gp_h))))))))) (gp_c (tw_45) (gp_n))))) (by decide +kernel)) ggT_X8_forget
end
section
set_option maxRecDepth 20000 in
theorem tw_1033 : (Cond.code yX9_forget cX9_forget 2 ( some .int )) ∈ lw_tbl := gt_5 _ (gp_16 (gp_4 (gp_4 (gp_4 (gp_1 gp_h)))))
set_option maxRecDepth 20000 in
theorem ggT_X9_forget : GoodIn lw_tbl wsX9_forget := goodIn_cons (gp_s (gp_c (tw_1033) (gp_n)) (by decide +kernel)) (goodIn_app (gp_s (gp_c (tw_779) (gp_c (tw_799) (gp_c (tw_792) (gp_n)))) (by decide +kernel)) gwX90)
set_option maxRecDepth 20000 in
theorem gT_X9_forget : GoodIn lw_tbl (wsV RL 104 RX9 yX9_forget wsX9_forget) := goodIn_app (gp_s (gp_c (gt_5 _ (gp_16 (gp_4 (gp_4 (gp_1 (gp_1 gp_h)))))) (gp_c (gt_5 _ (gp_16 (gp_4 (gp_4 (gp_1 (gp_1 (gp_1 gp_h))))))) (gp_c (gt_5 _ (gp_16 (gp_4 (gp_4 (gp_4 gp_h))))) (gp_c (tw_51) (gp_n))))) (by decide +kernel)) ggT_X9_forget
set_option maxRecDepth 20000 in
theorem tw_265 : (Cond.fieldLink RX8 205 "StateRecords$Type" "number" "I") ∈ lw_tbl := gt_1 _ (gp_64 (gp_64 (gp_64 (gp_16 (gp_4 (gp_4 (gp_4 (gp_1 gp_h))))))))
set_option maxRecDepth 20000 in
theorem tw_477 : (Cond.code yX8_told cX8_told 4 ( some .int )) ∈ lw_tbl := gt_2 _ (gp_64 (gp_64 (gp_64 (gp_1 gp_h))))
set_option maxRecDepth 20000 in
theorem ggT_X8_told : GoodIn lw_tbl wsX8_told := goodIn_cons (gp_s (gp_c (tw_477) (gp_n)) (by decide +kernel)) (goodIn_app (goodIn_app (goodIn_app (gp_s (gp_c (tw_196) (gp_c (tw_265) (gp_c (tw_268) (gp_c (tw_394) (gp_c (tw_396) (gp_c (gq_2) (gp_c (tw_45) (gp_c (tw_397) (gp_c (tw_219) (gp_c (tw_218) (gp_n))))))))))) (by decide +kernel)) gwX60) gwX70) gwX80)
set_option maxRecDepth 20000 in
theorem gT_X8_told : GoodIn lw_tbl (wsV RL 105 RX8 yX8_told wsX8_told) := goodIn_app (gp_s (gp_c (gt_2 _ (gp_64 (gp_64 (gp_16 (gp_16 (gp_16 (gp_4 (gp_4 (gp_4 (gp_1 (gp_1 gp_h))))))))))) (gp_c (gt_2 _ (gp_64 (gp_64 (gp_16 (gp_16 (gp_16 (gp_4 (gp_4 (gp_4 (gp_1 (gp_1 (gp_1 gp_h)))))))))))) (gp_c (gt_2 _ (gp_64 (gp_64 (gp_64 gp_h)))) (gp_c (tw_45) (gp_n))))) (by decide +kernel)) ggT_X8_told
set_option maxRecDepth 20000 in
theorem tw_1037 : (Cond.code yX9_told cX9_told 3 ( some .int )) ∈ lw_tbl := gt_5 _ (gp_16 (gp_16 (gp_1 gp_h)))
set_option maxRecDepth 20000 in
theorem ggT_X9_told : GoodIn lw_tbl wsX9_told := goodIn_cons (gp_s (gp_c (tw_1037) (gp_n)) (by decide +kernel)) (goodIn_app (gp_s (gp_c (tw_779) (gp_c (tw_793) (gp_c (tw_782) (gp_c (tw_982) (gp_c (tw_984) (gp_c (gq_26) (gp_c (tw_51) (gp_c (tw_985) (gp_c (tw_792) (gp_n)))))))))) (by decide +kernel)) gwX90)
set_option maxRecDepth 20000 in
theorem gT_X9_told : GoodIn lw_tbl (wsV RL 108 RX9 yX9_told wsX9_told) := goodIn_app (gp_s (gp_c (gt_5 _ (gp_16 (gp_4 (gp_4 (gp_4 (gp_1 (gp_1 gp_h))))))) (gp_c (gt_5 _ (gp_16 (gp_4 (gp_4 (gp_4 (gp_1 (gp_1 (gp_1 gp_h)))))))) (gp_c (gt_5 _ (gp_16 (gp_16 gp_h))) (gp_c (tw_51) (gp_n))))) (by decide +kernel)) ggT_X9_told
set_option maxRecDepth 20000 in
theorem tw_357 : (Cond.fieldLink RX8 308 "StateRecords$Check" "b" "I") ∈ lw_tbl := gt_2 _ (gp_64 (gp_4 (gp_4 (gp_1 gp_h))))
set_option maxRecDepth 20000 in
theorem tw_355 : (Cond.fieldLink RX8 302 "StateRecords$Check" "a" "I") ∈ lw_tbl := gt_2 _ (gp_64 (gp_4 (gp_1 (gp_1 (gp_1 gp_h)))))
set_option maxRecDepth 20000 in
theorem tw_492 : (Cond.code yX8_failureOfDivides cX8_failureOfDivides 2 ( some .int )) ∈ lw_tbl := gt_2 _ (gp_64 (gp_64 (gp_64 (gp_16 gp_h))))
set_option maxRecDepth 20000 in
theorem tw_491 : (Cond.static yX8_failureOfDivides) ∈ lw_tbl := gt_2 _ (gp_64 (gp_64 (gp_64 (gp_4 (gp_4 (gp_4 (gp_1 (gp_1 (gp_1 gp_h)))))))))
set_option maxRecDepth 20000 in
theorem tw_490 : (Cond.methodLink RX8 284 yX8_failureOfDivides) ∈ lw_tbl := gt_2 _ (gp_64 (gp_64 (gp_64 (gp_4 (gp_4 (gp_4 (gp_1 (gp_1 gp_h))))))))
set_option maxRecDepth 20000 in
theorem tw_353 : (Cond.fieldLink RX8 281 "StateRecords$Check" "kind" "I") ∈ lw_tbl := gt_2 _ (gp_64 (gp_4 (gp_1 gp_h)))
set_option maxRecDepth 20000 in
theorem tw_489 : (Cond.code yX8_failureOf cX8_failureOf 3 ( some .int )) ∈ lw_tbl := gt_2 _ (gp_64 (gp_64 (gp_64 (gp_4 (gp_4 (gp_4 (gp_1 gp_h)))))))
set_option maxRecDepth 20000 in
theorem tw_488 : (Cond.instanceMethod yX8_failureOf) ∈ lw_tbl := gt_2 _ (gp_64 (gp_64 (gp_64 (gp_4 (gp_4 (gp_4 gp_h))))))
set_option maxRecDepth 20000 in
theorem tw_486 : (Cond.methodLink RX8 212 yX8_failureOf) ∈ lw_tbl := gt_2 _ (gp_64 (gp_64 (gp_64 (gp_4 (gp_4 (gp_1 (gp_1 gp_h)))))))
set_option maxRecDepth 20000 in
theorem tw_485 : (Cond.code yX8_firstFailingCheck cX8_firstFailingCheck 3 ( some .int )) ∈ lw_tbl := gt_2 _ (gp_64 (gp_64 (gp_64 (gp_4 (gp_4 (gp_1 gp_h))))))
set_option maxRecDepth 20000 in
theorem tw_484 : (Cond.instanceMethod yX8_firstFailingCheck) ∈ lw_tbl := gt_2 _ (gp_64 (gp_64 (gp_64 (gp_4 (gp_4 gp_h)))))
set_option maxRecDepth 20000 in
theorem tw_482 : (Cond.methodLink RX8 208 yX8_firstFailingCheck) ∈ lw_tbl := gt_2 _ (gp_64 (gp_64 (gp_64 (gp_4 (gp_1 (gp_1 gp_h))))))
set_option maxRecDepth 20000 in
theorem tw_504 : (Cond.code yX8_failureOfHas cX8_failureOfHas 5 ( some .int )) ∈ lw_tbl := gt_2 _ (gp_64 (gp_64 (gp_64 (gp_16 (gp_4 (gp_4 (gp_4 gp_h)))))))
set_option maxRecDepth 20000 in
theorem tw_503 : (Cond.static yX8_failureOfHas) ∈ lw_tbl := gt_2 _ (gp_64 (gp_64 (gp_64 (gp_16 (gp_4 (gp_4 (gp_1 (gp_1 (gp_1 gp_h)))))))))
set_option maxRecDepth 20000 in
theorem tw_502 : (Cond.methodLink RX8 290 yX8_failureOfHas) ∈ lw_tbl := gt_2 _ (gp_64 (gp_64 (gp_64 (gp_16 (gp_4 (gp_4 (gp_1 (gp_1 gp_h))))))))
set_option maxRecDepth 20000 in
theorem tw_359 : (Cond.fieldLink RX8 311 "StateRecords$Check" "v" "J") ∈ lw_tbl := gt_2 _ (gp_64 (gp_4 (gp_4 (gp_1 (gp_1 (gp_1 gp_h))))))
set_option maxRecDepth 20000 in
theorem tw_501 : (Cond.code yX8_failureOfMeets cX8_failureOfMeets 4 ( some .int )) ∈ lw_tbl := gt_2 _ (gp_64 (gp_64 (gp_64 (gp_16 (gp_4 (gp_4 (gp_1 gp_h)))))))
set_option maxRecDepth 20000 in
theorem tw_500 : (Cond.instanceMethod yX8_failureOfMeets) ∈ lw_tbl := gt_2 _ (gp_64 (gp_64 (gp_64 (gp_16 (gp_4 (gp_4 gp_h))))))
set_option maxRecDepth 20000 in
theorem tw_498 : (Cond.methodLink RX8 287 yX8_failureOfMeets) ∈ lw_tbl := gt_2 _ (gp_64 (gp_64 (gp_64 (gp_16 (gp_4 (gp_1 (gp_1 gp_h)))))))
set_option maxRecDepth 20000 in
theorem tw_497 : (Cond.methodLink RX7 43 yX7_hasField) ∈ lw_tbl := gt_2 _ (gp_64 (gp_64 (gp_64 (gp_16 (gp_4 (gp_1 gp_h))))))
set_option maxRecDepth 20000 in
theorem tw_496 : (Cond.code yX7_hasLane cX7_hasLane 3 ( some .boolean )) ∈ lw_tbl := gt_2 _ (gp_64 (gp_64 (gp_64 (gp_16 (gp_4 gp_h)))))
set_option maxRecDepth 20000 in
theorem tw_495 : (Cond.selects RX7 yX7_hasLane yX7_hasLane) ∈ lw_tbl := gt_2 _ (gp_64 (gp_64 (gp_64 (gp_16 (gp_1 (gp_1 (gp_1 gp_h)))))))
set_option maxRecDepth 20000 in
theorem tw_494 : (Cond.instanceMethod yX7_hasLane) ∈ lw_tbl := gt_2 _ (gp_64 (gp_64 (gp_64 (gp_16 (gp_1 (gp_1 gp_h))))))
set_option maxRecDepth 20000 in
theorem tw_493 : (Cond.methodLink RX8 305 yX7_hasLane) ∈ lw_tbl := gt_2 _ (gp_64 (gp_64 (gp_64 (gp_16 (gp_1 gp_h)))))
set_option maxRecDepth 20000 in
theorem tw_270 : (Cond.fieldLink RX8 320 "StateRecords$Type" "names" "[I") ∈ lw_tbl := gt_1 _ (gp_64 (gp_64 (gp_64 (gp_16 (gp_16 (gp_1 (gp_1 gp_h)))))))
set_option maxRecDepth 20000 in
theorem tw_520 : (Cond.code yX8_failureOfLeads cX8_failureOfLeads 5 ( some .int )) ∈ lw_tbl := gt_2 _ (gp_64 (gp_64 (gp_64 (gp_16 (gp_16 (gp_4 (gp_4 (gp_4 gp_h))))))))
set_option maxRecDepth 20000 in
theorem tw_519 : (Cond.instanceMethod yX8_failureOfLeads) ∈ lw_tbl := gt_2 _ (gp_64 (gp_64 (gp_64 (gp_16 (gp_16 (gp_4 (gp_4 (gp_1 (gp_1 (gp_1 gp_h))))))))))
set_option maxRecDepth 20000 in
theorem tw_517 : (Cond.methodLink RX8 299 yX8_failureOfLeads) ∈ lw_tbl := gt_2 _ (gp_64 (gp_64 (gp_64 (gp_16 (gp_16 (gp_4 (gp_4 (gp_1 gp_h))))))))
set_option maxRecDepth 20000 in
theorem tw_516 : (Cond.code yX8_failureOfLeast cX8_failureOfLeast 2 ( some .int )) ∈ lw_tbl := gt_2 _ (gp_64 (gp_64 (gp_64 (gp_16 (gp_16 (gp_4 (gp_4 gp_h)))))))
set_option maxRecDepth 20000 in
theorem tw_515 : (Cond.static yX8_failureOfLeast) ∈ lw_tbl := gt_2 _ (gp_64 (gp_64 (gp_64 (gp_16 (gp_16 (gp_4 (gp_1 (gp_1 (gp_1 gp_h)))))))))
set_option maxRecDepth 20000 in
theorem tw_514 : (Cond.methodLink RX8 296 yX8_failureOfLeast) ∈ lw_tbl := gt_2 _ (gp_64 (gp_64 (gp_64 (gp_16 (gp_16 (gp_4 (gp_1 (gp_1 gp_h))))))))
set_option maxRecDepth 20000 in
theorem tw_513 : (Cond.constantLong RX8 318 ( 12 )) ∈ lw_tbl := gt_2 _ (gp_64 (gp_64 (gp_64 (gp_16 (gp_16 (gp_4 (gp_1 gp_h)))))))
set_option maxRecDepth 20000 in
theorem tw_512 : (Cond.code yX8_failureOfHolds cX8_failureOfHolds 4 ( some .int )) ∈ lw_tbl := gt_2 _ (gp_64 (gp_64 (gp_64 (gp_16 (gp_16 (gp_4 gp_h))))))
set_option maxRecDepth 20000 in
theorem tw_511 : (Cond.static yX8_failureOfHolds) ∈ lw_tbl := gt_2 _ (gp_64 (gp_64 (gp_64 (gp_16 (gp_16 (gp_1 (gp_1 (gp_1 gp_h))))))))
set_option maxRecDepth 20000 in
theorem tw_510 : (Cond.methodLink RX8 293 yX8_failureOfHolds) ∈ lw_tbl := gt_2 _ (gp_64 (gp_64 (gp_64 (gp_16 (gp_16 (gp_1 (gp_1 gp_h)))))))
set_option maxRecDepth 20000 in
theorem tw_508 : (Cond.code yX7_hasRowLane cX7_hasRowLane 2 ( some .boolean )) ∈ lw_tbl := gt_2 _ (gp_64 (gp_64 (gp_64 (gp_16 (gp_16 gp_h)))))
set_option maxRecDepth 20000 in
theorem tw_507 : (Cond.selects RX7 yX7_hasRowLane yX7_hasRowLane) ∈ lw_tbl := gt_2 _ (gp_64 (gp_64 (gp_64 (gp_16 (gp_4 (gp_4 (gp_4 (gp_1 (gp_1 (gp_1 gp_h))))))))))
set_option maxRecDepth 20000 in
theorem tw_506 : (Cond.instanceMethod yX7_hasRowLane) ∈ lw_tbl := gt_2 _ (gp_64 (gp_64 (gp_64 (gp_16 (gp_4 (gp_4 (gp_4 (gp_1 (gp_1 gp_h)))))))))
set_option maxRecDepth 20000 in
theorem tw_505 : (Cond.methodLink RX8 315 yX7_hasRowLane) ∈ lw_tbl := gt_2 _ (gp_64 (gp_64 (gp_64 (gp_16 (gp_4 (gp_4 (gp_4 (gp_1 gp_h))))))))
set_option maxRecDepth 20000 in
theorem tw_481 : (Cond.code yX8_judge cX8_judge 4 ( some .int )) ∈ lw_tbl := gt_2 _ (gp_64 (gp_64 (gp_64 (gp_4 (gp_1 gp_h)))))
set_option maxRecDepth 20000 in
theorem gr_X8_judge_r1 : GoodIn lw_tbl wsX8_judge_r1 := gp_s (gp_c (tw_196) (gp_c (tw_279) (gp_c (tw_394) (gp_c (tw_396) (gp_c (gq_2) (gp_c (tw_45) (gp_c (tw_397) (gp_c (tw_219) (gp_c (tw_218) (gp_c (tw_482) (gp_c (tw_484) (gp_c (gq_7) (gp_c (tw_485) (gp_c (tw_277) (gp_c (tw_486) (gp_c (tw_488) (gp_c (gq_8) (gp_c (tw_489) (gp_c (tw_353) (gp_c (tw_490) (gp_c (tw_491) (gp_c (tw_492) (gp_c (tw_355) (gp_c (tw_357) (gp_n))))))))))))))))))))))))) (by decide +kernel)
set_option maxRecDepth 20000 in
theorem gr_X8_judge_r2 : GoodIn lw_tbl wsX8_judge_r2 := gp_s (gp_c (tw_200) (gp_c (tw_493) (gp_c (tw_494) (gp_c (tw_495) (gp_c (tw_52) (gp_c (tw_496) (gp_c (tw_271) (gp_c (tw_497) (gp_c (tw_326) (gp_c (tw_327) (gp_c (tw_328) (gp_c (tw_266) (gp_c (tw_306) (gp_c (tw_307) (gp_c (tw_498) (gp_c (tw_500) (gp_c (gq_9) (gp_c (tw_501) (gp_c (tw_265) (gp_c (tw_359) (gp_c (tw_502) (gp_c (tw_503) (gp_c (tw_504) (gp_c (tw_204) (gp_n))))))))))))))))))))))))) (by decide +kernel)
set_option maxRecDepth 20000 in
theorem gr_X8_judge_r3 : GoodIn lw_tbl wsX8_judge_r3 := gp_s (gp_c (tw_443) (gp_c (tw_505) (gp_c (tw_506) (gp_c (tw_507) (gp_c (tw_508) (gp_c (tw_432) (gp_c (tw_433) (gp_c (tw_510) (gp_c (tw_511) (gp_c (tw_512) (gp_c (tw_513) (gp_c (tw_514) (gp_c (tw_515) (gp_c (tw_516) (gp_c (tw_517) (gp_c (tw_519) (gp_c (gq_10) (gp_c (tw_520) (gp_c (tw_270) (gp_c (tw_308) (gp_c (tw_309) (gp_c (tw_310) (gp_c (tw_311) (gp_c (tw_269) (gp_n))))))))))))))))))))))))) (by decide +kernel)
set_option maxRecDepth 20000 in
theorem gr_X8_judge_r4 : GoodIn lw_tbl wsX8_judge_r4 := gp_s (gp_c (tw_398) (gp_c (tw_399) (gp_c (tw_400) (gp_n)))) (by decide +kernel)
set_option maxRecDepth 20000 in
theorem ggT_X8_judge : GoodIn lw_tbl wsX8_judge := goodIn_cons (gp_s (gp_c (tw_481) (gp_n)) (by decide +kernel)) (goodIn_app (goodIn_app (goodIn_app (goodIn_app (goodIn_app (goodIn_app gr_X8_judge_r1 (goodIn_app gr_X8_judge_r2 (goodIn_app gr_X8_judge_r3 gr_X8_judge_r4))) gwX60) gwX70) gwX80) gwX00) gwX50)
set_option maxRecDepth 20000 in
theorem gT_X8_judge : GoodIn lw_tbl (wsV RL 109 RX8 yX8_judge wsX8_judge) := goodIn_app (gp_s (gp_c (gt_2 _ (gp_64 (gp_64 (gp_64 (gp_1 (gp_1 gp_h)))))) (gp_c (gt_2 _ (gp_64 (gp_64 (gp_64 (gp_1 (gp_1 (gp_1 gp_h))))))) (gp_c (gt_2 _ (gp_64 (gp_64 (gp_64 (gp_4 gp_h))))) (gp_c (tw_45) (gp_n))))) (by decide +kernel)) ggT_X8_judge
set_option maxRecDepth 20000 in
theorem tw_1049 : (Cond.code yX9_checked cX9_checked 13 ( some .int )) ∈ lw_tbl := gt_5 _ (gp_16 (gp_16 (gp_4 (gp_4 (gp_4 (gp_1 gp_h))))))
set_option maxRecDepth 20000 in
theorem tw_1048 : (Cond.instanceMethod yX9_checked) ∈ lw_tbl := gt_5 _ (gp_16 (gp_16 (gp_4 (gp_4 (gp_4 gp_h)))))
set_option maxRecDepth 20000 in
theorem tw_1046 : (Cond.methodLink RX9 203 yX9_checked) ∈ lw_tbl := gt_5 _ (gp_16 (gp_16 (gp_4 (gp_4 (gp_1 (gp_1 gp_h))))))
set_option maxRecDepth 20000 in
theorem tw_807 : (Cond.fieldLink RX9 206 "StateRecordsModel" "checkAt" "I") ∈ lw_tbl := gt_4 _ (gp_16 (gp_16 (gp_4 (gp_4 (gp_1 (gp_1 (gp_1 gp_h)))))))
set_option maxRecDepth 20000 in
theorem tw_1045 : (Cond.code yX9_judged cX9_judged 5 ( some .int )) ∈ lw_tbl := gt_5 _ (gp_16 (gp_16 (gp_4 (gp_4 (gp_1 gp_h)))))
set_option maxRecDepth 20000 in
theorem tw_1044 : (Cond.instanceMethod yX9_judged) ∈ lw_tbl := gt_5 _ (gp_16 (gp_16 (gp_4 (gp_4 gp_h))))
set_option maxRecDepth 20000 in
theorem tw_1042 : (Cond.methodLink RX9 209 yX9_judged) ∈ lw_tbl := gt_5 _ (gp_16 (gp_16 (gp_4 (gp_1 (gp_1 gp_h)))))
set_option maxRecDepth 20000 in
theorem tw_1053 : (Cond.code yX9_isLane cX9_isLane 5 ( some .boolean )) ∈ lw_tbl := gt_5 _ (gp_16 (gp_16 (gp_16 (gp_1 gp_h))))
set_option maxRecDepth 20000 in
theorem tw_1052 : (Cond.instanceMethod yX9_isLane) ∈ lw_tbl := gt_5 _ (gp_16 (gp_16 (gp_16 gp_h)))
set_option maxRecDepth 20000 in
theorem tw_1050 : (Cond.methodLink RX9 197 yX9_isLane) ∈ lw_tbl := gt_5 _ (gp_16 (gp_16 (gp_4 (gp_4 (gp_4 (gp_1 (gp_1 gp_h)))))))
set_option maxRecDepth 20000 in
theorem tw_1054 : (Cond.constantLong RX9 201 ( 12 )) ∈ lw_tbl := gt_5 _ (gp_16 (gp_16 (gp_16 (gp_1 (gp_1 gp_h)))))
set_option maxRecDepth 20000 in
theorem tw_1041 : (Cond.code yX9_judge cX9_judge 3 ( some .int )) ∈ lw_tbl := gt_5 _ (gp_16 (gp_16 (gp_4 (gp_1 gp_h))))
set_option maxRecDepth 20000 in
theorem gr_X9_judge_r1 : GoodIn lw_tbl wsX9_judge_r1 := gp_s (gp_c (tw_779) (gp_c (tw_982) (gp_c (tw_984) (gp_c (gq_26) (gp_c (tw_51) (gp_c (tw_985) (gp_c (tw_792) (gp_c (tw_1042) (gp_c (tw_1044) (gp_c (gq_31) (gp_c (tw_1045) (gp_c (tw_793) (gp_c (tw_787) (gp_c (tw_807) (gp_c (tw_1046) (gp_c (tw_1048) (gp_c (gq_32) (gp_c (tw_1049) (gp_c (tw_788) (gp_c (tw_789) (gp_c (tw_790) (gp_c (tw_794) (gp_c (tw_782) (gp_c (tw_791) (gp_n))))))))))))))))))))))))) (by decide +kernel)
set_option maxRecDepth 20000 in
theorem gr_X9_judge_r2 : GoodIn lw_tbl wsX9_judge_r2 := gp_s (gp_c (tw_796) (gp_c (tw_797) (gp_c (tw_1054) (gp_c (tw_783) (gp_c (tw_1050) (gp_c (tw_1052) (gp_c (gq_33) (gp_c (tw_1053) (gp_c (tw_986) (gp_c (tw_988) (gp_c (gq_27) (gp_c (tw_989) (gp_c (tw_784) (gp_c (tw_945) (gp_c (tw_947) (gp_c (gq_24) (gp_c (tw_948) (gp_n)))))))))))))))))) (by decide +kernel)
set_option maxRecDepth 20000 in
theorem ggT_X9_judge : GoodIn lw_tbl wsX9_judge := goodIn_cons (gp_s (gp_c (tw_1041) (gp_n)) (by decide +kernel)) (goodIn_app (goodIn_app gr_X9_judge_r1 gr_X9_judge_r2) gwX90)
set_option maxRecDepth 20000 in
theorem gT_X9_judge : GoodIn lw_tbl (wsV RL 112 RX9 yX9_judge wsX9_judge) := goodIn_app (gp_s (gp_c (gt_5 _ (gp_16 (gp_16 (gp_1 (gp_1 gp_h))))) (gp_c (gt_5 _ (gp_16 (gp_16 (gp_1 (gp_1 (gp_1 gp_h)))))) (gp_c (gt_5 _ (gp_16 (gp_16 (gp_4 gp_h)))) (gp_c (tw_51) (gp_n))))) (by decide +kernel)) ggT_X9_judge
set_option maxRecDepth 20000 in
theorem tw_531 : (Cond.instanceMethod yX8_forgetNumbers) ∈ lw_tbl := gt_3 _ (gp_4 (gp_1 (gp_1 (gp_1 gp_h))))
set_option maxRecDepth 20000 in
theorem tw_529 : (Cond.methodLink RX8 321 yX8_forgetNumbers) ∈ lw_tbl := gt_3 _ (gp_4 (gp_1 gp_h))
set_option maxRecDepth 20000 in
theorem tw_94 : (Cond.fieldLink RX8 234 "StateRecords$Records" "rowCount" "I") ∈ lw_tbl := gt_1 _ (gp_16 (gp_16 (gp_16 (gp_1 (gp_1 gp_h)))))
set_option maxRecDepth 20000 in
theorem tw_528 : (Cond.code yX8_recordFrom cX8_recordFrom 4 none) ∈ lw_tbl := gt_3 _ (gp_4 gp_h)
set_option maxRecDepth 20000 in
theorem tw_527 : (Cond.instanceMethod yX8_recordFrom) ∈ lw_tbl := gt_3 _ (gp_1 (gp_1 (gp_1 gp_h)))
set_option maxRecDepth 20000 in
theorem tw_525 : (Cond.methodLink RX8 216 yX8_recordFrom) ∈ lw_tbl := gt_3 _ (gp_1 gp_h)
set_option maxRecDepth 20000 in
theorem tw_82 : (Cond.fieldLink RX8 231 "StateRecords$Records" "recordCount" "I") ∈ lw_tbl := gt_1 _ (gp_16 (gp_16 (gp_4 (gp_1 (gp_1 gp_h)))))
set_option maxRecDepth 20000 in
theorem tw_88 : (Cond.fieldLink RX8 224 "StateRecords$Records" "names" "[I") ∈ lw_tbl := gt_1 _ (gp_16 (gp_16 (gp_4 (gp_4 (gp_4 gp_h)))))
set_option maxRecDepth 20000 in
theorem tw_543 : (Cond.instanceMethod yX8_recordFields) ∈ lw_tbl := gt_3 _ (gp_16 (gp_1 (gp_1 (gp_1 gp_h))))
set_option maxRecDepth 20000 in
theorem tw_541 : (Cond.methodLink RX8 328 yX8_recordFields) ∈ lw_tbl := gt_3 _ (gp_16 (gp_1 gp_h))
set_option maxRecDepth 20000 in
theorem tw_86 : (Cond.fieldLink RX8 338 "StateRecords$Records" "fieldCounts" "[I") ∈ lw_tbl := gt_1 _ (gp_16 (gp_16 (gp_4 (gp_4 (gp_1 (gp_1 gp_h))))))
set_option maxRecDepth 20000 in
theorem tw_84 : (Cond.fieldLink RX8 336 "StateRecords$Records" "types" "[I") ∈ lw_tbl := gt_1 _ (gp_16 (gp_16 (gp_4 (gp_4 gp_h))))
set_option maxRecDepth 20000 in
theorem tw_206 : (Cond.fieldLink RX8 333 "StateRecords$Thing" "recordNumber" "I") ∈ lw_tbl := gt_1 _ (gp_64 (gp_64 (gp_16 (gp_16 (gp_1 (gp_1 gp_h))))))
set_option maxRecDepth 20000 in
theorem tw_540 : (Cond.code yX8_recordNumberOf cX8_recordNumberOf 3 ( some .int )) ∈ lw_tbl := gt_3 _ (gp_16 gp_h)
set_option maxRecDepth 20000 in
theorem tw_539 : (Cond.instanceMethod yX8_recordNumberOf) ∈ lw_tbl := gt_3 _ (gp_4 (gp_4 (gp_4 (gp_1 (gp_1 (gp_1 gp_h))))))
set_option maxRecDepth 20000 in
theorem tw_537 : (Cond.methodLink RX8 324 yX8_recordNumberOf) ∈ lw_tbl := gt_3 _ (gp_4 (gp_4 (gp_4 (gp_1 gp_h))))
set_option maxRecDepth 20000 in
theorem tw_445 : (Cond.fieldLink RX6 41 "StateRecords$Row" "number" "I") ∈ lw_tbl := gt_2 _ (gp_64 (gp_64 (gp_16 (gp_16 (gp_1 gp_h)))))
set_option maxRecDepth 20000 in
theorem tw_205 : (Cond.fieldLink RX6 38 "StateRecords$Thing" "recordNumber" "I") ∈ lw_tbl := gt_1 _ (gp_64 (gp_64 (gp_16 (gp_16 (gp_1 gp_h)))))
set_option maxRecDepth 20000 in
theorem tw_536 : (Cond.code yX6_forgetNumbers cX6_forgetNumbers 2 none) ∈ lw_tbl := gt_3 _ (gp_4 (gp_4 (gp_4 gp_h)))
set_option maxRecDepth 20000 in
theorem tw_535 : (Cond.selects RX6 yX6_forgetNumbers yX6_forgetNumbers) ∈ lw_tbl := gt_3 _ (gp_4 (gp_4 (gp_1 (gp_1 (gp_1 gp_h)))))
set_option maxRecDepth 20000 in
theorem tw_534 : (Cond.instanceMethod yX6_forgetNumbers) ∈ lw_tbl := gt_3 _ (gp_4 (gp_4 (gp_1 (gp_1 gp_h))))
set_option maxRecDepth 20000 in
theorem tw_533 : (Cond.methodLink RX8 332 yX6_forgetNumbers) ∈ lw_tbl := gt_3 _ (gp_4 (gp_4 (gp_1 gp_h)))
set_option maxRecDepth 20000 in
theorem tw_532 : (Cond.code yX8_forgetNumbers cX8_forgetNumbers 2 none) ∈ lw_tbl := gt_3 _ (gp_4 (gp_4 gp_h))
set_option maxRecDepth 20000 in
theorem tw_440 : (Cond.fieldLink RX4 43 "StateRecords$Row" "items" "[J") ∈ lw_tbl := gt_2 _ (gp_64 (gp_64 (gp_16 (gp_4 (gp_4 (gp_4 gp_h))))))
set_option maxRecDepth 20000 in
theorem tw_93 : (Cond.fieldLink RX4 40 "StateRecords$Records" "rowCount" "I") ∈ lw_tbl := gt_1 _ (gp_16 (gp_16 (gp_16 (gp_1 gp_h))))
set_option maxRecDepth 20000 in
theorem tw_444 : (Cond.fieldLink RX4 34 "StateRecords$Row" "number" "I") ∈ lw_tbl := gt_2 _ (gp_64 (gp_64 (gp_16 (gp_16 gp_h))))
set_option maxRecDepth 20000 in
theorem tw_552 : (Cond.code yX4_numberOf cX4_numberOf 3 ( some .int )) ∈ lw_tbl := gt_3 _ (gp_16 (gp_4 (gp_4 (gp_4 gp_h))))
set_option maxRecDepth 20000 in
theorem tw_551 : (Cond.selects RX4 yX4_numberOf yX4_numberOf) ∈ lw_tbl := gt_3 _ (gp_16 (gp_4 (gp_4 (gp_1 (gp_1 (gp_1 gp_h))))))
set_option maxRecDepth 20000 in
theorem tw_550 : (Cond.instanceMethod yX4_numberOf) ∈ lw_tbl := gt_3 _ (gp_16 (gp_4 (gp_4 (gp_1 (gp_1 gp_h)))))
set_option maxRecDepth 20000 in
theorem tw_549 : (Cond.methodLink RX8 347 yX4_numberOf) ∈ lw_tbl := gt_3 _ (gp_16 (gp_4 (gp_4 (gp_1 gp_h))))
set_option maxRecDepth 20000 in
theorem tw_548 : (Cond.code yX8_recordedValue cX8_recordedValue 6 ( some .long )) ∈ lw_tbl := gt_3 _ (gp_16 (gp_4 (gp_4 gp_h)))
set_option maxRecDepth 20000 in
theorem tw_547 : (Cond.instanceMethod yX8_recordedValue) ∈ lw_tbl := gt_3 _ (gp_16 (gp_4 (gp_1 (gp_1 (gp_1 gp_h)))))
set_option maxRecDepth 20000 in
theorem tw_545 : (Cond.methodLink RX8 343 yX8_recordedValue) ∈ lw_tbl := gt_3 _ (gp_16 (gp_4 (gp_1 gp_h)))
set_option maxRecDepth 20000 in
theorem tw_92 : (Cond.fieldLink RX8 342 "StateRecords$Records" "values" "[J") ∈ lw_tbl := gt_1 _ (gp_16 (gp_16 (gp_16 gp_h)))
set_option maxRecDepth 20000 in
theorem tw_90 : (Cond.fieldLink RX8 341 "StateRecords$Records" "lanes" "[I") ∈ lw_tbl := gt_1 _ (gp_16 (gp_16 (gp_4 (gp_4 (gp_4 (gp_1 (gp_1 gp_h)))))))
set_option maxRecDepth 20000 in
theorem tw_544 : (Cond.code yX8_recordFields cX8_recordFields 6 none) ∈ lw_tbl := gt_3 _ (gp_16 (gp_4 gp_h))
set_option maxRecDepth 20000 in
theorem tw_178 : (Cond.fieldLink RX1 20 "StateRecords$Fault" "check" "I") ∈ lw_tbl := gt_1 _ (gp_64 (gp_64 (gp_4 (gp_1 (gp_1 gp_h)))))
set_option maxRecDepth 20000 in
theorem tw_176 : (Cond.fieldLink RX1 17 "StateRecords$Fault" "name" "I") ∈ lw_tbl := gt_1 _ (gp_64 (gp_64 (gp_4 gp_h)))
set_option maxRecDepth 20000 in
theorem tw_174 : (Cond.fieldLink RX1 13 "StateRecords$Fault" "record" "I") ∈ lw_tbl := gt_1 _ (gp_64 (gp_64 (gp_1 (gp_1 gp_h))))
set_option maxRecDepth 20000 in
theorem tw_172 : (Cond.fieldLink RX1 7 "StateRecords$Fault" "isTold" "Z") ∈ lw_tbl := gt_1 _ (gp_64 (gp_64 gp_h))
set_option maxRecDepth 20000 in
theorem tw_560 : (Cond.code yX1_tell cX1_tell 4 none) ∈ lw_tbl := gt_3 _ (gp_16 (gp_16 (gp_4 gp_h)))
set_option maxRecDepth 20000 in
theorem tw_559 : (Cond.selects RX1 yX1_tell yX1_tell) ∈ lw_tbl := gt_3 _ (gp_16 (gp_16 (gp_1 (gp_1 (gp_1 gp_h)))))
set_option maxRecDepth 20000 in
theorem tw_558 : (Cond.instanceMethod yX1_tell) ∈ lw_tbl := gt_3 _ (gp_16 (gp_16 (gp_1 (gp_1 gp_h))))
set_option maxRecDepth 20000 in
theorem tw_557 : (Cond.methodLink RX8 227 yX1_tell) ∈ lw_tbl := gt_3 _ (gp_16 (gp_16 (gp_1 gp_h)))
set_option maxRecDepth 20000 in
theorem tw_556 : (Cond.code yX8_firstShutSlot cX8_firstShutSlot 5 ( some .int )) ∈ lw_tbl := gt_3 _ (gp_16 (gp_16 gp_h))
set_option maxRecDepth 20000 in
theorem tw_555 : (Cond.instanceMethod yX8_firstShutSlot) ∈ lw_tbl := gt_3 _ (gp_16 (gp_4 (gp_4 (gp_4 (gp_1 (gp_1 (gp_1 gp_h)))))))
set_option maxRecDepth 20000 in
theorem tw_553 : (Cond.methodLink RX8 220 yX8_firstShutSlot) ∈ lw_tbl := gt_3 _ (gp_16 (gp_4 (gp_4 (gp_4 (gp_1 gp_h)))))
set_option maxRecDepth 20000 in
theorem tw_524 : (Cond.code yX8_save cX8_save 6 ( some .int )) ∈ lw_tbl := gt_3 _ (gp_h)
set_option maxRecDepth 20000 in
theorem gr_X8_save_r1 : GoodIn lw_tbl wsX8_save_r1 := gp_s (gp_c (tw_222) (gp_c (tw_227) (gp_c (tw_88) (gp_c (tw_221) (gp_c (tw_82) (gp_c (tw_394) (gp_c (tw_396) (gp_c (gq_2) (gp_c (tw_45) (gp_c (tw_397) (gp_c (tw_219) (gp_c (tw_218) (gp_c (tw_305) (gp_c (tw_306) (gp_c (tw_307) (gp_c (tw_525) (gp_c (tw_527) (gp_c (gq_11) (gp_c (tw_528) (gp_c (tw_94) (gp_c (tw_224) (gp_c (tw_529) (gp_c (tw_531) (gp_c (gq_12) (gp_n))))))))))))))))))))))))) (by decide +kernel)
set_option maxRecDepth 20000 in
theorem gr_X8_save_r2 : GoodIn lw_tbl wsX8_save_r2 := gp_s (gp_c (tw_532) (gp_c (tw_533) (gp_c (tw_534) (gp_c (tw_535) (gp_c (tw_50) (gp_c (tw_536) (gp_c (tw_205) (gp_c (tw_195) (gp_c (tw_267) (gp_c (tw_201) (gp_c (tw_445) (gp_c (tw_537) (gp_c (tw_539) (gp_c (gq_13) (gp_c (tw_540) (gp_c (tw_206) (gp_c (tw_84) (gp_c (tw_196) (gp_c (tw_265) (gp_c (tw_86) (gp_c (tw_268) (gp_c (tw_541) (gp_c (tw_543) (gp_c (gq_14) (gp_n))))))))))))))))))))))))) (by decide +kernel)
set_option maxRecDepth 20000 in
theorem gr_X8_save_r3 : GoodIn lw_tbl wsX8_save_r3 := gp_s (gp_c (tw_544) (gp_c (tw_270) (gp_c (tw_90) (gp_c (tw_272) (gp_c (tw_92) (gp_c (tw_545) (gp_c (tw_547) (gp_c (gq_15) (gp_c (tw_548) (gp_c (tw_204) (gp_c (tw_312) (gp_c (tw_200) (gp_c (tw_431) (gp_c (tw_432) (gp_c (tw_433) (gp_c (tw_549) (gp_c (tw_550) (gp_c (tw_551) (gp_c (tw_46) (gp_c (tw_552) (gp_c (tw_444) (gp_c (tw_93) (gp_c (tw_95) (gp_c (tw_440) (gp_n))))))))))))))))))))))))) (by decide +kernel)
set_option maxRecDepth 20000 in
theorem gr_X8_save_r4 : GoodIn lw_tbl wsX8_save_r4 := gp_s (gp_c (tw_96) (gp_c (tw_553) (gp_c (tw_555) (gp_c (gq_16) (gp_c (tw_556) (gp_c (tw_276) (gp_c (tw_557) (gp_c (tw_558) (gp_c (tw_559) (gp_c (tw_49) (gp_c (tw_560) (gp_c (tw_172) (gp_c (tw_174) (gp_c (tw_176) (gp_c (tw_178) (gp_c (tw_398) (gp_c (tw_399) (gp_c (tw_400) (gp_n))))))))))))))))))) (by decide +kernel)
set_option maxRecDepth 20000 in
theorem ggT_X8_save : GoodIn lw_tbl wsX8_save := goodIn_cons (gp_s (gp_c (tw_524) (gp_n)) (by decide +kernel)) (goodIn_app (goodIn_app (goodIn_app (goodIn_app (goodIn_app (goodIn_app (goodIn_app gr_X8_save_r1 (goodIn_app gr_X8_save_r2 (goodIn_app gr_X8_save_r3 gr_X8_save_r4))) gwX80) gwX40) gwX60) gwX70) gwX50) gwX10)
set_option maxRecDepth 20000 in
theorem gT_X8_save : GoodIn lw_tbl (wsV RL 113 RX8 yX8_save wsX8_save) := goodIn_app (gp_s (gp_c (gt_2 _ (gp_64 (gp_64 (gp_64 (gp_16 (gp_16 (gp_4 (gp_4 (gp_4 (gp_1 gp_h)))))))))) (gp_c (gt_2 _ (gp_64 (gp_64 (gp_64 (gp_16 (gp_16 (gp_4 (gp_4 (gp_4 (gp_1 (gp_1 gp_h))))))))))) (gp_c (gt_2 _ (gp_64 (gp_64 (gp_64 (gp_16 (gp_16 (gp_4 (gp_4 (gp_4 (gp_1 (gp_1 (gp_1 gp_h)))))))))))) (gp_c (tw_45) (gp_n))))) (by decide +kernel)) ggT_X8_save
set_option maxRecDepth 20000 in
theorem tw_1065 : (Cond.instanceMethod yX9_saves) ∈ lw_tbl := gt_5 _ (gp_16 (gp_16 (gp_16 (gp_4 (gp_4 (gp_4 (gp_1 gp_h)))))))
set_option maxRecDepth 20000 in
theorem tw_1063 : (Cond.methodLink RX9 226 yX9_saves) ∈ lw_tbl := gt_5 _ (gp_16 (gp_16 (gp_16 (gp_4 (gp_4 (gp_1 (gp_1 (gp_1 gp_h))))))))
set_option maxRecDepth 20000 in
theorem tw_1062 : (Cond.code yX9_isSave cX9_isSave 2 ( some .boolean )) ∈ lw_tbl := gt_5 _ (gp_16 (gp_16 (gp_16 (gp_4 (gp_4 (gp_1 (gp_1 gp_h)))))))
set_option maxRecDepth 20000 in
theorem tw_1061 : (Cond.instanceMethod yX9_isSave) ∈ lw_tbl := gt_5 _ (gp_16 (gp_16 (gp_16 (gp_4 (gp_4 (gp_1 gp_h))))))
set_option maxRecDepth 20000 in
theorem tw_1059 : (Cond.methodLink RX9 223 yX9_isSave) ∈ lw_tbl := gt_5 _ (gp_16 (gp_16 (gp_16 (gp_4 (gp_1 (gp_1 (gp_1 gp_h)))))))
set_option maxRecDepth 20000 in
theorem tw_1078 : (Cond.code yX9_rowOf cX9_rowOf 5 ( some .int )) ∈ lw_tbl := gt_5 _ (gp_64 (gp_4 (gp_4 (gp_1 (gp_1 gp_h)))))
set_option maxRecDepth 20000 in
theorem tw_1077 : (Cond.instanceMethod yX9_rowOf) ∈ lw_tbl := gt_5 _ (gp_64 (gp_4 (gp_4 (gp_1 gp_h))))
set_option maxRecDepth 20000 in
theorem tw_1075 : (Cond.methodLink RX9 220 yX9_rowOf) ∈ lw_tbl := gt_5 _ (gp_64 (gp_4 (gp_1 (gp_1 (gp_1 gp_h)))))
set_option maxRecDepth 20000 in
theorem tw_1074 : (Cond.code yX9_faulty cX9_faulty 5 ( some .int )) ∈ lw_tbl := gt_5 _ (gp_64 (gp_4 (gp_1 (gp_1 gp_h))))
set_option maxRecDepth 20000 in
theorem tw_1073 : (Cond.instanceMethod yX9_faulty) ∈ lw_tbl := gt_5 _ (gp_64 (gp_4 (gp_1 gp_h)))
set_option maxRecDepth 20000 in
theorem tw_1071 : (Cond.methodLink RX9 216 yX9_faulty) ∈ lw_tbl := gt_5 _ (gp_64 (gp_1 (gp_1 (gp_1 gp_h))))
set_option maxRecDepth 20000 in
theorem tw_1070 : (Cond.code yX9_recordOf cX9_recordOf 4 ( some .int )) ∈ lw_tbl := gt_5 _ (gp_64 (gp_1 (gp_1 gp_h)))
set_option maxRecDepth 20000 in
theorem tw_1069 : (Cond.instanceMethod yX9_recordOf) ∈ lw_tbl := gt_5 _ (gp_64 (gp_1 gp_h))
set_option maxRecDepth 20000 in
theorem tw_1067 : (Cond.methodLink RX9 213 yX9_recordOf) ∈ lw_tbl := gt_5 _ (gp_16 (gp_16 (gp_16 (gp_4 (gp_4 (gp_4 (gp_1 (gp_1 (gp_1 gp_h)))))))))
set_option maxRecDepth 20000 in
theorem tw_1066 : (Cond.code yX9_saves cX9_saves 10 ( some .int )) ∈ lw_tbl := gt_5 _ (gp_16 (gp_16 (gp_16 (gp_4 (gp_4 (gp_4 (gp_1 (gp_1 gp_h))))))))
set_option maxRecDepth 20000 in
theorem tw_1058 : (Cond.code yX9_save cX9_save 6 ( some .int )) ∈ lw_tbl := gt_5 _ (gp_16 (gp_16 (gp_16 (gp_4 (gp_1 (gp_1 gp_h))))))
set_option maxRecDepth 20000 in
theorem gr_X9_save_r1 : GoodIn lw_tbl wsX9_save_r1 := gp_s (gp_c (tw_779) (gp_c (tw_808) (gp_c (tw_814) (gp_c (tw_809) (gp_c (tw_810) (gp_c (tw_811) (gp_c (tw_812) (gp_c (tw_813) (gp_c (tw_815) (gp_c (tw_816) (gp_c (tw_817) (gp_c (tw_1059) (gp_c (tw_1061) (gp_c (gq_34) (gp_c (tw_51) (gp_c (tw_1062) (gp_c (tw_982) (gp_c (tw_984) (gp_c (gq_26) (gp_c (tw_985) (gp_c (tw_792) (gp_c (tw_1063) (gp_c (tw_1065) (gp_c (gq_35) (gp_n))))))))))))))))))))))))) (by decide +kernel)
set_option maxRecDepth 20000 in
theorem gr_X9_save_r2 : GoodIn lw_tbl wsX9_save_r2 := gp_s (gp_c (tw_1066) (gp_c (tw_818) (gp_c (tw_793) (gp_c (tw_782) (gp_c (tw_786) (gp_c (tw_783) (gp_c (tw_794) (gp_c (tw_784) (gp_c (tw_1067) (gp_c (tw_1069) (gp_c (gq_36) (gp_c (tw_1070) (gp_c (tw_1071) (gp_c (tw_1073) (gp_c (gq_37) (gp_c (tw_1074) (gp_c (tw_820) (gp_c (tw_821) (gp_c (tw_822) (gp_c (tw_1075) (gp_c (tw_1077) (gp_c (gq_38) (gp_c (tw_1078) (gp_c (tw_819) (gp_n))))))))))))))))))))))))) (by decide +kernel)
set_option maxRecDepth 20000 in
theorem gr_X9_save_r3 : GoodIn lw_tbl wsX9_save_r3 := gp_s (gp_c (tw_795) (gp_c (tw_796) (gp_c (tw_797) (gp_n)))) (by decide +kernel)
set_option maxRecDepth 20000 in
theorem ggT_X9_save : GoodIn lw_tbl wsX9_save := goodIn_cons (gp_s (gp_c (tw_1058) (gp_n)) (by decide +kernel)) (goodIn_app (goodIn_app gr_X9_save_r1 (goodIn_app gr_X9_save_r2 gr_X9_save_r3)) gwX90)
set_option maxRecDepth 20000 in
theorem gT_X9_save : GoodIn lw_tbl (wsV RL 116 RX9 yX9_save wsX9_save) := goodIn_app (gp_s (gp_c (gt_5 _ (gp_16 (gp_16 (gp_16 (gp_1 (gp_1 (gp_1 gp_h))))))) (gp_c (gt_5 _ (gp_16 (gp_16 (gp_16 (gp_4 gp_h))))) (gp_c (gt_5 _ (gp_16 (gp_16 (gp_16 (gp_4 (gp_1 gp_h)))))) (gp_c (tw_51) (gp_n))))) (by decide +kernel)) ggT_X9_save
set_option maxRecDepth 20000 in
theorem tw_564 : (Cond.code yX8_saved cX8_saved 3 ( some .int )) ∈ lw_tbl := gt_3 _ (gp_16 (gp_16 (gp_4 (gp_4 gp_h))))
set_option maxRecDepth 20000 in
theorem ggT_X8_saved : GoodIn lw_tbl wsX8_saved := goodIn_cons (gp_s (gp_c (tw_564) (gp_n)) (by decide +kernel)) (goodIn_app (goodIn_app (gp_s (gp_c (tw_221) (gp_c (tw_82) (gp_c (tw_94) (gp_c (tw_305) (gp_c (tw_306) (gp_c (tw_45) (gp_c (tw_307) (gp_n)))))))) (by decide +kernel)) gwX80) gwX40)
set_option maxRecDepth 20000 in
theorem gT_X8_saved : GoodIn lw_tbl (wsV RL 117 RX8 yX8_saved wsX8_saved) := goodIn_app (gp_s (gp_c (gt_3 _ (gp_16 (gp_16 (gp_4 (gp_1 gp_h))))) (gp_c (gt_3 _ (gp_16 (gp_16 (gp_4 (gp_1 (gp_1 gp_h)))))) (gp_c (gt_3 _ (gp_16 (gp_16 (gp_4 (gp_1 (gp_1 (gp_1 gp_h))))))) (gp_c (tw_45) (gp_n))))) (by decide +kernel)) ggT_X8_saved
set_option maxRecDepth 20000 in
theorem tw_1082 : (Cond.code yX9_saved cX9_saved 3 ( some .int )) ∈ lw_tbl := gt_5 _ (gp_64 (gp_4 (gp_4 (gp_4 (gp_1 (gp_1 gp_h))))))
set_option maxRecDepth 20000 in
theorem ggT_X9_saved : GoodIn lw_tbl wsX9_saved := goodIn_cons (gp_s (gp_c (tw_1082) (gp_n)) (by decide +kernel)) (goodIn_app (gp_s (gp_c (tw_779) (gp_c (tw_808) (gp_c (tw_814) (gp_c (tw_1059) (gp_c (tw_1061) (gp_c (gq_34) (gp_c (tw_51) (gp_c (tw_1062) (gp_n))))))))) (by decide +kernel)) gwX90)
set_option maxRecDepth 20000 in
theorem gT_X9_saved : GoodIn lw_tbl (wsV RL 120 RX9 yX9_saved wsX9_saved) := goodIn_app (gp_s (gp_c (gt_5 _ (gp_64 (gp_4 (gp_4 (gp_1 (gp_1 (gp_1 gp_h))))))) (gp_c (gt_5 _ (gp_64 (gp_4 (gp_4 (gp_4 gp_h))))) (gp_c (gt_5 _ (gp_64 (gp_4 (gp_4 (gp_4 (gp_1 gp_h)))))) (gp_c (tw_51) (gp_n))))) (by decide +kernel)) ggT_X9_saved
set_option maxRecDepth 20000 in
theorem tw_572 : (Cond.code yX8_addThings cX8_addThings 3 none) ∈ lw_tbl := gt_3 _ (gp_16 (gp_16 (gp_16 gp_h)))
set_option maxRecDepth 20000 in
theorem tw_571 : (Cond.instanceMethod yX8_addThings) ∈ lw_tbl := gt_3 _ (gp_16 (gp_16 (gp_4 (gp_4 (gp_4 (gp_1 (gp_1 (gp_1 gp_h))))))))
set_option maxRecDepth 20000 in
theorem tw_569 : (Cond.methodLink RX8 237 yX8_addThings) ∈ lw_tbl := gt_3 _ (gp_16 (gp_16 (gp_4 (gp_4 (gp_4 (gp_1 gp_h))))))
set_option maxRecDepth 20000 in
theorem tw_580 : (Cond.code yX8_fillField cX8_fillField 10 ( some .int )) ∈ lw_tbl := gt_3 _ (gp_16 (gp_16 (gp_16 (gp_4 (gp_4 gp_h)))))
set_option maxRecDepth 20000 in
theorem tw_579 : (Cond.instanceMethod yX8_fillField) ∈ lw_tbl := gt_3 _ (gp_16 (gp_16 (gp_16 (gp_4 (gp_1 (gp_1 (gp_1 gp_h)))))))
set_option maxRecDepth 20000 in
theorem tw_577 : (Cond.methodLink RX8 364 yX8_fillField) ∈ lw_tbl := gt_3 _ (gp_16 (gp_16 (gp_16 (gp_4 (gp_1 gp_h)))))
set_option maxRecDepth 20000 in
theorem tw_576 : (Cond.code yX8_fillThings cX8_fillThings 8 ( some .int )) ∈ lw_tbl := gt_3 _ (gp_16 (gp_16 (gp_16 (gp_4 gp_h))))
set_option maxRecDepth 20000 in
theorem tw_575 : (Cond.instanceMethod yX8_fillThings) ∈ lw_tbl := gt_3 _ (gp_16 (gp_16 (gp_16 (gp_1 (gp_1 (gp_1 gp_h))))))
set_option maxRecDepth 20000 in
theorem tw_573 : (Cond.methodLink RX8 241 yX8_fillThings) ∈ lw_tbl := gt_3 _ (gp_16 (gp_16 (gp_16 (gp_1 gp_h))))
set_option maxRecDepth 20000 in
theorem tw_588 : (Cond.methodLink RX8 375 yX4_copyOfRow) ∈ lw_tbl := gt_3 _ (gp_64 gp_h)
set_option maxRecDepth 20000 in
theorem tw_587 : (Cond.code yX8_rowPutBack cX8_rowPutBack 5 ( some ( .object "StateRecords$Row" ) )) ∈ lw_tbl := gt_3 _ (gp_16 (gp_16 (gp_16 (gp_4 (gp_4 (gp_4 (gp_1 (gp_1 (gp_1 gp_h)))))))))
set_option maxRecDepth 20000 in
theorem tw_586 : (Cond.instanceMethod yX8_rowPutBack) ∈ lw_tbl := gt_3 _ (gp_16 (gp_16 (gp_16 (gp_4 (gp_4 (gp_4 (gp_1 (gp_1 gp_h))))))))
set_option maxRecDepth 20000 in
theorem tw_584 : (Cond.methodLink RX8 371 yX8_rowPutBack) ∈ lw_tbl := gt_3 _ (gp_16 (gp_16 (gp_16 (gp_4 (gp_4 (gp_4 gp_h))))))
set_option maxRecDepth 20000 in
theorem tw_583 : (Cond.code yX8_mayCome cX8_mayCome 2 ( some .boolean )) ∈ lw_tbl := gt_3 _ (gp_16 (gp_16 (gp_16 (gp_4 (gp_4 (gp_1 (gp_1 (gp_1 gp_h))))))))
set_option maxRecDepth 20000 in
theorem tw_582 : (Cond.static yX8_mayCome) ∈ lw_tbl := gt_3 _ (gp_16 (gp_16 (gp_16 (gp_4 (gp_4 (gp_1 (gp_1 gp_h)))))))
set_option maxRecDepth 20000 in
theorem tw_581 : (Cond.methodLink RX8 368 yX8_mayCome) ∈ lw_tbl := gt_3 _ (gp_16 (gp_16 (gp_16 (gp_4 (gp_4 (gp_1 gp_h))))))
set_option maxRecDepth 20000 in
theorem tw_593 : (Cond.methodLink RX4 44 yX5_init) ∈ lw_tbl := gt_3 _ (gp_64 (gp_4 (gp_1 gp_h)))
set_option maxRecDepth 20000 in
theorem tw_592 : (Cond.classLink RX4 35 RX5) ∈ lw_tbl := gt_3 _ (gp_64 (gp_4 gp_h))
set_option maxRecDepth 20000 in
theorem tw_591 : (Cond.code yX4_copyOfRow cX4_copyOfRow 4 ( some ( .object "StateRecords$Row" ) )) ∈ lw_tbl := gt_3 _ (gp_64 (gp_1 (gp_1 (gp_1 gp_h))))
set_option maxRecDepth 20000 in
theorem tw_590 : (Cond.selects RX4 yX4_copyOfRow yX4_copyOfRow) ∈ lw_tbl := gt_3 _ (gp_64 (gp_1 (gp_1 gp_h)))
set_option maxRecDepth 20000 in
theorem tw_589 : (Cond.instanceMethod yX4_copyOfRow) ∈ lw_tbl := gt_3 _ (gp_64 (gp_1 gp_h))
set_option maxRecDepth 20000 in
theorem tw_597 : (Cond.code yX8_judgeThings cX8_judgeThings 4 ( some .int )) ∈ lw_tbl := gt_3 _ (gp_64 (gp_4 (gp_4 (gp_1 gp_h))))
set_option maxRecDepth 20000 in
theorem tw_596 : (Cond.instanceMethod yX8_judgeThings) ∈ lw_tbl := gt_3 _ (gp_64 (gp_4 (gp_4 gp_h)))
set_option maxRecDepth 20000 in
theorem tw_594 : (Cond.methodLink RX8 245 yX8_judgeThings) ∈ lw_tbl := gt_3 _ (gp_64 (gp_4 (gp_1 (gp_1 gp_h))))
set_option maxRecDepth 20000 in
theorem tw_568 : (Cond.code yX8_restore cX8_restore 5 ( some .int )) ∈ lw_tbl := gt_3 _ (gp_16 (gp_16 (gp_4 (gp_4 (gp_4 gp_h)))))
set_option maxRecDepth 20000 in
theorem gr_X8_restore_r1 : GoodIn lw_tbl wsX8_restore_r1 := gp_s (gp_c (tw_221) (gp_c (tw_82) (gp_c (tw_219) (gp_c (tw_305) (gp_c (tw_306) (gp_c (tw_45) (gp_c (tw_307) (gp_c (tw_569) (gp_c (tw_571) (gp_c (gq_17) (gp_c (tw_572) (gp_c (tw_218) (gp_c (tw_216) (gp_c (tw_84) (gp_c (tw_381) (gp_c (tw_382) (gp_c (tw_383) (gp_c (tw_50) (gp_c (tw_384) (gp_c (tw_195) (gp_c (tw_267) (gp_c (tw_385) (gp_c (tw_318) (gp_c (tw_319) (gp_n))))))))))))))))))))))))) (by decide +kernel)
set_option maxRecDepth 20000 in
theorem gr_X8_restore_r2 : GoodIn lw_tbl wsX8_restore_r2 := gp_s (gp_c (tw_320) (gp_c (tw_197) (gp_c (tw_274) (gp_c (tw_201) (gp_c (tw_573) (gp_c (tw_575) (gp_c (gq_18) (gp_c (tw_576) (gp_c (tw_94) (gp_c (tw_225) (gp_c (tw_86) (gp_c (tw_227) (gp_c (tw_88) (gp_c (tw_577) (gp_c (tw_579) (gp_c (gq_19) (gp_c (tw_580) (gp_c (tw_196) (gp_c (tw_272) (gp_c (tw_90) (gp_c (tw_92) (gp_c (tw_312) (gp_c (tw_204) (gp_c (tw_200) (gp_n))))))))))))))))))))))))) (by decide +kernel)
set_option maxRecDepth 20000 in
theorem gr_X8_restore_r3 : GoodIn lw_tbl wsX8_restore_r3 := gp_s (gp_c (tw_308) (gp_c (tw_309) (gp_c (tw_310) (gp_c (tw_52) (gp_c (tw_311) (gp_c (tw_266) (gp_c (tw_269) (gp_c (tw_581) (gp_c (tw_582) (gp_c (tw_583) (gp_c (tw_431) (gp_c (tw_432) (gp_c (tw_433) (gp_c (tw_401) (gp_c (tw_403) (gp_c (gq_3) (gp_c (tw_404) (gp_c (tw_405) (gp_c (tw_220) (gp_c (tw_584) (gp_c (tw_586) (gp_c (gq_20) (gp_c (tw_587) (gp_c (tw_588) (gp_n))))))))))))))))))))))))) (by decide +kernel)
set_option maxRecDepth 20000 in
theorem gr_X8_restore_r4 : GoodIn lw_tbl wsX8_restore_r4 := gp_s (gp_c (tw_589) (gp_c (tw_590) (gp_c (tw_46) (gp_c (tw_591) (gp_c (tw_592) (gp_c (tw_434) (gp_c (tw_54) (gp_c (tw_95) (gp_c (tw_440) (gp_c (tw_96) (gp_c (tw_593) (gp_c (tw_436) (gp_c (tw_437) (gp_c (tw_438) (gp_c (tw_68) (gp_c (tw_69) (gp_c (tw_118) (gp_c (tw_439) (gp_c (tw_557) (gp_c (tw_558) (gp_c (tw_559) (gp_c (tw_49) (gp_c (tw_560) (gp_c (tw_172) (gp_n))))))))))))))))))))))))) (by decide +kernel)
set_option maxRecDepth 20000 in
theorem gr_X8_restore_r5 : GoodIn lw_tbl wsX8_restore_r5 := gp_s (gp_c (tw_174) (gp_c (tw_176) (gp_c (tw_178) (gp_c (tw_594) (gp_c (tw_596) (gp_c (gq_21) (gp_c (tw_597) (gp_c (tw_279) (gp_c (tw_482) (gp_c (tw_484) (gp_c (gq_7) (gp_c (tw_485) (gp_c (tw_277) (gp_c (tw_486) (gp_c (tw_488) (gp_c (gq_8) (gp_c (tw_489) (gp_c (tw_353) (gp_c (tw_490) (gp_c (tw_491) (gp_c (tw_492) (gp_c (tw_355) (gp_c (tw_357) (gp_c (tw_493) (gp_n))))))))))))))))))))))))) (by decide +kernel)
set_option maxRecDepth 20000 in
theorem gr_X8_restore_r6 : GoodIn lw_tbl wsX8_restore_r6 := gp_s (gp_c (tw_494) (gp_c (tw_495) (gp_c (tw_496) (gp_c (tw_271) (gp_c (tw_497) (gp_c (tw_326) (gp_c (tw_327) (gp_c (tw_328) (gp_c (tw_498) (gp_c (tw_500) (gp_c (gq_9) (gp_c (tw_501) (gp_c (tw_265) (gp_c (tw_359) (gp_c (tw_394) (gp_c (tw_396) (gp_c (gq_2) (gp_c (tw_397) (gp_c (tw_502) (gp_c (tw_503) (gp_c (tw_504) (gp_c (tw_443) (gp_c (tw_505) (gp_c (tw_506) (gp_n))))))))))))))))))))))))) (by decide +kernel)
set_option maxRecDepth 20000 in
theorem gr_X8_restore_r7 : GoodIn lw_tbl wsX8_restore_r7 := gp_s (gp_c (tw_507) (gp_c (tw_508) (gp_c (tw_510) (gp_c (tw_511) (gp_c (tw_512) (gp_c (tw_513) (gp_c (tw_514) (gp_c (tw_515) (gp_c (tw_516) (gp_c (tw_517) (gp_c (tw_519) (gp_c (gq_10) (gp_c (tw_520) (gp_c (tw_270) (gp_c (tw_398) (gp_c (tw_399) (gp_c (tw_400) (gp_n)))))))))))))))))) (by decide +kernel)
set_option maxRecDepth 20000 in
theorem ggT_X8_restore : GoodIn lw_tbl wsX8_restore := goodIn_cons (gp_s (gp_c (tw_568) (gp_n)) (by decide +kernel)) (goodIn_app (goodIn_app (goodIn_app (goodIn_app (goodIn_app (goodIn_app (goodIn_app (goodIn_app gr_X8_restore_r1 (goodIn_app gr_X8_restore_r2 (goodIn_app gr_X8_restore_r3 (goodIn_app gr_X8_restore_r4 (goodIn_app gr_X8_restore_r5 (goodIn_app gr_X8_restore_r6 gr_X8_restore_r7)))))) gwX80) gwX40) gwX60) gwX70) gwX50) gwX10) gwX00)
set_option maxRecDepth 20000 in
theorem gT_X8_restore : GoodIn lw_tbl (wsV RL 121 RX8 yX8_restore wsX8_restore) := goodIn_app (gp_s (gp_c (gt_3 _ (gp_16 (gp_16 (gp_4 (gp_4 (gp_1 gp_h)))))) (gp_c (gt_3 _ (gp_16 (gp_16 (gp_4 (gp_4 (gp_1 (gp_1 gp_h))))))) (gp_c (gt_3 _ (gp_16 (gp_16 (gp_4 (gp_4 (gp_1 (gp_1 (gp_1 gp_h)))))))) (gp_c (tw_45) (gp_n))))) (by decide +kernel)) ggT_X8_restore
set_option maxRecDepth 20000 in
theorem tw_1090 : (Cond.code yX9_fieldsBack cX9_fieldsBack 13 ( some .int )) ∈ lw_tbl := gt_5 _ (gp_64 (gp_16 (gp_4 (gp_1 (gp_1 gp_h)))))
set_option maxRecDepth 20000 in
theorem tw_1089 : (Cond.instanceMethod yX9_fieldsBack) ∈ lw_tbl := gt_5 _ (gp_64 (gp_16 (gp_4 (gp_1 gp_h))))
set_option maxRecDepth 20000 in
theorem tw_1087 : (Cond.methodLink RX9 237 yX9_fieldsBack) ∈ lw_tbl := gt_5 _ (gp_64 (gp_16 (gp_1 (gp_1 (gp_1 gp_h)))))
set_option maxRecDepth 20000 in
theorem tw_1097 : (Cond.code yX9_rowBack cX9_rowBack 8 ( some .int )) ∈ lw_tbl := gt_5 _ (gp_64 (gp_16 (gp_4 (gp_4 (gp_4 (gp_1 gp_h))))))
set_option maxRecDepth 20000 in
theorem tw_1096 : (Cond.instanceMethod yX9_rowBack) ∈ lw_tbl := gt_5 _ (gp_64 (gp_16 (gp_4 (gp_4 (gp_4 gp_h)))))
set_option maxRecDepth 20000 in
theorem tw_1094 : (Cond.methodLink RX9 233 yX9_rowBack) ∈ lw_tbl := gt_5 _ (gp_64 (gp_16 (gp_4 (gp_4 (gp_1 (gp_1 gp_h))))))
set_option maxRecDepth 20000 in
theorem tw_1093 : (Cond.code yX9_goes cX9_goes 2 ( some .boolean )) ∈ lw_tbl := gt_5 _ (gp_64 (gp_16 (gp_4 (gp_4 (gp_1 gp_h)))))
set_option maxRecDepth 20000 in
theorem tw_1092 : (Cond.static yX9_goes) ∈ lw_tbl := gt_5 _ (gp_64 (gp_16 (gp_4 (gp_4 gp_h))))
set_option maxRecDepth 20000 in
theorem tw_1091 : (Cond.methodLink RX9 230 yX9_goes) ∈ lw_tbl := gt_5 _ (gp_64 (gp_16 (gp_4 (gp_1 (gp_1 (gp_1 gp_h))))))
set_option maxRecDepth 20000 in
theorem tw_1086 : (Cond.code yX9_restore cX9_restore 8 ( some .int )) ∈ lw_tbl := gt_5 _ (gp_64 (gp_16 (gp_1 (gp_1 gp_h))))
set_option maxRecDepth 20000 in
theorem gr_X9_restore_r1 : GoodIn lw_tbl wsX9_restore_r1 := gp_s (gp_c (tw_779) (gp_c (tw_808) (gp_c (tw_792) (gp_c (tw_823) (gp_c (tw_809) (gp_c (tw_793) (gp_c (tw_782) (gp_c (tw_794) (gp_c (tw_785) (gp_c (tw_807) (gp_c (tw_1059) (gp_c (tw_1061) (gp_c (gq_34) (gp_c (tw_51) (gp_c (tw_1062) (gp_c (tw_1087) (gp_c (tw_1089) (gp_c (gq_39) (gp_c (tw_1090) (gp_c (tw_810) (gp_c (tw_811) (gp_c (tw_784) (gp_c (tw_812) (gp_c (tw_813) (gp_n))))))))))))))))))))))))) (by decide +kernel)
set_option maxRecDepth 20000 in
theorem gr_X9_restore_r2 : GoodIn lw_tbl wsX9_restore_r2 := gp_s (gp_c (tw_780) (gp_c (tw_949) (gp_c (tw_945) (gp_c (tw_947) (gp_c (gq_24) (gp_c (tw_948) (gp_c (tw_783) (gp_c (tw_1071) (gp_c (tw_1073) (gp_c (gq_37) (gp_c (tw_1074) (gp_c (tw_820) (gp_c (tw_821) (gp_c (tw_822) (gp_c (tw_1091) (gp_c (tw_1092) (gp_c (tw_1093) (gp_c (tw_1094) (gp_c (tw_1096) (gp_c (gq_40) (gp_c (tw_1097) (gp_c (tw_816) (gp_c (tw_797) (gp_c (tw_817) (gp_n))))))))))))))))))))))))) (by decide +kernel)
set_option maxRecDepth 20000 in
theorem gr_X9_restore_r3 : GoodIn lw_tbl wsX9_restore_r3 := gp_s (gp_c (tw_1007) (gp_c (tw_1009) (gp_c (gq_30) (gp_c (tw_1010) (gp_c (tw_798) (gp_c (tw_801) (gp_c (tw_804) (gp_c (tw_795) (gp_c (tw_796) (gp_c (tw_986) (gp_c (tw_988) (gp_c (gq_27) (gp_c (tw_989) (gp_c (tw_1042) (gp_c (tw_1044) (gp_c (gq_31) (gp_c (tw_1045) (gp_c (tw_787) (gp_c (tw_1046) (gp_c (tw_1048) (gp_c (gq_32) (gp_c (tw_1049) (gp_c (tw_788) (gp_c (tw_789) (gp_n))))))))))))))))))))))))) (by decide +kernel)
set_option maxRecDepth 20000 in
theorem gr_X9_restore_r4 : GoodIn lw_tbl wsX9_restore_r4 := gp_s (gp_c (tw_790) (gp_c (tw_791) (gp_c (tw_1054) (gp_c (tw_1050) (gp_c (tw_1052) (gp_c (gq_33) (gp_c (tw_1053) (gp_n)))))))) (by decide +kernel)
set_option maxRecDepth 20000 in
theorem ggT_X9_restore : GoodIn lw_tbl wsX9_restore := goodIn_cons (gp_s (gp_c (tw_1086) (gp_n)) (by decide +kernel)) (goodIn_app (goodIn_app gr_X9_restore_r1 (goodIn_app gr_X9_restore_r2 (goodIn_app gr_X9_restore_r3 gr_X9_restore_r4))) gwX90)
set_option maxRecDepth 20000 in
theorem gT_X9_restore : GoodIn lw_tbl (wsV RL 124 RX9 yX9_restore wsX9_restore) := goodIn_app (gp_s (gp_c (gt_5 _ (gp_64 (gp_4 (gp_4 (gp_4 (gp_1 (gp_1 (gp_1 gp_h)))))))) (gp_c (gt_5 _ (gp_64 (gp_16 gp_h))) (gp_c (gt_5 _ (gp_64 (gp_16 (gp_1 gp_h)))) (gp_c (tw_51) (gp_n))))) (by decide +kernel)) ggT_X9_restore
set_option maxRecDepth 20000 in
theorem tw_179 : (Cond.fieldLink RX8 258 "StateRecords$Fault" "check" "I") ∈ lw_tbl := gt_1 _ (gp_64 (gp_64 (gp_4 (gp_1 (gp_1 (gp_1 gp_h))))))
set_option maxRecDepth 20000 in
theorem tw_177 : (Cond.fieldLink RX8 255 "StateRecords$Fault" "name" "I") ∈ lw_tbl := gt_1 _ (gp_64 (gp_64 (gp_4 (gp_1 gp_h))))
set_option maxRecDepth 20000 in
theorem tw_175 : (Cond.fieldLink RX8 252 "StateRecords$Fault" "record" "I") ∈ lw_tbl := gt_1 _ (gp_64 (gp_64 (gp_1 (gp_1 (gp_1 gp_h)))))
set_option maxRecDepth 20000 in
theorem tw_173 : (Cond.fieldLink RX8 248 "StateRecords$Fault" "isTold" "Z") ∈ lw_tbl := gt_1 _ (gp_64 (gp_64 (gp_1 gp_h)))
set_option maxRecDepth 20000 in
theorem tw_601 : (Cond.code yX8_fault cX8_fault 2 ( some .int )) ∈ lw_tbl := gt_3 _ (gp_64 (gp_4 (gp_4 (gp_4 (gp_1 gp_h)))))
set_option maxRecDepth 20000 in
theorem ggT_X8_fault : GoodIn lw_tbl wsX8_fault := goodIn_cons (gp_s (gp_c (tw_601) (gp_n)) (by decide +kernel)) (goodIn_app (goodIn_app (gp_s (gp_c (tw_227) (gp_c (tw_173) (gp_c (tw_175) (gp_c (tw_177) (gp_c (tw_179) (gp_n)))))) (by decide +kernel)) gwX80) gwX10)
set_option maxRecDepth 20000 in
theorem gT_X8_fault : GoodIn lw_tbl (wsV RL 125 RX8 yX8_fault wsX8_fault) := goodIn_app (gp_s (gp_c (gt_3 _ (gp_64 (gp_4 (gp_4 (gp_1 (gp_1 gp_h)))))) (gp_c (gt_3 _ (gp_64 (gp_4 (gp_4 (gp_1 (gp_1 (gp_1 gp_h))))))) (gp_c (gt_3 _ (gp_64 (gp_4 (gp_4 (gp_4 gp_h))))) (gp_c (tw_45) (gp_n))))) (by decide +kernel)) ggT_X8_fault
set_option maxRecDepth 20000 in
theorem tw_1101 : (Cond.code yX9_fault cX9_fault 2 ( some .int )) ∈ lw_tbl := gt_5 _ (gp_64 (gp_16 (gp_16 (gp_1 gp_h))))
set_option maxRecDepth 20000 in
theorem ggT_X9_fault : GoodIn lw_tbl wsX9_fault := goodIn_cons (gp_s (gp_c (tw_1101) (gp_n)) (by decide +kernel)) (goodIn_app (gp_s (gp_c (tw_779) (gp_c (tw_820) (gp_c (tw_821) (gp_c (tw_822) (gp_n))))) (by decide +kernel)) gwX90)
set_option maxRecDepth 20000 in
theorem gT_X9_fault : GoodIn lw_tbl (wsV RL 128 RX9 yX9_fault wsX9_fault) := goodIn_app (gp_s (gp_c (gt_5 _ (gp_64 (gp_16 (gp_4 (gp_4 (gp_4 (gp_1 (gp_1 gp_h)))))))) (gp_c (gt_5 _ (gp_64 (gp_16 (gp_4 (gp_4 (gp_4 (gp_1 (gp_1 (gp_1 gp_h))))))))) (gp_c (gt_5 _ (gp_64 (gp_16 (gp_16 gp_h)))) (gp_c (tw_51) (gp_n))))) (by decide +kernel)) ggT_X9_fault
set_option maxRecDepth 20000 in
theorem tw_608 : (Cond.code yX8_firstDifference cX8_firstDifference 6 ( some .int )) ∈ lw_tbl := gt_3 _ (gp_64 (gp_16 (gp_4 gp_h)))
set_option maxRecDepth 20000 in
theorem tw_607 : (Cond.static yX8_firstDifference) ∈ lw_tbl := gt_3 _ (gp_64 (gp_16 (gp_1 (gp_1 (gp_1 gp_h)))))
set_option maxRecDepth 20000 in
theorem tw_606 : (Cond.methodLink RX8 261 yX8_firstDifference) ∈ lw_tbl := gt_3 _ (gp_64 (gp_16 (gp_1 (gp_1 gp_h))))
set_option maxRecDepth 20000 in
theorem tw_625 : (Cond.code yX4_hasItemsOf cX4_hasItemsOf 4 ( some .boolean )) ∈ lw_tbl := gt_3 _ (gp_64 (gp_16 (gp_16 (gp_4 (gp_1 gp_h)))))
set_option maxRecDepth 20000 in
theorem tw_624 : (Cond.selects RX4 yX4_hasItemsOf yX4_hasItemsOf) ∈ lw_tbl := gt_3 _ (gp_64 (gp_16 (gp_16 (gp_4 gp_h))))
set_option maxRecDepth 20000 in
theorem tw_623 : (Cond.instanceMethod yX4_hasItemsOf) ∈ lw_tbl := gt_3 _ (gp_64 (gp_16 (gp_16 (gp_1 (gp_1 (gp_1 gp_h))))))
set_option maxRecDepth 20000 in
theorem tw_622 : (Cond.methodLink RX4 56 yX4_hasItemsOf) ∈ lw_tbl := gt_3 _ (gp_64 (gp_16 (gp_16 (gp_1 (gp_1 gp_h)))))
set_option maxRecDepth 20000 in
theorem tw_621 : (Cond.constantLong RX4 54 ( -1 )) ∈ lw_tbl := gt_3 _ (gp_64 (gp_16 (gp_16 (gp_1 gp_h))))
set_option maxRecDepth 20000 in
theorem tw_619 : (Cond.code yX4_hasValueOf cX4_hasValueOf 5 ( some .boolean )) ∈ lw_tbl := gt_3 _ (gp_64 (gp_16 (gp_4 (gp_4 (gp_4 (gp_1 (gp_1 (gp_1 gp_h))))))))
set_option maxRecDepth 20000 in
theorem tw_618 : (Cond.selects RX4 yX4_hasValueOf yX4_hasValueOf) ∈ lw_tbl := gt_3 _ (gp_64 (gp_16 (gp_4 (gp_4 (gp_4 (gp_1 (gp_1 gp_h)))))))
set_option maxRecDepth 20000 in
theorem tw_617 : (Cond.instanceMethod yX4_hasValueOf) ∈ lw_tbl := gt_3 _ (gp_64 (gp_16 (gp_4 (gp_4 (gp_4 (gp_1 gp_h))))))
set_option maxRecDepth 20000 in
theorem tw_616 : (Cond.methodLink RX8 361 yX4_hasValueOf) ∈ lw_tbl := gt_3 _ (gp_64 (gp_16 (gp_4 (gp_4 (gp_4 gp_h)))))
set_option maxRecDepth 20000 in
theorem tw_81 : (Cond.fieldLink RX4 47 "StateRecords$Records" "recordCount" "I") ∈ lw_tbl := gt_1 _ (gp_16 (gp_16 (gp_4 (gp_1 gp_h))))
set_option maxRecDepth 20000 in
theorem tw_615 : (Cond.code yX4_hasShapeOf cX4_hasShapeOf 5 ( some .boolean )) ∈ lw_tbl := gt_3 _ (gp_64 (gp_16 (gp_4 (gp_4 (gp_1 (gp_1 (gp_1 gp_h)))))))
set_option maxRecDepth 20000 in
theorem tw_614 : (Cond.selects RX4 yX4_hasShapeOf yX4_hasShapeOf) ∈ lw_tbl := gt_3 _ (gp_64 (gp_16 (gp_4 (gp_4 (gp_1 (gp_1 gp_h))))))
set_option maxRecDepth 20000 in
theorem tw_613 : (Cond.instanceMethod yX4_hasShapeOf) ∈ lw_tbl := gt_3 _ (gp_64 (gp_16 (gp_4 (gp_4 (gp_1 gp_h)))))
set_option maxRecDepth 20000 in
theorem tw_612 : (Cond.methodLink RX8 357 yX4_hasShapeOf) ∈ lw_tbl := gt_3 _ (gp_64 (gp_16 (gp_4 (gp_4 gp_h))))
set_option maxRecDepth 20000 in
theorem tw_611 : (Cond.code Lib.Math.max.name Lib.Math.max.code 2 ( some .int )) ∈ lw_tbl := gt_3 _ (gp_64 (gp_16 (gp_4 (gp_1 (gp_1 (gp_1 gp_h))))))
set_option maxRecDepth 20000 in
theorem tw_61 : (Cond.initialized "java/lang/Math") ∈ lw_tbl := gt_1 _ (gp_16 (gp_1 gp_h))
set_option maxRecDepth 20000 in
theorem tw_610 : (Cond.static Lib.Math.max.name) ∈ lw_tbl := gt_3 _ (gp_64 (gp_16 (gp_4 (gp_1 (gp_1 gp_h)))))
set_option maxRecDepth 20000 in
theorem tw_609 : (Cond.methodLink RX8 351 Lib.Math.max.name) ∈ lw_tbl := gt_3 _ (gp_64 (gp_16 (gp_4 (gp_1 gp_h))))
set_option maxRecDepth 20000 in
theorem tw_605 : (Cond.code yX8_like cX8_like 5 ( some .int )) ∈ lw_tbl := gt_3 _ (gp_64 (gp_16 (gp_1 gp_h)))
set_option maxRecDepth 20000 in
theorem gr_X8_like_r1 : GoodIn lw_tbl wsX8_like_r1 := gp_s (gp_c (tw_222) (gp_c (tw_223) (gp_c (tw_394) (gp_c (tw_396) (gp_c (gq_2) (gp_c (tw_45) (gp_c (tw_397) (gp_c (tw_219) (gp_c (tw_218) (gp_c (tw_525) (gp_c (tw_527) (gp_c (gq_11) (gp_c (tw_528) (gp_c (tw_82) (gp_c (tw_94) (gp_c (tw_224) (gp_c (tw_529) (gp_c (tw_531) (gp_c (gq_12) (gp_c (tw_532) (gp_c (tw_533) (gp_c (tw_534) (gp_c (tw_535) (gp_c (tw_50) (gp_n))))))))))))))))))))))))) (by decide +kernel)
set_option maxRecDepth 20000 in
theorem gr_X8_like_r2 : GoodIn lw_tbl wsX8_like_r2 := gp_s (gp_c (tw_536) (gp_c (tw_205) (gp_c (tw_195) (gp_c (tw_267) (gp_c (tw_201) (gp_c (tw_445) (gp_c (tw_537) (gp_c (tw_539) (gp_c (gq_13) (gp_c (tw_540) (gp_c (tw_206) (gp_c (tw_84) (gp_c (tw_196) (gp_c (tw_265) (gp_c (tw_86) (gp_c (tw_268) (gp_c (tw_541) (gp_c (tw_543) (gp_c (gq_14) (gp_c (tw_544) (gp_c (tw_88) (gp_c (tw_270) (gp_c (tw_90) (gp_c (tw_272) (gp_n))))))))))))))))))))))))) (by decide +kernel)
set_option maxRecDepth 20000 in
theorem gr_X8_like_r3 : GoodIn lw_tbl wsX8_like_r3 := gp_s (gp_c (tw_92) (gp_c (tw_545) (gp_c (tw_547) (gp_c (gq_15) (gp_c (tw_548) (gp_c (tw_204) (gp_c (tw_312) (gp_c (tw_200) (gp_c (tw_431) (gp_c (tw_432) (gp_c (tw_433) (gp_c (tw_549) (gp_c (tw_550) (gp_c (tw_551) (gp_c (tw_46) (gp_c (tw_552) (gp_c (tw_444) (gp_c (tw_93) (gp_c (tw_95) (gp_c (tw_440) (gp_c (tw_96) (gp_c (tw_606) (gp_c (tw_607) (gp_c (tw_608) (gp_n))))))))))))))))))))))))) (by decide +kernel)
set_option maxRecDepth 20000 in
theorem gr_X8_like_r4 : GoodIn lw_tbl wsX8_like_r4 := gp_s (gp_c (tw_609) (gp_c (tw_610) (gp_c (tw_61) (gp_c (tw_611) (gp_c (tw_612) (gp_c (tw_613) (gp_c (tw_614) (gp_c (tw_615) (gp_c (tw_81) (gp_c (tw_83) (gp_c (tw_85) (gp_c (tw_87) (gp_c (tw_89) (gp_c (tw_616) (gp_c (tw_617) (gp_c (tw_618) (gp_c (tw_619) (gp_c (tw_91) (gp_c (tw_621) (gp_c (tw_622) (gp_c (tw_623) (gp_c (tw_624) (gp_c (tw_625) (gp_n)))))))))))))))))))))))) (by decide +kernel)
set_option maxRecDepth 20000 in
theorem ggT_X8_like : GoodIn lw_tbl wsX8_like := goodIn_cons (gp_s (gp_c (tw_605) (gp_n)) (by decide +kernel)) (goodIn_app (goodIn_app (goodIn_app (goodIn_app (goodIn_app (goodIn_app gr_X8_like_r1 (goodIn_app gr_X8_like_r2 (goodIn_app gr_X8_like_r3 gr_X8_like_r4))) gwX80) gwX40) gwX60) gwX70) gwX50)
set_option maxRecDepth 20000 in
theorem gT_X8_like : GoodIn lw_tbl (wsV RL 129 RX8 yX8_like wsX8_like) := goodIn_app (gp_s (gp_c (gt_3 _ (gp_64 (gp_4 (gp_4 (gp_4 (gp_1 (gp_1 gp_h))))))) (gp_c (gt_3 _ (gp_64 (gp_4 (gp_4 (gp_4 (gp_1 (gp_1 (gp_1 gp_h)))))))) (gp_c (gt_3 _ (gp_64 (gp_16 gp_h))) (gp_c (tw_45) (gp_n))))) (by decide +kernel)) ggT_X8_like
set_option maxRecDepth 20000 in
theorem tw_1109 : (Cond.code yX9_meets cX9_meets 3 ( some .boolean )) ∈ lw_tbl := gt_5 _ (gp_64 (gp_16 (gp_16 (gp_4 (gp_4 (gp_1 gp_h))))))
set_option maxRecDepth 20000 in
theorem tw_1108 : (Cond.instanceMethod yX9_meets) ∈ lw_tbl := gt_5 _ (gp_64 (gp_16 (gp_16 (gp_4 (gp_4 gp_h)))))
set_option maxRecDepth 20000 in
theorem tw_1106 : (Cond.methodLink RX9 243 yX9_meets) ∈ lw_tbl := gt_5 _ (gp_64 (gp_16 (gp_16 (gp_4 (gp_1 (gp_1 gp_h))))))
set_option maxRecDepth 20000 in
theorem tw_829 : (Cond.fieldLink RX9 240 "StateRecordsModel" "queued" "I") ∈ lw_tbl := gt_4 _ (gp_64 (gp_1 gp_h))
set_option maxRecDepth 20000 in
theorem tw_1113 : (Cond.code yX9_rowsMeet cX9_rowsMeet 5 ( some .boolean )) ∈ lw_tbl := gt_5 _ (gp_64 (gp_16 (gp_16 (gp_4 (gp_4 (gp_4 (gp_1 gp_h)))))))
set_option maxRecDepth 20000 in
theorem tw_1112 : (Cond.instanceMethod yX9_rowsMeet) ∈ lw_tbl := gt_5 _ (gp_64 (gp_16 (gp_16 (gp_4 (gp_4 (gp_4 gp_h))))))
set_option maxRecDepth 20000 in
theorem tw_1110 : (Cond.methodLink RX9 246 yX9_rowsMeet) ∈ lw_tbl := gt_5 _ (gp_64 (gp_16 (gp_16 (gp_4 (gp_4 (gp_1 (gp_1 gp_h)))))))
set_option maxRecDepth 20000 in
theorem tw_1105 : (Cond.code yX9_like cX9_like 12 ( some .int )) ∈ lw_tbl := gt_5 _ (gp_64 (gp_16 (gp_16 (gp_4 (gp_1 gp_h)))))
set_option maxRecDepth 20000 in
theorem gr_X9_like_r1 : GoodIn lw_tbl wsX9_like_r1 := gp_s (gp_c (tw_779) (gp_c (tw_824) (gp_c (tw_825) (gp_c (tw_826) (gp_c (tw_827) (gp_c (tw_829) (gp_c (tw_828) (gp_c (tw_793) (gp_c (tw_782) (gp_c (tw_794) (gp_c (tw_982) (gp_c (tw_984) (gp_c (gq_26) (gp_c (tw_51) (gp_c (tw_985) (gp_c (tw_792) (gp_c (tw_1106) (gp_c (tw_1108) (gp_c (gq_41) (gp_c (tw_1109) (gp_c (tw_986) (gp_c (tw_988) (gp_c (gq_27) (gp_c (tw_989) (gp_n))))))))))))))))))))))))) (by decide +kernel)
set_option maxRecDepth 20000 in
theorem gr_X9_like_r2 : GoodIn lw_tbl wsX9_like_r2 := gp_s (gp_c (tw_784) (gp_c (tw_1110) (gp_c (tw_1112) (gp_c (gq_42) (gp_c (tw_1113) (gp_c (tw_796) (gp_c (tw_797) (gp_n)))))))) (by decide +kernel)
set_option maxRecDepth 20000 in
theorem ggT_X9_like : GoodIn lw_tbl wsX9_like := goodIn_cons (gp_s (gp_c (tw_1105) (gp_n)) (by decide +kernel)) (goodIn_app (goodIn_app gr_X9_like_r1 gr_X9_like_r2) gwX90)
set_option maxRecDepth 20000 in
theorem gT_X9_like : GoodIn lw_tbl (wsV RL 132 RX9 yX9_like wsX9_like) := goodIn_app (gp_s (gp_c (gt_5 _ (gp_64 (gp_16 (gp_16 (gp_1 (gp_1 gp_h)))))) (gp_c (gt_5 _ (gp_64 (gp_16 (gp_16 (gp_1 (gp_1 (gp_1 gp_h))))))) (gp_c (gt_5 _ (gp_64 (gp_16 (gp_16 (gp_4 gp_h))))) (gp_c (tw_51) (gp_n))))) (by decide +kernel)) ggT_X9_like
set_option maxRecDepth 20000 in
theorem tw_629 : (Cond.code yX8_differs cX8_differs 4 ( some .int )) ∈ lw_tbl := gt_3 _ (gp_64 (gp_16 (gp_16 (gp_4 (gp_4 (gp_1 gp_h))))))
set_option maxRecDepth 20000 in
theorem gr_X8_differs_r1 : GoodIn lw_tbl wsX8_differs_r1 := gp_s (gp_c (tw_221) (gp_c (tw_82) (gp_c (tw_222) (gp_c (tw_394) (gp_c (tw_396) (gp_c (gq_2) (gp_c (tw_45) (gp_c (tw_397) (gp_c (tw_219) (gp_c (tw_218) (gp_c (tw_305) (gp_c (tw_306) (gp_c (tw_307) (gp_c (tw_525) (gp_c (tw_527) (gp_c (gq_11) (gp_c (tw_528) (gp_c (tw_94) (gp_c (tw_224) (gp_c (tw_529) (gp_c (tw_531) (gp_c (gq_12) (gp_c (tw_532) (gp_c (tw_533) (gp_n))))))))))))))))))))))))) (by decide +kernel)
set_option maxRecDepth 20000 in
theorem gr_X8_differs_r2 : GoodIn lw_tbl wsX8_differs_r2 := gp_s (gp_c (tw_534) (gp_c (tw_535) (gp_c (tw_50) (gp_c (tw_536) (gp_c (tw_205) (gp_c (tw_195) (gp_c (tw_267) (gp_c (tw_201) (gp_c (tw_445) (gp_c (tw_537) (gp_c (tw_539) (gp_c (gq_13) (gp_c (tw_540) (gp_c (tw_206) (gp_c (tw_84) (gp_c (tw_196) (gp_c (tw_265) (gp_c (tw_86) (gp_c (tw_268) (gp_c (tw_541) (gp_c (tw_543) (gp_c (gq_14) (gp_c (tw_544) (gp_c (tw_88) (gp_n))))))))))))))))))))))))) (by decide +kernel)
set_option maxRecDepth 20000 in
theorem gr_X8_differs_r3 : GoodIn lw_tbl wsX8_differs_r3 := gp_s (gp_c (tw_270) (gp_c (tw_90) (gp_c (tw_272) (gp_c (tw_92) (gp_c (tw_545) (gp_c (tw_547) (gp_c (gq_15) (gp_c (tw_548) (gp_c (tw_204) (gp_c (tw_312) (gp_c (tw_200) (gp_c (tw_431) (gp_c (tw_432) (gp_c (tw_433) (gp_c (tw_549) (gp_c (tw_550) (gp_c (tw_551) (gp_c (tw_46) (gp_c (tw_552) (gp_c (tw_444) (gp_c (tw_93) (gp_c (tw_95) (gp_c (tw_440) (gp_c (tw_96) (gp_n))))))))))))))))))))))))) (by decide +kernel)
set_option maxRecDepth 20000 in
theorem gr_X8_differs_r4 : GoodIn lw_tbl wsX8_differs_r4 := gp_s (gp_c (tw_606) (gp_c (tw_607) (gp_c (tw_608) (gp_c (tw_609) (gp_c (tw_610) (gp_c (tw_61) (gp_c (tw_611) (gp_c (tw_612) (gp_c (tw_613) (gp_c (tw_614) (gp_c (tw_615) (gp_c (tw_81) (gp_c (tw_83) (gp_c (tw_85) (gp_c (tw_87) (gp_c (tw_89) (gp_c (tw_616) (gp_c (tw_617) (gp_c (tw_618) (gp_c (tw_619) (gp_c (tw_91) (gp_c (tw_621) (gp_c (tw_622) (gp_c (tw_623) (gp_n))))))))))))))))))))))))) (by decide +kernel)
set_option maxRecDepth 20000 in
theorem gr_X8_differs_r5 : GoodIn lw_tbl wsX8_differs_r5 := gp_s (gp_c (tw_624) (gp_c (tw_625) (gp_n))) (by decide +kernel)
set_option maxRecDepth 20000 in
theorem ggT_X8_differs : GoodIn lw_tbl wsX8_differs := goodIn_cons (gp_s (gp_c (tw_629) (gp_n)) (by decide +kernel)) (goodIn_app (goodIn_app (goodIn_app (goodIn_app (goodIn_app (goodIn_app gr_X8_differs_r1 (goodIn_app gr_X8_differs_r2 (goodIn_app gr_X8_differs_r3 (goodIn_app gr_X8_differs_r4 gr_X8_differs_r5)))) gwX80) gwX40) gwX60) gwX70) gwX50)
set_option maxRecDepth 20000 in
theorem gT_X8_differs : GoodIn lw_tbl (wsV RL 133 RX8 yX8_differs wsX8_differs) := goodIn_app (gp_s (gp_c (gt_3 _ (gp_64 (gp_16 (gp_16 (gp_4 (gp_1 (gp_1 gp_h))))))) (gp_c (gt_3 _ (gp_64 (gp_16 (gp_16 (gp_4 (gp_1 (gp_1 (gp_1 gp_h)))))))) (gp_c (gt_3 _ (gp_64 (gp_16 (gp_16 (gp_4 (gp_4 gp_h)))))) (gp_c (tw_45) (gp_n))))) (by decide +kernel)) ggT_X8_differs
set_option maxRecDepth 20000 in
theorem tw_1121 : (Cond.code yX9_rowsDiffer cX9_rowsDiffer 5 ( some .boolean )) ∈ lw_tbl := gt_5 _ (gp_64 (gp_16 (gp_16 (gp_16 (gp_4 (gp_1 gp_h))))))
set_option maxRecDepth 20000 in
theorem tw_1120 : (Cond.instanceMethod yX9_rowsDiffer) ∈ lw_tbl := gt_5 _ (gp_64 (gp_16 (gp_16 (gp_16 (gp_4 gp_h)))))
set_option maxRecDepth 20000 in
theorem tw_1118 : (Cond.methodLink RX9 249 yX9_rowsDiffer) ∈ lw_tbl := gt_5 _ (gp_64 (gp_16 (gp_16 (gp_16 (gp_1 (gp_1 gp_h))))))
set_option maxRecDepth 20000 in
theorem tw_1117 : (Cond.code yX9_differs cX9_differs 12 ( some .int )) ∈ lw_tbl := gt_5 _ (gp_64 (gp_16 (gp_16 (gp_16 (gp_1 gp_h)))))
set_option maxRecDepth 20000 in
theorem gr_X9_differs_r1 : GoodIn lw_tbl wsX9_differs_r1 := gp_s (gp_c (tw_779) (gp_c (tw_808) (gp_c (tw_809) (gp_c (tw_810) (gp_c (tw_811) (gp_c (tw_812) (gp_c (tw_813) (gp_c (tw_1059) (gp_c (tw_1061) (gp_c (gq_34) (gp_c (tw_51) (gp_c (tw_1062) (gp_c (tw_982) (gp_c (tw_984) (gp_c (gq_26) (gp_c (tw_985) (gp_c (tw_792) (gp_c (tw_1063) (gp_c (tw_1065) (gp_c (gq_35) (gp_c (tw_1066) (gp_c (tw_814) (gp_c (tw_818) (gp_c (tw_793) (gp_n))))))))))))))))))))))))) (by decide +kernel)
set_option maxRecDepth 20000 in
theorem gr_X9_differs_r2 : GoodIn lw_tbl wsX9_differs_r2 := gp_s (gp_c (tw_782) (gp_c (tw_786) (gp_c (tw_783) (gp_c (tw_794) (gp_c (tw_784) (gp_c (tw_1067) (gp_c (tw_1069) (gp_c (gq_36) (gp_c (tw_1070) (gp_c (tw_1071) (gp_c (tw_1073) (gp_c (gq_37) (gp_c (tw_1074) (gp_c (tw_820) (gp_c (tw_821) (gp_c (tw_822) (gp_c (tw_1075) (gp_c (tw_1077) (gp_c (gq_38) (gp_c (tw_1078) (gp_c (tw_819) (gp_c (tw_815) (gp_c (tw_795) (gp_c (tw_816) (gp_n))))))))))))))))))))))))) (by decide +kernel)
set_option maxRecDepth 20000 in
theorem gr_X9_differs_r3 : GoodIn lw_tbl wsX9_differs_r3 := gp_s (gp_c (tw_796) (gp_c (tw_817) (gp_c (tw_797) (gp_c (tw_1118) (gp_c (tw_1120) (gp_c (gq_43) (gp_c (tw_1121) (gp_n)))))))) (by decide +kernel)
set_option maxRecDepth 20000 in
theorem ggT_X9_differs : GoodIn lw_tbl wsX9_differs := goodIn_cons (gp_s (gp_c (tw_1117) (gp_n)) (by decide +kernel)) (goodIn_app (goodIn_app gr_X9_differs_r1 (goodIn_app gr_X9_differs_r2 gr_X9_differs_r3)) gwX90)
set_option maxRecDepth 20000 in
theorem gT_X9_differs : GoodIn lw_tbl (wsV RL 136 RX9 yX9_differs wsX9_differs) := goodIn_app (gp_s (gp_c (gt_5 _ (gp_64 (gp_16 (gp_16 (gp_4 (gp_4 (gp_4 (gp_1 (gp_1 gp_h))))))))) (gp_c (gt_5 _ (gp_64 (gp_16 (gp_16 (gp_4 (gp_4 (gp_4 (gp_1 (gp_1 (gp_1 gp_h)))))))))) (gp_c (gt_5 _ (gp_64 (gp_16 (gp_16 (gp_16 gp_h))))) (gp_c (tw_51) (gp_n))))) (by decide +kernel)) ggT_X9_differs
set_option maxRecDepth 20000 in
theorem tw_637 : (Cond.code yX2_addMark cX2_addMark 1 none) ∈ lw_tbl := gt_3 _ (gp_64 (gp_16 (gp_16 (gp_16 (gp_1 gp_h)))))
set_option maxRecDepth 20000 in
theorem tw_636 : (Cond.selects RX2 yX2_addMark yX2_addMark) ∈ lw_tbl := gt_3 _ (gp_64 (gp_16 (gp_16 (gp_16 gp_h))))
set_option maxRecDepth 20000 in
theorem tw_635 : (Cond.instanceMethod yX2_addMark) ∈ lw_tbl := gt_3 _ (gp_64 (gp_16 (gp_16 (gp_4 (gp_4 (gp_4 (gp_1 (gp_1 (gp_1 gp_h)))))))))
set_option maxRecDepth 20000 in
theorem tw_634 : (Cond.methodLink RX8 265 yX2_addMark) ∈ lw_tbl := gt_3 _ (gp_64 (gp_16 (gp_16 (gp_4 (gp_4 (gp_4 (gp_1 (gp_1 gp_h))))))))
set_option maxRecDepth 20000 in
theorem tw_633 : (Cond.code yX8_mark cX8_mark 1 ( some .int )) ∈ lw_tbl := gt_3 _ (gp_64 (gp_16 (gp_16 (gp_4 (gp_4 (gp_4 (gp_1 gp_h)))))))
set_option maxRecDepth 20000 in
theorem ggT_X8_mark : GoodIn lw_tbl wsX8_mark := goodIn_cons (gp_s (gp_c (tw_633) (gp_n)) (by decide +kernel)) (goodIn_app (goodIn_app (gp_s (gp_c (tw_226) (gp_c (tw_155) (gp_c (tw_634) (gp_c (tw_635) (gp_c (tw_636) (gp_c (tw_47) (gp_c (tw_637) (gp_c (tw_154) (gp_c (tw_156) (gp_c (tw_152) (gp_n))))))))))) (by decide +kernel)) gwX80) gwX20)
set_option maxRecDepth 20000 in
theorem gT_X8_mark : GoodIn lw_tbl (wsV RL 137 RX8 yX8_mark wsX8_mark) := goodIn_app (gp_s (gp_c (gt_3 _ (gp_64 (gp_16 (gp_16 (gp_4 (gp_4 (gp_1 (gp_1 gp_h)))))))) (gp_c (gt_3 _ (gp_64 (gp_16 (gp_16 (gp_4 (gp_4 (gp_1 (gp_1 (gp_1 gp_h))))))))) (gp_c (gt_3 _ (gp_64 (gp_16 (gp_16 (gp_4 (gp_4 (gp_4 gp_h))))))) (gp_c (tw_45) (gp_n))))) (by decide +kernel)) ggT_X8_mark
set_option maxRecDepth 20000 in
theorem tw_1125 : (Cond.code yX9_mark cX9_mark 1 ( some .int )) ∈ lw_tbl := gt_5 _ (gp_64 (gp_16 (gp_16 (gp_16 (gp_4 (gp_4 (gp_1 gp_h)))))))
set_option maxRecDepth 20000 in
theorem ggT_X9_mark : GoodIn lw_tbl wsX9_mark := goodIn_cons (gp_s (gp_c (tw_1125) (gp_n)) (by decide +kernel)) (goodIn_app (gp_s (gp_c (tw_779) (gp_c (tw_799) (gp_c (tw_800) (gp_c (tw_801) (gp_n))))) (by decide +kernel)) gwX90)
set_option maxRecDepth 20000 in
theorem gT_X9_mark : GoodIn lw_tbl (wsV RL 140 RX9 yX9_mark wsX9_mark) := goodIn_app (gp_s (gp_c (gt_5 _ (gp_64 (gp_16 (gp_16 (gp_16 (gp_4 (gp_1 (gp_1 gp_h)))))))) (gp_c (gt_5 _ (gp_64 (gp_16 (gp_16 (gp_16 (gp_4 (gp_1 (gp_1 (gp_1 gp_h))))))))) (gp_c (gt_5 _ (gp_64 (gp_16 (gp_16 (gp_16 (gp_4 (gp_4 gp_h))))))) (gp_c (tw_51) (gp_n))))) (by decide +kernel)) ggT_X9_mark
set_option maxRecDepth 20000 in
theorem tw_441 : (Cond.fieldLink RX3 35 "StateRecords$Row" "items" "[J") ∈ lw_tbl := gt_2 _ (gp_64 (gp_64 (gp_16 (gp_4 (gp_4 (gp_4 (gp_1 gp_h)))))))
set_option maxRecDepth 20000 in
theorem tw_140 : (Cond.fieldLink RX3 31 "StateRecords$Note" "row" "LStateRecords$Row;") ∈ lw_tbl := gt_1 _ (gp_64 (gp_16 (gp_16 gp_h)))
set_option maxRecDepth 20000 in
theorem tw_202 : (Cond.fieldLink RX3 27 "StateRecords$Thing" "rows" "[LStateRecords$Row;") ∈ lw_tbl := gt_1 _ (gp_64 (gp_64 (gp_16 (gp_4 (gp_4 (gp_4 (gp_1 (gp_1 gp_h))))))))
set_option maxRecDepth 20000 in
theorem tw_138 : (Cond.fieldLink RX3 23 "StateRecords$Note" "value" "J") ∈ lw_tbl := gt_1 _ (gp_64 (gp_16 (gp_4 (gp_4 (gp_4 (gp_1 (gp_1 gp_h)))))))
set_option maxRecDepth 20000 in
theorem tw_136 : (Cond.fieldLink RX3 19 "StateRecords$Note" "index" "I") ∈ lw_tbl := gt_1 _ (gp_64 (gp_16 (gp_4 (gp_4 (gp_4 gp_h)))))
set_option maxRecDepth 20000 in
theorem tw_198 : (Cond.fieldLink RX3 13 "StateRecords$Thing" "values" "[J") ∈ lw_tbl := gt_1 _ (gp_64 (gp_64 (gp_16 (gp_4 (gp_4 (gp_1 (gp_1 gp_h)))))))
set_option maxRecDepth 20000 in
theorem tw_134 : (Cond.fieldLink RX3 7 "StateRecords$Note" "thing" "LStateRecords$Thing;") ∈ lw_tbl := gt_1 _ (gp_64 (gp_16 (gp_4 (gp_4 (gp_1 (gp_1 gp_h))))))
set_option maxRecDepth 20000 in
theorem tw_649 : (Cond.code yX3_takeBack cX3_takeBack 1 none) ∈ lw_tbl := gt_3 _ (gp_64 (gp_16 (gp_16 (gp_16 (gp_4 (gp_4 (gp_4 (gp_1 gp_h))))))))
set_option maxRecDepth 20000 in
theorem tw_648 : (Cond.selects RX3 yX3_takeBack yX3_takeBack) ∈ lw_tbl := gt_3 _ (gp_64 (gp_16 (gp_16 (gp_16 (gp_4 (gp_4 (gp_4 gp_h)))))))
set_option maxRecDepth 20000 in
theorem tw_647 : (Cond.instanceMethod yX3_takeBack) ∈ lw_tbl := gt_3 _ (gp_64 (gp_16 (gp_16 (gp_16 (gp_4 (gp_4 (gp_1 (gp_1 (gp_1 gp_h)))))))))
set_option maxRecDepth 20000 in
theorem tw_646 : (Cond.methodLink RX2 67 yX3_takeBack) ∈ lw_tbl := gt_3 _ (gp_64 (gp_16 (gp_16 (gp_16 (gp_4 (gp_4 (gp_1 (gp_1 gp_h))))))))
set_option maxRecDepth 20000 in
theorem tw_645 : (Cond.code yX2_undoLatestMark cX2_undoLatestMark 4 ( some .int )) ∈ lw_tbl := gt_3 _ (gp_64 (gp_16 (gp_16 (gp_16 (gp_4 (gp_4 (gp_1 gp_h)))))))
set_option maxRecDepth 20000 in
theorem tw_644 : (Cond.selects RX2 yX2_undoLatestMark yX2_undoLatestMark) ∈ lw_tbl := gt_3 _ (gp_64 (gp_16 (gp_16 (gp_16 (gp_4 (gp_4 gp_h))))))
set_option maxRecDepth 20000 in
theorem tw_643 : (Cond.instanceMethod yX2_undoLatestMark) ∈ lw_tbl := gt_3 _ (gp_64 (gp_16 (gp_16 (gp_16 (gp_4 (gp_1 (gp_1 (gp_1 gp_h))))))))
set_option maxRecDepth 20000 in
theorem tw_642 : (Cond.methodLink RX8 268 yX2_undoLatestMark) ∈ lw_tbl := gt_3 _ (gp_64 (gp_16 (gp_16 (gp_16 (gp_4 (gp_1 (gp_1 gp_h)))))))
set_option maxRecDepth 20000 in
theorem tw_641 : (Cond.code yX8_undo cX8_undo 1 ( some .int )) ∈ lw_tbl := gt_3 _ (gp_64 (gp_16 (gp_16 (gp_16 (gp_4 (gp_1 gp_h))))))
set_option maxRecDepth 20000 in
theorem ggT_X8_undo : GoodIn lw_tbl wsX8_undo := goodIn_cons (gp_s (gp_c (tw_641) (gp_n)) (by decide +kernel)) (goodIn_app (goodIn_app (goodIn_app (goodIn_app (goodIn_app (gp_s (gp_c (tw_226) (gp_c (tw_155) (gp_c (tw_642) (gp_c (tw_643) (gp_c (tw_644) (gp_c (tw_47) (gp_c (tw_645) (gp_c (tw_156) (gp_c (tw_154) (gp_c (tw_152) (gp_c (tw_151) (gp_c (tw_646) (gp_c (tw_647) (gp_c (tw_648) (gp_c (tw_48) (gp_c (tw_649) (gp_c (tw_134) (gp_c (tw_198) (gp_c (tw_136) (gp_c (tw_138) (gp_c (tw_202) (gp_c (tw_140) (gp_c (tw_441) (gp_n)))))))))))))))))))))))) (by decide +kernel)) gwX80) gwX20) gwX30) gwX60) gwX50)
set_option maxRecDepth 20000 in
theorem gT_X8_undo : GoodIn lw_tbl (wsV RL 141 RX8 yX8_undo wsX8_undo) := goodIn_app (gp_s (gp_c (gt_3 _ (gp_64 (gp_16 (gp_16 (gp_16 (gp_1 (gp_1 gp_h))))))) (gp_c (gt_3 _ (gp_64 (gp_16 (gp_16 (gp_16 (gp_1 (gp_1 (gp_1 gp_h)))))))) (gp_c (gt_3 _ (gp_64 (gp_16 (gp_16 (gp_16 (gp_4 gp_h)))))) (gp_c (tw_45) (gp_n))))) (by decide +kernel)) ggT_X8_undo
set_option maxRecDepth 20000 in
theorem tw_1129 : (Cond.code yX9_undo cX9_undo 2 ( some .int )) ∈ lw_tbl := gt_5 _ (gp_64 (gp_16 (gp_16 (gp_16 (gp_4 (gp_4 (gp_4 (gp_1 gp_h))))))))
set_option maxRecDepth 20000 in
theorem ggT_X9_undo : GoodIn lw_tbl wsX9_undo := goodIn_cons (gp_s (gp_c (tw_1129) (gp_n)) (by decide +kernel)) (goodIn_app (gp_s (gp_c (tw_779) (gp_c (tw_799) (gp_c (tw_801) (gp_c (tw_800) (gp_c (tw_805) (gp_c (tw_794) (gp_c (tw_802) (gp_c (tw_803) (gp_c (tw_806) (gp_c (tw_797) (gp_c (tw_804) (gp_n)))))))))))) (by decide +kernel)) gwX90)
set_option maxRecDepth 20000 in
theorem gT_X9_undo : GoodIn lw_tbl (wsV RL 144 RX9 yX9_undo wsX9_undo) := goodIn_app (gp_s (gp_c (gt_5 _ (gp_64 (gp_16 (gp_16 (gp_16 (gp_4 (gp_4 (gp_1 (gp_1 gp_h))))))))) (gp_c (gt_5 _ (gp_64 (gp_16 (gp_16 (gp_16 (gp_4 (gp_4 (gp_1 (gp_1 (gp_1 gp_h)))))))))) (gp_c (gt_5 _ (gp_64 (gp_16 (gp_16 (gp_16 (gp_4 (gp_4 (gp_4 gp_h)))))))) (gp_c (tw_51) (gp_n))))) (by decide +kernel)) ggT_X9_undo
set_option maxRecDepth 20000 in
theorem tw_153 : (Cond.fieldLink RX8 272 "StateRecords$Journal" "noteCount" "I") ∈ lw_tbl := gt_1 _ (gp_64 (gp_16 (gp_16 (gp_4 (gp_4 (gp_4 (gp_1 gp_h)))))))
set_option maxRecDepth 20000 in
theorem tw_653 : (Cond.code yX8_count cX8_count 2 ( some .int )) ∈ lw_tbl := gt_3 _ (gp_64 (gp_64 (gp_1 gp_h)))
set_option maxRecDepth 20000 in
theorem ggT_X8_count : GoodIn lw_tbl wsX8_count := goodIn_cons (gp_s (gp_c (tw_653) (gp_n)) (by decide +kernel)) (goodIn_app (goodIn_app (gp_s (gp_c (tw_217) (gp_c (tw_219) (gp_c (tw_226) (gp_c (tw_155) (gp_c (tw_153) (gp_n)))))) (by decide +kernel)) gwX80) gwX20)
set_option maxRecDepth 20000 in
theorem gT_X8_count : GoodIn lw_tbl (wsV RL 145 RX8 yX8_count wsX8_count) := goodIn_app (gp_s (gp_c (gt_3 _ (gp_64 (gp_16 (gp_16 (gp_16 (gp_4 (gp_4 (gp_4 (gp_1 (gp_1 gp_h)))))))))) (gp_c (gt_3 _ (gp_64 (gp_16 (gp_16 (gp_16 (gp_4 (gp_4 (gp_4 (gp_1 (gp_1 (gp_1 gp_h))))))))))) (gp_c (gt_3 _ (gp_64 (gp_64 gp_h))) (gp_c (tw_45) (gp_n))))) (by decide +kernel)) ggT_X8_count
set_option maxRecDepth 20000 in
theorem tw_1133 : (Cond.code yX9_count cX9_count 2 ( some .int )) ∈ lw_tbl := gt_5 _ (gp_64 (gp_64 (gp_1 gp_h)))
set_option maxRecDepth 20000 in
theorem ggT_X9_count : GoodIn lw_tbl wsX9_count := goodIn_cons (gp_s (gp_c (tw_1133) (gp_n)) (by decide +kernel)) (goodIn_app (gp_s (gp_c (tw_779) (gp_c (tw_781) (gp_c (tw_792) (gp_c (tw_799) (gp_c (tw_801) (gp_n)))))) (by decide +kernel)) gwX90)
set_option maxRecDepth 20000 in
theorem gT_X9_count : GoodIn lw_tbl (wsV RL 148 RX9 yX9_count wsX9_count) := goodIn_app (gp_s (gp_c (gt_5 _ (gp_64 (gp_16 (gp_16 (gp_16 (gp_4 (gp_4 (gp_4 (gp_1 (gp_1 gp_h)))))))))) (gp_c (gt_5 _ (gp_64 (gp_16 (gp_16 (gp_16 (gp_4 (gp_4 (gp_4 (gp_1 (gp_1 (gp_1 gp_h))))))))))) (gp_c (gt_5 _ (gp_64 (gp_64 gp_h))) (gp_c (tw_51) (gp_n))))) (by decide +kernel)) ggT_X9_count
end
section
/-! what class and reference have in common: printed by wip/tools/law2.py -/
def rT (X : Nat → Int → Int → Int) : Prop := X 0 0 1 = X 40 0 2
def rM (X : Nat → Int → Int → Int) : Prop := X 29 0 3 = X 40 0 20
def rW (X : Nat → Int → Int → Int) : Prop := ∀ w, 0 ≤ w → w < 16 → X 3 0 w = 1 - X 42 0 w
def rC (X : Nat → Int → Int → Int) : Prop := ∀ t, 0 ≤ t → t < X 0 0 1 → X 19 t 6 = X 49 0 t
def rF (X : Nat → Int → Int → Int) : Prop := ∀ t, 0 ≤ t → t < X 0 0 1 → X 19 t 1 = X 44 0 t ∧ ∀ k, 0 ≤ k → k < X 19 t 1 → X 20 t k = X 45 0 (5 * t + k) ∧ X 21 t k = X 46 0 (5 * t + k) ∧ X 22 t k = X 47 0 (5 * t + k) ∧ X 23 t k = X 48 0 (5 * t + k)
section RX
variable {M N : List Nat} {X X1 X2 : Nat → Int → Int → Int}
theorem rT.frm (h : rT X) (hF : Frm M X X1) (hd : ∀ c ∈ [2, 4003], c ∉ M) : rT X1 := by unfold rT at *; rw [hF 0 0 1 (hd 2 (by decide)), hF 40 0 2 (hd 4003 (by decide))]; exact h
theorem rM.frm (h : rM X) (hF : Frm M X X1) (hd : ∀ c ∈ [2904, 4021], c ∉ M) : rM X1 := by unfold rM at *; rw [hF 29 0 3 (hd 2904 (by decide)), hF 40 0 20 (hd 4021 (by decide))]; exact h
theorem rW.frm (h : rW X) (hF : Frm M X X1) (hd : ∀ c ∈ [300, 4200], c ∉ M) : rW X1 := fun w g0 g1 => by rw [hF 3 0 w (hd 300 (by decide)), hF 42 0 w (hd 4200 (by decide))]; exact h w g0 g1
theorem rC.frm (h : rC X) (hF : Frm M X X1) (hd : ∀ c ∈ [2, 1907, 4900], c ∉ M) : rC X1 := fun t g0 g1 => by rw [hF 0 0 1 (hd 2 (by decide))] at g1; rw [hF 19 t 6 (hd 1907 (by decide)), hF 49 0 t (hd 4900 (by decide))]; exact h t g0 g1
theorem rF.frm (h : rF X) (hF : Frm M X X1) (hd : ∀ c ∈ [2, 1902, 2000, 2100, 2200, 2300, 4400, 4500, 4600, 4700, 4800], c ∉ M) : rF X1 := fun t g0 g1 => by
  rw [hF 0 0 1 (hd 2 (by decide))] at g1
  have h1 := h t g0 g1
  rw [hF 19 t 1 (hd 1902 (by decide)), hF 44 0 t (hd 4400 (by decide))]
  refine ⟨h1.1, fun k k0 k1 => ?_⟩
  rw [hF 20 t k (hd 2000 (by decide)), hF 21 t k (hd 2100 (by decide)), hF 22 t k (hd 2200 (by decide)), hF 23 t k (hd 2300 (by decide)), hF 45 0 _ (hd 4500 (by decide)), hF 46 0 _ (hd 4600 (by decide)), hF 47 0 _ (hd 4700 (by decide)), hF 48 0 _ (hd 4800 (by decide))]
  exact h1.2 k k0 k1
theorem rM_mark {z z2 : Int} (h : rM X) (hF : Frm [2904, 3100] X X1) (p : (4 ≤ X 29 0 3 ∧ z = -4 ∧ X1 29 0 3 = X 29 0 3) ∨ (X 29 0 3 < 4 ∧ z = X 29 0 3 + 1 ∧ X1 29 0 3 = X 29 0 3 + 1)) (hG : Frm [4001, 6200, 4021] X1 X2) (q : (X1 40 0 20 = 4 ∧ z2 = -4 ∧ X2 40 0 20 = X1 40 0 20) ∨ (X1 40 0 20 < 4 ∧ z2 = X1 40 0 20 + 1 ∧ X2 40 0 20 = X1 40 0 20 + 1)) (hR : Rng X) : rM X2 ∧ z = z2 := by
  unfold rM at *
  have a := hF 40 0 20 (show 4021 ∉ _ by decide)
  have b := hG 29 0 3 (show 2904 ∉ _ by decide)
  have c : 0 ≤ X 29 0 3 ∧ X 29 0 3 ≤ 4 := hR 29 0 3
  omega
theorem rM_undo (h : rM X) (hF : Frm [2904, 2902, 1600, 2700] X X1) (p : (X 29 0 3 = 0 ∧ X1 29 0 3 = 0) ∨ (1 ≤ X 29 0 3 ∧ X1 29 0 3 = X 29 0 3 - 1)) (hG : Frm [4001, 4021, 4023, 5600, 5900] X1 X2) (q : (X1 40 0 20 = 0 ∧ X2 40 0 20 = 0) ∨ (1 ≤ X1 40 0 20 ∧ X2 40 0 20 = X1 40 0 20 - 1)) : rM X2 := by
  unfold rM at *
  have a := hF 40 0 20 (show 4021 ∉ _ by decide)
  have b := hG 29 0 3 (show 2904 ∉ _ by decide)
  omega
theorem rW_word {z z2 w on on2 : Int} (h : rW X) (hF : Frm [300] X X1) (p : (0 ≤ w ∧ w < 16 ∧ z = X 3 0 w ∧ X1 3 0 w = on) ∨ (¬ (0 ≤ w ∧ w < 16) ∧ z = -1 ∧ X1 3 0 w = X 3 0 w)) (p2 : ∀ y, y ≠ w → X1 3 0 y = X 3 0 y) (hG : Frm [4001, 4200] X1 X2) (q : (0 ≤ w ∧ w < 16 ∧ z2 = 1 - X1 42 0 w ∧ X2 42 0 w = 1 - on2) ∨ (¬ (0 ≤ w ∧ w < 16) ∧ z2 = -1 ∧ X2 42 0 w = X1 42 0 w)) (q2 : ∀ y, y ≠ w → X2 42 0 y = X1 42 0 y) (ho : on = on2) : rW X2 ∧ z = z2 := by
  have a : ∀ w, X1 42 0 w = X 42 0 w := fun w => hF 42 0 w (show 4200 ∉ _ by decide)
  have b : ∀ w, X2 3 0 w = X1 3 0 w := fun w => hG 3 0 w (show 300 ∉ _ by decide)
  have aw := a w
  refine ⟨fun y g0 g1 => ?_, ?_⟩
  · have h1 := h y g0 g1
    rw [b y]
    by_cases e : y = w
    · subst e
      omega
    · rw [p2 y e, q2 y e, a y]
      exact h1
  · rcases p with ⟨g0, g1, p3, -⟩ | ⟨g, p3, -⟩
    · have h1 := h w g0 g1
      omega
    · omega
theorem rC_unchecked {z z2 t : Int} (hT : rT X) (h : rC X) (hF : Frm [1907] X X1) (p : (0 ≤ t ∧ t < X 0 0 1 ∧ z = X 19 t 6 ∧ X1 19 t 6 = 0) ∨ (¬ (0 ≤ t ∧ t < X 0 0 1) ∧ z = -1 ∧ X1 19 t 6 = X 19 t 6)) (p2 : ∀ y, y ≠ t → X1 19 y 6 = X 19 y 6) (hG : Frm [4001, 4900] X1 X2) (q : (0 ≤ t ∧ t < X1 40 0 2 ∧ z2 = X1 49 0 t ∧ X2 49 0 t = 0) ∨ (¬ (0 ≤ t ∧ t < X1 40 0 2) ∧ z2 = -1 ∧ X2 49 0 t = X1 49 0 t)) (q2 : ∀ y, y ≠ t → X2 49 0 y = X1 49 0 y) (hR : Rng X) : rC X2 ∧ z = z2 := by
  unfold rT at hT
  have a : ∀ t, X1 49 0 t = X 49 0 t := fun t => hF 49 0 t (show 4900 ∉ _ by decide)
  have b : ∀ t, X2 19 t 6 = X1 19 t 6 := fun t => hG 19 t 6 (show 1907 ∉ _ by decide)
  have a2 := hF 40 0 2 (show 4003 ∉ _ by decide)
  have a1 := hF 0 0 1 (show 2 ∉ _ by decide)
  have b1 := hG 0 0 1 (show 2 ∉ _ by decide)
  have at9 := a t
  have c : 0 ≤ X 19 t 6 ∧ X 19 t 6 ≤ 4 := hR 19 t 6
  refine ⟨fun y g0 g1 => ?_, ?_⟩
  · have h1 := h y g0 (by omega)
    rw [b y]
    by_cases e : y = t
    · subst e
      omega
    · rw [p2 y e, q2 y e, a y]
      exact h1
  · by_cases g : 0 ≤ t ∧ t < X 0 0 1
    · have h1 := h t g.1 g.2
      omega
    · omega
theorem rC_check {z z2 t kd a b : Int} (hT : rT X) (h : rC X) (hF : Frm [2501, 2502, 2503, 2504, 1907] X X1) (p : ((¬ (0 ≤ t ∧ t < X 0 0 1) ∧ z = -1 ∧ X1 19 t 6 = X 19 t 6) ∨ (0 ≤ t ∧ t < X 0 0 1 ∧ ¬ (0 ≤ kd ∧ kd < 6 ∧ 0 ≤ a ∧ a < 5 ∧ 0 ≤ b ∧ b < 5) ∧ z = -2 ∧ X1 19 t 6 = X 19 t 6) ∨ (0 ≤ t ∧ t < X 0 0 1 ∧ (0 ≤ kd ∧ kd < 6 ∧ 0 ≤ a ∧ a < 5 ∧ 0 ≤ b ∧ b < 5) ∧ 4 ≤ X 19 t 6 ∧ z = -4 ∧ X1 19 t 6 = X 19 t 6) ∨ (0 ≤ t ∧ t < X 0 0 1 ∧ (0 ≤ kd ∧ kd < 6 ∧ 0 ≤ a ∧ a < 5 ∧ 0 ≤ b ∧ b < 5) ∧ X 19 t 6 ≤ 3 ∧ z = X 19 t 6 + 1 ∧ X1 19 t 6 = X 19 t 6 + 1))) (p2 : ∀ y, y ≠ t → X1 19 y 6 = X 19 y 6) (hG : Frm [4001, 5000, 5100, 5200, 5300, 4900] X1 X2) (q : ((¬ (0 ≤ t ∧ t < X1 40 0 2) ∧ z2 = -1 ∧ X2 49 0 t = X1 49 0 t) ∨ (0 ≤ t ∧ t < X1 40 0 2 ∧ ¬ (0 ≤ kd ∧ kd < 6 ∧ 0 ≤ a ∧ a < 5 ∧ 0 ≤ b ∧ b < 5) ∧ z2 = -2 ∧ X2 49 0 t = X1 49 0 t) ∨ (0 ≤ t ∧ t < X1 40 0 2 ∧ (0 ≤ kd ∧ kd < 6 ∧ 0 ≤ a ∧ a < 5 ∧ 0 ≤ b ∧ b < 5) ∧ 4 ≤ X1 49 0 t ∧ z2 = -4 ∧ X2 49 0 t = X1 49 0 t) ∨ (0 ≤ t ∧ t < X1 40 0 2 ∧ (0 ≤ kd ∧ kd < 6 ∧ 0 ≤ a ∧ a < 5 ∧ 0 ≤ b ∧ b < 5) ∧ X1 49 0 t ≤ 3 ∧ z2 = X1 49 0 t + 1 ∧ X2 49 0 t = X1 49 0 t + 1))) (q2 : ∀ y, y ≠ t → X2 49 0 y = X1 49 0 y) (hR : Rng X) : rC X2 ∧ z = z2 := by
  unfold rT at hT
  have a : ∀ t, X1 49 0 t = X 49 0 t := fun t => hF 49 0 t (show 4900 ∉ _ by decide)
  have b : ∀ t, X2 19 t 6 = X1 19 t 6 := fun t => hG 19 t 6 (show 1907 ∉ _ by decide)
  have a2 := hF 40 0 2 (show 4003 ∉ _ by decide)
  have a1 := hF 0 0 1 (show 2 ∉ _ by decide)
  have b1 := hG 0 0 1 (show 2 ∉ _ by decide)
  have at9 := a t
  have c : 0 ≤ X 19 t 6 ∧ X 19 t 6 ≤ 4 := hR 19 t 6
  refine ⟨fun y g0 g1 => ?_, ?_⟩
  · have h1 := h y g0 (by omega)
    rw [b y]
    by_cases e : y = t
    · subst e
      omega
    · rw [p2 y e, q2 y e, a y]
      exact h1
  · by_cases g : 0 ≤ t ∧ t < X 0 0 1
    · have h1 := h t g.1 g.2
      omega
    · omega
theorem r_type {z z2 : Int} (hT : rT X) (hC : rC X) (hf : rF X) (hF : Frm [1901, 1902, 1907, 2000, 2100, 2200, 2300, 2] X X1) (p : (8 ≤ X 0 0 1 ∧ z = -4 ∧ X1 0 0 1 = X 0 0 1) ∨ (X 0 0 1 < 8 ∧ z = X 0 0 1 ∧ X1 0 0 1 = X 0 0 1 + 1 ∧ X1 19 (X 0 0 1) 1 = 0 ∧ X1 19 (X 0 0 1) 6 = 0)) (p2 : ∀ y, y ≠ X 0 0 1 → X1 19 y = X 19 y ∧ X1 20 y = X 20 y ∧ X1 21 y = X 21 y ∧ X1 22 y = X 22 y ∧ X1 23 y = X 23 y) (hG : Frm [4001, 4400, 4900, 4003] X1 X2) (q : (X1 40 0 2 = 8 ∧ z2 = -4 ∧ X2 40 0 2 = 8) ∨ (X1 40 0 2 < 8 ∧ z2 = X1 40 0 2 ∧ X2 40 0 2 = X1 40 0 2 + 1 ∧ X2 44 0 (X1 40 0 2) = 0 ∧ X2 49 0 (X1 40 0 2) = 0)) (q2 : ∀ y, y ≠ X1 40 0 2 → X2 44 0 y = X1 44 0 y) (q3 : ∀ y, y ≠ X1 40 0 2 → X2 49 0 y = X1 49 0 y) (hR : Rng X) : rT X2 ∧ rC X2 ∧ rF X2 ∧ z = z2 := by
  unfold rT at *
  have a : ∀ t, X1 49 0 t = X 49 0 t := fun t => hF 49 0 t (show 4900 ∉ _ by decide)
  have b : ∀ t, X2 19 t 6 = X1 19 t 6 := fun t => hG 19 t 6 (show 1907 ∉ _ by decide)
  have b9 : ∀ t, X2 19 t 1 = X1 19 t 1 := fun t => hG 19 t 1 (show 1902 ∉ _ by decide)
  have a2 := hF 40 0 2 (show 4003 ∉ _ by decide)
  have b1 := hG 0 0 1 (show 2 ∉ _ by decide)
  have c : 0 ≤ X 0 0 1 ∧ X 0 0 1 ≤ 8 := hR 0 0 1
  have a44 : ∀ y, X1 44 0 y = X 44 0 y := fun y => hF 44 0 y (show 4400 ∉ _ by decide)
  have a45 : ∀ y, X1 45 0 y = X 45 0 y := fun y => hF 45 0 y (show 4500 ∉ _ by decide)
  have a46 : ∀ y, X1 46 0 y = X 46 0 y := fun y => hF 46 0 y (show 4600 ∉ _ by decide)
  have a47 : ∀ y, X1 47 0 y = X 47 0 y := fun y => hF 47 0 y (show 4700 ∉ _ by decide)
  have a48 : ∀ y, X1 48 0 y = X 48 0 y := fun y => hF 48 0 y (show 4800 ∉ _ by decide)
  have b20 : ∀ y j, X2 20 y j = X1 20 y j := fun y j => hG 20 y j (show 2000 ∉ _ by decide)
  have b21 : ∀ y j, X2 21 y j = X1 21 y j := fun y j => hG 21 y j (show 2100 ∉ _ by decide)
  have b22 : ∀ y j, X2 22 y j = X1 22 y j := fun y j => hG 22 y j (show 2200 ∉ _ by decide)
  have b23 : ∀ y j, X2 23 y j = X1 23 y j := fun y j => hG 23 y j (show 2300 ∉ _ by decide)
  rw [a2, ← hT] at q2 q3 q
  refine ⟨by omega, fun y g0 g1 => ?_, fun y g0 g1 => ?_, by omega⟩
  · rw [b y]
    by_cases e : y = X 0 0 1
    · rw [e]
      omega
    · rw [(p2 y e).1, q3 y e, a y]
      exact hC y g0 (by omega)
  · rw [b9 y]
    by_cases e : y = X 0 0 1
    · rw [e]
      exact ⟨by omega, fun k k0 k1 => by omega⟩
    · obtain ⟨e1, e2, e3, e4, e5⟩ := p2 y e
      obtain ⟨h1, h2⟩ := hf y g0 (by omega)
      rw [e1, q2 y e, a44 y]
      refine ⟨h1, fun k k0 k1 => ?_⟩
      have h3 := h2 k k0 k1
      rw [b20, b21, b22, b23, e2, e3, e4, e5, hG 45 0 _ (show 4500 ∉ _ by decide), hG 46 0 _ (show 4600 ∉ _ by decide), hG 47 0 _ (show 4700 ∉ _ by decide), hG 48 0 _ (show 4800 ∉ _ by decide), a45, a46, a47, a48]
      exact h3
theorem rF_field {z z2 t name lane v : Int} (hT : rT X) (hM : rM X) (h : rF X) (hF : Frm [1902, 2000, 2100, 2200, 2300, 1600] X X1) (p : ((¬ (0 ≤ t ∧ t < X 0 0 1) ∧ z = -1 ∧ X1 19 t 1 = X 19 t 1) ∨ (0 ≤ t ∧ t < X 0 0 1 ∧ ¬ (0 ≤ name ∧ name < 20 ∧ nmAt (X 20 t) name (X 19 t 1).toNat = -1 ∧ 0 ≤ lane ∧ lane < 6) ∧ z = -2 ∧ X1 19 t 1 = X 19 t 1) ∨ (0 ≤ t ∧ t < X 0 0 1 ∧ (0 ≤ name ∧ name < 20 ∧ nmAt (X 20 t) name (X 19 t 1).toNat = -1 ∧ 0 ≤ lane ∧ lane < 6) ∧ 0 < X 29 0 3 ∧ z = -3 ∧ X1 19 t 1 = X 19 t 1) ∨ (0 ≤ t ∧ t < X 0 0 1 ∧ (0 ≤ name ∧ name < 20 ∧ nmAt (X 20 t) name (X 19 t 1).toNat = -1 ∧ 0 ≤ lane ∧ lane < 6) ∧ X 29 0 3 = 0 ∧ 5 ≤ X 19 t 1 ∧ z = -4 ∧ X1 19 t 1 = X 19 t 1) ∨ (0 ≤ t ∧ t < X 0 0 1 ∧ (0 ≤ name ∧ name < 20 ∧ nmAt (X 20 t) name (X 19 t 1).toNat = -1 ∧ 0 ≤ lane ∧ lane < 6) ∧ X 29 0 3 = 0 ∧ X 19 t 1 ≤ 4 ∧ z = X 19 t 1 ∧ X1 19 t 1 = X 19 t 1 + 1))) (p2 : 0 ≤ z → X1 20 t z = name ∧ X1 21 t z = lane ∧ X1 22 t z = (if lane = 0 then v else -1) ∧ X1 23 t z = 0) (p3 : ∀ y j, ¬ (0 ≤ z ∧ y = t ∧ j = z) → X1 20 y j = X 20 y j ∧ X1 21 y j = X 21 y j ∧ X1 22 y j = X 22 y j ∧ X1 23 y j = X 23 y j) (p4 : ∀ y, y ≠ t → X1 19 y 1 = X 19 y 1) (hG : Frm [4001, 4500, 4600, 4700, 4800, 4400, 5600] X1 X2) (q : ((¬ (0 ≤ t ∧ t < X1 40 0 2) ∧ z2 = -1 ∧ X2 44 0 t = X1 44 0 t) ∨ (0 ≤ t ∧ t < X1 40 0 2 ∧ ¬ (0 ≤ name ∧ name < 20 ∧ nmAt (fun j => X1 45 0 (5 * t + j)) name (X1 44 0 t).toNat = -1 ∧ 0 ≤ lane ∧ lane < 6) ∧ z2 = -2 ∧ X2 44 0 t = X1 44 0 t) ∨ (0 ≤ t ∧ t < X1 40 0 2 ∧ (0 ≤ name ∧ name < 20 ∧ nmAt (fun j => X1 45 0 (5 * t + j)) name (X1 44 0 t).toNat = -1 ∧ 0 ≤ lane ∧ lane < 6) ∧ 0 < X1 40 0 20 ∧ z2 = -3 ∧ X2 44 0 t = X1 44 0 t) ∨ (0 ≤ t ∧ t < X1 40 0 2 ∧ (0 ≤ name ∧ name < 20 ∧ nmAt (fun j => X1 45 0 (5 * t + j)) name (X1 44 0 t).toNat = -1 ∧ 0 ≤ lane ∧ lane < 6) ∧ X1 40 0 20 = 0 ∧ 5 ≤ X1 44 0 t ∧ z2 = -4 ∧ X2 44 0 t = X1 44 0 t) ∨ (0 ≤ t ∧ t < X1 40 0 2 ∧ (0 ≤ name ∧ name < 20 ∧ nmAt (fun j => X1 45 0 (5 * t + j)) name (X1 44 0 t).toNat = -1 ∧ 0 ≤ lane ∧ lane < 6) ∧ X1 40 0 20 = 0 ∧ X1 44 0 t ≤ 4 ∧ z2 = X1 44 0 t ∧ X2 44 0 t = X1 44 0 t + 1))) (q2 : 0 ≤ z2 → X2 45 0 (5 * t + z2) = name ∧ X2 46 0 (5 * t + z2) = lane ∧ X2 47 0 (5 * t + z2) = (if lane = 0 then v else -1) ∧ X2 48 0 (5 * t + z2) = 0) (q3 : ∀ y, ¬ (0 ≤ z2 ∧ y = 5 * t + z2) → X2 45 0 y = X1 45 0 y ∧ X2 46 0 y = X1 46 0 y ∧ X2 47 0 y = X1 47 0 y ∧ X2 48 0 y = X1 48 0 y) (q4 : ∀ y, y ≠ t → X2 44 0 y = X1 44 0 y) (hR : Rng X) (hR1 : Rng X1) : rF X2 ∧ z = z2 := by
  unfold rT at hT
  unfold rM at hM
  have a2 := hF 40 0 2 (show 4003 ∉ _ by decide)
  have a20 := hF 40 0 20 (show 4021 ∉ _ by decide)
  have a1 := hF 0 0 1 (show 2 ∉ _ by decide)
  have b1 := hG 0 0 1 (show 2 ∉ _ by decide)
  have b9 : ∀ t, X2 19 t 1 = X1 19 t 1 := fun t => hG 19 t 1 (show 1902 ∉ _ by decide)
  have a44 : ∀ y, X1 44 0 y = X 44 0 y := fun y => hF 44 0 y (show 4400 ∉ _ by decide)
  have a45 : ∀ y, X1 45 0 y = X 45 0 y := fun y => hF 45 0 y (show 4500 ∉ _ by decide)
  have a46 : ∀ y, X1 46 0 y = X 46 0 y := fun y => hF 46 0 y (show 4600 ∉ _ by decide)
  have a47 : ∀ y, X1 47 0 y = X 47 0 y := fun y => hF 47 0 y (show 4700 ∉ _ by decide)
  have a48 : ∀ y, X1 48 0 y = X 48 0 y := fun y => hF 48 0 y (show 4800 ∉ _ by decide)
  have b20 : ∀ y j, X2 20 y j = X1 20 y j := fun y j => hG 20 y j (show 2000 ∉ _ by decide)
  have b21 : ∀ y j, X2 21 y j = X1 21 y j := fun y j => hG 21 y j (show 2100 ∉ _ by decide)
  have b22 : ∀ y j, X2 22 y j = X1 22 y j := fun y j => hG 22 y j (show 2200 ∉ _ by decide)
  have b23 : ∀ y j, X2 23 y j = X1 23 y j := fun y j => hG 23 y j (show 2300 ∉ _ by decide)
  have at44 := a44 t
  have c1 : 0 ≤ X 19 t 1 ∧ X 19 t 1 ≤ 5 := hR 19 t 1
  have hnm : 0 ≤ t ∧ t < X 0 0 1 → X 19 t 1 = X 44 0 t ∧ nmAt (X 20 t) name (X 19 t 1).toNat = nmAt (fun j => X1 45 0 (5 * t + j)) name (X1 44 0 t).toNat := fun g => by
    obtain ⟨h1, h2⟩ := h t g.1 g.2
    refine ⟨h1, ?_⟩
    rw [a44, ← h1]
    exact nmAt_congr (fun j j0 j1 => by show X 20 t j = X1 45 0 (5 * t + j); rw [a45]; exact (h2 j j0 (by omega)).1)
  have hz : z = z2 ∧ (0 ≤ t ∧ t < X 0 0 1 → X2 44 0 t = X1 19 t 1) := by
    by_cases g : 0 ≤ t ∧ t < X 0 0 1
    · obtain ⟨g1, g2⟩ := hnm g
      rcases p with p | p | p | p | p <;> rcases q with q | q | q | q | q <;> omega
    · rcases p with p | p | p | p | p <;> rcases q with q | q | q | q | q <;> omega
  refine ⟨fun y g0 g1 => ?_, hz.1⟩
  rw [b1, a1] at g1
  have c2 : 0 ≤ X1 19 y 1 ∧ X1 19 y 1 ≤ 5 := hR1 19 y 1
  obtain ⟨h1, h2⟩ := h y g0 g1
  rw [b9 y]
  have hzz : 0 ≤ z → z = X 19 t 1 ∧ X1 19 t 1 = X 19 t 1 + 1 ∧ z ≤ 4 := fun q9 => by rcases p with p | p | p | p | p <;> omega
  have hzn : z < 0 → X1 19 t 1 = X 19 t 1 := fun q9 => by rcases p with p | p | p | p | p <;> omega
  clear p q
  refine ⟨?_, fun k k0 k1 => ?_⟩
  · by_cases e : y = t
    · rw [e] at g0 g1 ⊢
      exact (hz.2 ⟨g0, g1⟩).symm
    · rw [p4 y e, q4 y e, a44 y]
      exact h1
  · rw [b20, b21, b22, b23]
    by_cases e : 0 ≤ z ∧ y = t ∧ k = z
    · obtain ⟨e1, e2, e3⟩ := e
      obtain ⟨u1, u2, u3, u4⟩ := p2 e1
      obtain ⟨w1, w2, w3, w4⟩ := q2 (by omega)
      rw [← hz.1] at w1 w2 w3 w4
      rw [e2, e3, u1, u2, u3, u4, w1, w2, w3, w4]
      exact ⟨rfl, rfl, rfl, rfl⟩
    · obtain ⟨u1, u2, u3, u4⟩ := p3 y k e
      have hkl : k < X 19 y 1 := by
        by_cases ey : y = t
        · rw [ey] at k1 h1 ⊢
          have e9 : ¬ (0 ≤ z ∧ k = z) := fun q9 => e ⟨q9.1, ey, q9.2⟩
          omega
        · rw [p4 y ey] at k1
          exact k1
      have e5 : ¬ (0 ≤ z2 ∧ 5 * y + k = 5 * t + z2) := fun q9 => by
        have h8 : 0 ≤ z2 ∧ z2 ≤ 4 := by omega
        exact e ⟨by omega, by omega, by omega⟩
      obtain ⟨w1, w2, w3, w4⟩ := q3 (5 * y + k) e5
      rw [u1, u2, u3, u4, w1, w2, w3, w4, a45, a46, a47, a48]
      exact h2 k k0 hkl
theorem rF_drop {z z2 t k : Int} (hT : rT X) (hM : rM X) (h : rF X) (hF : Frm [1902, 2000, 2100, 2200, 2300, 1600] X X1) (p : ((¬ (0 ≤ t ∧ t < X 0 0 1 ∧ 0 ≤ k ∧ k < X 19 t 1) ∧ z = -1 ∧ X1 19 t 1 = X 19 t 1) ∨ (0 ≤ t ∧ t < X 0 0 1 ∧ 0 ≤ k ∧ k < X 19 t 1 ∧ 0 < X 29 0 3 ∧ z = -3 ∧ X1 19 t 1 = X 19 t 1) ∨ (0 ≤ t ∧ t < X 0 0 1 ∧ 0 ≤ k ∧ k < X 19 t 1 ∧ X 29 0 3 = 0 ∧ z = X 19 t 1 - 1 ∧ X1 19 t 1 = X 19 t 1 - 1))) (p2 : 0 ≤ z → Sh 20 X X1 t k (X 19 t 1 - 1) ∧ Sh 21 X X1 t k (X 19 t 1 - 1) ∧ Sh 22 X X1 t k (X 19 t 1 - 1) ∧ Sh 23 X X1 t k (X 19 t 1 - 1)) (p3 : z < 0 → ∀ y j, X1 20 y j = X 20 y j ∧ X1 21 y j = X 21 y j ∧ X1 22 y j = X 22 y j ∧ X1 23 y j = X 23 y j) (p4 : ∀ y, y ≠ t → X1 19 y 1 = X 19 y 1) (hG : Frm [4001, 4500, 4600, 4700, 4800, 4400, 5600] X1 X2) (q : ((¬ (0 ≤ t ∧ t < X1 40 0 2 ∧ 0 ≤ k ∧ k < X1 44 0 t) ∧ z2 = -1 ∧ X2 44 0 t = X1 44 0 t) ∨ (0 ≤ t ∧ t < X1 40 0 2 ∧ 0 ≤ k ∧ k < X1 44 0 t ∧ 0 < X1 40 0 20 ∧ z2 = -3 ∧ X2 44 0 t = X1 44 0 t) ∨ (0 ≤ t ∧ t < X1 40 0 2 ∧ 0 ≤ k ∧ k < X1 44 0 t ∧ X1 40 0 20 = 0 ∧ z2 = X1 44 0 t - 1 ∧ X2 44 0 t = X1 44 0 t - 1))) (q2 : 0 ≤ z2 → Sh 45 X1 X2 0 (5 * t + k) (5 * t + (X1 44 0 t - 1)) ∧ Sh 46 X1 X2 0 (5 * t + k) (5 * t + (X1 44 0 t - 1)) ∧ Sh 47 X1 X2 0 (5 * t + k) (5 * t + (X1 44 0 t - 1)) ∧ Sh 48 X1 X2 0 (5 * t + k) (5 * t + (X1 44 0 t - 1))) (q3 : z2 < 0 → ∀ y, X2 45 0 y = X1 45 0 y ∧ X2 46 0 y = X1 46 0 y ∧ X2 47 0 y = X1 47 0 y ∧ X2 48 0 y = X1 48 0 y) (q4 : ∀ y, y ≠ t → X2 44 0 y = X1 44 0 y) (hR : Rng X) (hR1 : Rng X1) : rF X2 ∧ z = z2 := by
  unfold rT at hT
  unfold rM at hM
  have a2 := hF 40 0 2 (show 4003 ∉ _ by decide)
  have a20 := hF 40 0 20 (show 4021 ∉ _ by decide)
  have a1 := hF 0 0 1 (show 2 ∉ _ by decide)
  have b1 := hG 0 0 1 (show 2 ∉ _ by decide)
  have b9 : ∀ t, X2 19 t 1 = X1 19 t 1 := fun t => hG 19 t 1 (show 1902 ∉ _ by decide)
  have a44 : ∀ y, X1 44 0 y = X 44 0 y := fun y => hF 44 0 y (show 4400 ∉ _ by decide)
  have a45 : ∀ y, X1 45 0 y = X 45 0 y := fun y => hF 45 0 y (show 4500 ∉ _ by decide)
  have a46 : ∀ y, X1 46 0 y = X 46 0 y := fun y => hF 46 0 y (show 4600 ∉ _ by decide)
  have a47 : ∀ y, X1 47 0 y = X 47 0 y := fun y => hF 47 0 y (show 4700 ∉ _ by decide)
  have a48 : ∀ y, X1 48 0 y = X 48 0 y := fun y => hF 48 0 y (show 4800 ∉ _ by decide)
  have b20 : ∀ y j, X2 20 y j = X1 20 y j := fun y j => hG 20 y j (show 2000 ∉ _ by decide)
  have b21 : ∀ y j, X2 21 y j = X1 21 y j := fun y j => hG 21 y j (show 2100 ∉ _ by decide)
  have b22 : ∀ y j, X2 22 y j = X1 22 y j := fun y j => hG 22 y j (show 2200 ∉ _ by decide)
  have b23 : ∀ y j, X2 23 y j = X1 23 y j := fun y j => hG 23 y j (show 2300 ∉ _ by decide)
  have at44 := a44 t
  have c1 : 0 ≤ X 19 t 1 ∧ X 19 t 1 ≤ 5 := hR 19 t 1
  have hnm : 0 ≤ t ∧ t < X 0 0 1 → X 19 t 1 = X 44 0 t := fun g => (h t g.1 g.2).1
  have hz : z = z2 ∧ (0 ≤ t ∧ t < X 0 0 1 → X2 44 0 t = X1 19 t 1) := by
    by_cases g : 0 ≤ t ∧ t < X 0 0 1
    · have g1 := hnm g
      rcases p with p | p | p <;> rcases q with q | q | q <;> omega
    · rcases p with p | p | p <;> rcases q with q | q | q <;> omega
  have hzz : 0 ≤ z → 0 ≤ t ∧ t < X 0 0 1 ∧ 0 ≤ k ∧ k < X 19 t 1 ∧ z = X 19 t 1 - 1 ∧ X1 19 t 1 = X 19 t 1 - 1 := fun q9 => by rcases p with p | p | p <;> omega
  have hzn : z < 0 → X1 19 t 1 = X 19 t 1 := fun q9 => by rcases p with p | p | p <;> omega
  have hz4 : 0 ≤ z → X1 44 0 t = X 19 t 1 := fun q9 => by have g9 := hzz q9; have g8 := hnm ⟨g9.1, g9.2.1⟩; omega
  clear p q
  refine ⟨fun y g0 g1 => ?_, hz.1⟩
  rw [b1, a1] at g1
  have c2 : 0 ≤ X1 19 y 1 ∧ X1 19 y 1 ≤ 5 := hR1 19 y 1
  obtain ⟨h1, h2⟩ := h y g0 g1
  rw [b9 y]
  refine ⟨?_, fun j j0 j1 => ?_⟩
  · by_cases e : y = t
    · rw [e] at g0 g1 ⊢
      exact (hz.2 ⟨g0, g1⟩).symm
    · rw [p4 y e, q4 y e, a44 y]
      exact h1
  · rw [b20, b21, b22, b23]
    by_cases hz0 : 0 ≤ z
    · obtain ⟨u1, u2, u3, u4⟩ := p2 hz0
      obtain ⟨w1, w2, w3, w4⟩ := q2 (by omega)
      rw [u1, u2, u3, u4, w1, w2, w3, w4]
      by_cases ey : y = t
      · subst ey
        have g3 := hnm ⟨g0, g1⟩
        by_cases hj : k ≤ j
        · have hc1 : y = y ∧ k ≤ j ∧ j < X 19 y 1 - 1 := ⟨rfl, hj, by omega⟩
          have hc2 : (0 : Int) = 0 ∧ 5 * y + k ≤ 5 * y + j ∧ 5 * y + j < 5 * y + (X1 44 0 y - 1) := ⟨rfl, by omega, by omega⟩
          rw [if_pos hc1, if_pos hc1, if_pos hc1, if_pos hc1, if_pos hc2, if_pos hc2, if_pos hc2, if_pos hc2, a45, a46, a47, a48, show 5 * y + j + 1 = 5 * y + (j + 1) by omega]
          exact h2 (j + 1) (by omega) (by omega)
        · have hc1 : ¬ (y = y ∧ k ≤ j ∧ j < X 19 y 1 - 1) := fun q9 => hj q9.2.1
          have hc2 : ¬ ((0 : Int) = 0 ∧ 5 * y + k ≤ 5 * y + j ∧ 5 * y + j < 5 * y + (X1 44 0 y - 1)) := fun q9 => by omega
          rw [if_neg hc1, if_neg hc1, if_neg hc1, if_neg hc1, if_neg hc2, if_neg hc2, if_neg hc2, if_neg hc2, a45, a46, a47, a48]
          exact h2 j j0 (by omega)
      · rw [p4 y ey] at j1
        have hc1 : ¬ (y = t ∧ k ≤ j ∧ j < X 19 t 1 - 1) := fun q9 => ey q9.1
        have hc2 : ¬ ((0 : Int) = 0 ∧ 5 * t + k ≤ 5 * y + j ∧ 5 * y + j < 5 * t + (X1 44 0 t - 1)) := fun q9 => by
          have h8 : X1 44 0 t - 1 ≤ 4 := by omega
          have h7 : 0 ≤ k := by omega
          have h6 : X 19 y 1 ≤ 5 := (hR 19 y 1).2
          omega
        rw [if_neg hc1, if_neg hc1, if_neg hc1, if_neg hc1, if_neg hc2, if_neg hc2, if_neg hc2, if_neg hc2, a45, a46, a47, a48]
        exact h2 j j0 j1
    · obtain ⟨u1, u2, u3, u4⟩ := p3 (by omega) y j
      obtain ⟨w1, w2, w3, w4⟩ := q3 (by omega) (5 * y + j)
      rw [u1, u2, u3, u4, w1, w2, w3, w4, a45, a46, a47, a48]
      refine h2 j j0 ?_
      by_cases ey : y = t
      · rw [ey] at j1 ⊢
        omega
      · rw [p4 y ey] at j1
        exact j1
theorem rF_shut {z z2 t k on on2 : Int} (hT : rT X) (h : rF X) (hF : Frm [2300] X X1) (p : (0 ≤ t ∧ t < X 0 0 1 ∧ 0 ≤ k ∧ k < X 19 t 1 ∧ z = X 23 t k ∧ X1 23 t k = on) ∨ (¬ (0 ≤ t ∧ t < X 0 0 1 ∧ 0 ≤ k ∧ k < X 19 t 1) ∧ z = -1 ∧ X1 23 t k = X 23 t k)) (p2 : ∀ y j, ¬ (y = t ∧ j = k) → X1 23 y j = X 23 y j) (hG : Frm [4001, 4800] X1 X2) (q : (0 ≤ t ∧ t < X1 40 0 2 ∧ 0 ≤ k ∧ k < X1 44 0 t ∧ z2 = X1 48 0 (5 * t + k) ∧ X2 48 0 (5 * t + k) = on2) ∨ (¬ (0 ≤ t ∧ t < X1 40 0 2 ∧ 0 ≤ k ∧ k < X1 44 0 t) ∧ z2 = -1 ∧ X2 48 0 (5 * t + k) = X1 48 0 (5 * t + k))) (q2 : ∀ y, y ≠ 5 * t + k → X2 48 0 y = X1 48 0 y) (ho : on = on2) (hR : Rng X) : rF X2 ∧ z = z2 := by
  unfold rT at hT
  have a2 := hF 40 0 2 (show 4003 ∉ _ by decide)
  have a1 := hF 0 0 1 (show 2 ∉ _ by decide)
  have b1 := hG 0 0 1 (show 2 ∉ _ by decide)
  have a9 : ∀ t, X1 19 t 1 = X 19 t 1 := fun t => hF 19 t 1 (show 1902 ∉ _ by decide)
  have b9 : ∀ t, X2 19 t 1 = X1 19 t 1 := fun t => hG 19 t 1 (show 1902 ∉ _ by decide)
  have a44 : ∀ y, X1 44 0 y = X 44 0 y := fun y => hF 44 0 y (show 4400 ∉ _ by decide)
  have a48 : ∀ y, X1 48 0 y = X 48 0 y := fun y => hF 48 0 y (show 4800 ∉ _ by decide)
  have b23 : ∀ y j, X2 23 y j = X1 23 y j := fun y j => hG 23 y j (show 2300 ∉ _ by decide)
  have at44 := a44 t
  have at48 := a48 (5 * t + k)
  have c1 : 0 ≤ X 19 t 1 ∧ X 19 t 1 ≤ 5 := hR 19 t 1
  have hk : 0 ≤ t ∧ t < X 0 0 1 → X 19 t 1 = X 44 0 t ∧ (0 ≤ k ∧ k < X 19 t 1 → X 23 t k = X 48 0 (5 * t + k)) := fun g => ⟨(h t g.1 g.2).1, fun g2 => ((h t g.1 g.2).2 k g2.1 g2.2).2.2.2⟩
  have hz : z = z2 := by
    by_cases g : 0 ≤ t ∧ t < X 0 0 1
    · obtain ⟨g1, g2⟩ := hk g
      by_cases g3 : 0 ≤ k ∧ k < X 19 t 1
      · have g4 := g2 g3
        omega
      · omega
    · omega
  refine ⟨fun y g0 g1 => ?_, hz⟩
  rw [b1, a1] at g1
  obtain ⟨h1, h2⟩ := h y g0 g1
  rw [b9, a9, hG 44 0 y (show 4400 ∉ _ by decide), a44]
  refine ⟨h1, fun j j0 j1 => ?_⟩
  obtain ⟨h3, h4, h5, h6⟩ := h2 j j0 j1
  have c2 : X 19 y 1 ≤ 5 := (hR 19 y 1).2
  rw [hG 20 y j (show 2000 ∉ _ by decide), hG 21 y j (show 2100 ∉ _ by decide), hG 22 y j (show 2200 ∉ _ by decide), hF 20 y j (show 2000 ∉ _ by decide), hF 21 y j (show 2100 ∉ _ by decide), hF 22 y j (show 2200 ∉ _ by decide), hG 45 0 _ (show 4500 ∉ _ by decide), hG 46 0 _ (show 4600 ∉ _ by decide), hG 47 0 _ (show 4700 ∉ _ by decide), hF 45 0 _ (show 4500 ∉ _ by decide), hF 46 0 _ (show 4600 ∉ _ by decide), hF 47 0 _ (show 4700 ∉ _ by decide), b23]
  refine ⟨h3, h4, h5, ?_⟩
  by_cases e : y = t ∧ j = k
  · obtain ⟨rfl, rfl⟩ := e
    omega
  · have e2 : 5 * y + j ≠ 5 * t + k ∨ ¬ (0 ≤ k ∧ k < X 19 t 1) := by omega
    rw [p2 y j e]
    rcases e2 with e2 | e2
    · rw [q2 _ e2, a48]
      exact h6
    · by_cases e3 : 5 * y + j = 5 * t + k
      · rw [e3] at h6 ⊢
        have e4 : X2 48 0 (5 * t + k) = X1 48 0 (5 * t + k) := by
          by_cases g : 0 ≤ t ∧ t < X 0 0 1
          · have g9 := (hk g).1
            omega
          · omega
        rw [e4, at48]
        exact h6
      · rw [q2 _ e3, a48]
        exact h6
end RX
end
section
/-! class and reference together: what each call leaves the same -/
theorem fc_ge (κ : Nat) (j : Int) : κ * 100 ≤ fcode κ j := by
  unfold fcode
  split <;> omega
theorem Frm.hi {α : Type} {L : List Nat} {X X1 : Nat → Int → Int → α} (h : Frm L X X1) (hd : ∀ q ∈ L, q < 4000) : ∀ κ, 40 ≤ κ → X1 κ = X κ := fun κ hk => h.fn κ (fun j hj => by
  have h1 := hd _ hj
  have h2 := fc_ge κ j
  omega)
theorem Frm.lo {α : Type} {L : List Nat} {X X1 : Nat → Int → Int → α} (h : Frm L X X1) (hd : ∀ q ∈ L, 4000 < q) : ∀ κ, κ < 40 → (lay κ).1 = 0 → X1 κ = X κ := fun κ hk h0 => h.arr κ h0 (fun hj => by
  have h1 := hd _ hj
  omega)
section JR
variable {C C1 M M1 X X1 X2 : Nat → Int → Int → Int} {Y Y1 : Nat → Int → Int → Option Int} {ln ln1 : Int → Int} {c c1 : Int} {L : List Nat}
theorem RB.m (h : RB c C Y ln M) (e : ∀ κ, 40 ≤ κ → M1 κ = M κ) : RB c C Y ln M1 := by
  have e40 := e 40 (by decide)
  have e44 := e 44 (by decide)
  have e46 := e 46 (by decide)
  have e55 := e 55 (by decide)
  have e56 := e 56 (by decide)
  have e57 := e 57 (by decide)
  have e58 := e 58 (by decide)
  have e59 := e 59 (by decide)
  have e62 := e 62 (by decide)
  have e64 := e 64 (by decide)
  have e65 := e 65 (by decide)
  have e66 := e 66 (by decide)
  have e67 := e 67 (by decide)
  have e68 := e 68 (by decide)
  unfold RB rH rN nOK rR Lv LvF LvN LvI lnM fcM at *
  rw [e40, e44, e46, e55, e56, e57, e58, e59, e62, e64, e65, e66, e67, e68]
  exact h
theorem RB.cc (h : RB c C Y ln M) (e3 : C1 0 0 3 = C 0 0 3) (e16 : C1 16 = C 16) (e27 : C1 27 = C 27) (e31 : C1 31 = C 31) (e1 : ∀ n, C1 28 n 1 = C 28 n 1) (e2 : ∀ n, C1 28 n 2 = C 28 n 2) : RB c C1 Y ln M := by
  obtain ⟨⟨a1, a2⟩, ⟨b1, b2⟩, d1, d2⟩ := h
  refine ⟨⟨by rw [e3]; exact a1, fun x h0 h1 => ?_⟩, ⟨fun m h0 h1 => by rw [e31]; exact b1 m h0 h1, fun n h0 h1 => ?_⟩, fun g r l q => ?_, d2⟩
  · rw [e16]
    exact a2 x h0 h1
  · have h9 := b2 n h0 h1
    unfold nOK at *
    rw [e1, e2]
    exact h9
  · rw [e27]
    exact d1 g r l q
theorem RB.mdl (h : RB c C Y ln M) (hF : Frm L C C1) (hd : ∀ q ∈ L, 4000 < q) : RB c C1 Y ln M := by
  have nl : ∀ q, q < 4000 → q ∉ L := fun q hq hm => by
    have := hd q hm
    omega
  exact h.cc (hF 0 0 3 (nl 4 (by decide))) (hF.lo hd 16 (by decide) (by decide +kernel)) (hF.lo hd 27 (by decide) (by decide +kernel)) (hF.lo hd 31 (by decide) (by decide +kernel)) (fun n => hF 28 n 1 (nl 2802 (by decide))) (fun n => hF 28 n 2 (nl 2803 (by decide)))
/-- the types and lanes of things, seen from both sides -/
theorem bridge (hH : rH X Y X) (hT : rT X) (hF : rF X) (hMI : MInv X) (hR : Rng X) {x : Int} (h0 : 0 ≤ x) (h1 : x < X 40 0 13) : tyo (Y 15 x 0) = X 55 0 x ∧ X 19 (X 55 0 x) 1 = X 44 0 (X 55 0 x) ∧ (0 ≤ X 44 0 (X 55 0 x) ∧ X 44 0 (X 55 0 x) ≤ 5) ∧ ∀ k, 0 ≤ k → k < X 44 0 (X 55 0 x) → X 20 (X 55 0 x) k = X 45 0 (5 * X 55 0 x + k) ∧ X 21 (X 55 0 x) k = X 46 0 (5 * X 55 0 x + k) ∧ X 22 (X 55 0 x) k = X 47 0 (5 * X 55 0 x + k) ∧ X 23 (X 55 0 x) k = X 48 0 (5 * X 55 0 x + k) := by
  have a := (hH.2 x h0 h1).1
  have b := hMI.2.2.2.2.2 x h0 h1
  unfold rT at hT
  have r55 : 0 ≤ X 55 0 x ∧ X 55 0 x ≤ 7 := hR 55 0 x
  obtain ⟨d1, d2⟩ := hF (X 55 0 x) r55.1 (by omega)
  refine ⟨tyo_some a, d1, hR 44 0 _, fun k k0 k1 => d2 k k0 (by omega)⟩
/-! values and references -/
theorem J_val {x k v rw : Int} (hB : RB c X Y ln X) (hn : X 29 0 1 = X 40 0 22) (hm : X 29 0 3 = X 40 0 20) (hR : Rng X) (hl12 : LnL ln) (hp : 0 ≤ x ∧ x < X 40 0 13 ∧ 0 ≤ k ∧ k < X 44 0 (X 55 0 x)) (hl3 : X 46 0 (5 * X 55 0 x + k) < 3)
    (hF : Frm [2802, 2803, 2902, 1600] X X1) (hH : Frm [2801, 2804] Y Y1) (eC : eNoteC X X1 Y Y1 (some x) k (X 16 x k) (Y 17 x k)) (hv : X1 16 x k = v) (ho : ∀ y j, ¬ (y = x ∧ j = k) → X1 16 y j = X 16 y j) (h17 : ∀ y j, Y1 17 y j = Y 17 y j)
    (hG : Frm L X1 X2) (hd : ∀ q ∈ L, 4000 < q) (hd2 : ∀ q ∈ [4400, 4600, 5500, 6200, 4014, 4021, 5700, 5800, 5900], q ∉ L) (eM : eNoteM X1 X2 x k rw (-1) (X1 56 0 (5 * x + k))) (hv2 : X2 56 0 (5 * x + k) = v) (ho2 : ∀ p, p ≠ 5 * x + k → X2 56 0 p = X1 56 0 p) : RB c X2 Y1 ln X2 ∧ X2 29 0 1 = X2 40 0 22 := by
  have hi := hF.hi (by decide)
  have h1 : RB c X Y ln X1 := hB.m hi
  have e40 := hi 40 (by decide)
  have e44 := hi 44 (by decide)
  have e46 := hi 46 (by decide)
  have e55 := hi 55 (by decide)
  have hN := RB_val (M1 := X2) h1 (by rw [e40]; exact hn) (by rw [e40]; exact hm) (KpC.of hF hH (by decide) (by decide)) (KpM.of hG (fun q hq => hd2 q (by simp only [List.mem_cons, List.not_mem_nil, or_false] at hq ⊢; omega))) (fun y => by unfold fcM; rw [e44]; exact (hR 44 0 _).2) (by unfold fcM; rw [e40, e44, e55]; exact hp) (by unfold lnM; rw [e46, e55]; exact hl3) eC hv ho h17 (hF.arr 27 (by decide +kernel) (by decide)) eM hv2 ho2 (hG.arr 57 (by decide +kernel) (hd2 5700 (by decide))) (hG.arr 58 (by decide +kernel) (hd2 5800 (by decide))) (hG.arr 59 (by decide +kernel) (hd2 5900 (by decide))) hl12
  refine ⟨hN.1.mdl hG hd, ?_⟩
  have e9 : X2 29 0 1 = X1 29 0 1 := hG 29 0 1 (fun q => by
    have := hd 2902 q
    omega)
  rw [e9]
  exact hN.2

/-! the rest of the relation: checks, saves, records apart, names -/
end JR
def rK (c : Int) (C : Nat → Int → Int → Int) (Y : Nat → Int → Int → Option Int) (M : Nat → Int → Int → Int) : Prop := ∀ t q, 0 ≤ t → t < M 40 0 2 → 0 ≤ q → q < M 49 0 t → ∃ g, Y 24 t q = some g ∧ (0 ≤ g ∧ g < c) ∧ C 25 g 0 = M 50 0 (4 * t + q) ∧ C 25 g 1 = M 51 0 (4 * t + q) ∧ C 25 g 2 = M 52 0 (4 * t + q) ∧ C 25 g 3 = M 53 0 (4 * t + q)
def rSf (C M : Nat → Int → Int → Int) (g s r k : Int) : Prop := C 10 g (5 * r + k) = M 73 0 (5 * (30 * s + r) + k) ∧ C 11 g (5 * r + k) = M 74 0 (5 * (30 * s + r) + k) ∧ C 12 g (5 * r + k) = M 75 0 (5 * (30 * s + r) + k) ∧ (3 ≤ M 74 0 (5 * (30 * s + r) + k) → 0 ≤ M 75 0 (5 * (30 * s + r) + k) → M 75 0 (5 * (30 * s + r) + k) < M 76 0 s ∧ M 77 0 (150 * s + M 75 0 (5 * (30 * s + r) + k)) = M 74 0 (5 * (30 * s + r) + k))
def rSv (C M : Nat → Int → Int → Int) (g s : Int) : Prop := C 7 g 0 = M 70 0 s ∧ (0 < M 70 0 s → C 7 g 6 = M 76 0 s) ∧ (M 70 0 s = 0 → C 7 g 6 = 0) ∧ (∀ r, 0 ≤ r → r < M 70 0 s → C 8 g r = M 71 0 (30 * s + r) ∧ C 9 g r = M 72 0 (30 * s + r) ∧ (∀ k, 0 ≤ k → k < M 72 0 (30 * s + r) → rSf C M g s r k) ∧ ∀ k k', 0 ≤ k → k < k' → k' < M 72 0 (30 * s + r) → M 73 0 (5 * (30 * s + r) + k) ≠ M 73 0 (5 * (30 * s + r) + k')) ∧ ∀ w, 0 < M 70 0 s → 0 ≤ w → w < M 76 0 s → C 13 g w = M 78 0 (150 * s + w) ∧ ∀ i, 0 ≤ i → i < C 13 g w → C 14 g (12 * w + i) = M 79 0 (12 * (150 * s + w) + i)
def rS (C : Nat → Int → Int → Int) (Y : Nat → Int → Int → Option Int) (M : Nat → Int → Int → Int) : Prop := ∀ s g, 0 ≤ s → s < 4 → Y 4 0 s = some g → rSv C M g s
def sl6 (Y : Nat → Int → Int → Option Int) (i : Int) : Option Int := if i < 4 then Y 4 0 i else if i = 4 then Y 0 0 6 else Y 0 0 7
def rA6 (Y : Nat → Int → Int → Option Int) : Prop := (∀ i, 0 ≤ i → i < 6 → ∃ g, sl6 Y i = some g ∧ 0 ≤ g ∧ g < 6) ∧ ∀ i j, 0 ≤ i → i < 6 → 0 ≤ j → j < 6 → sl6 Y i = sl6 Y j → i = j
def mNm (M : Nat → Int → Int → Int) : Prop := ∀ t k k', 0 ≤ t → t < M 40 0 2 → 0 ≤ k → k < k' → k' < M 44 0 t → M 45 0 (5 * t + k) ≠ M 45 0 (5 * t + k')
def RBn (c : Int) (X : Nat → Int → Int → Int) (Y : Nat → Int → Int → Option Int) (ln : Int → Int) : Prop := RB c X Y ln X ∧ X 29 0 1 = X 40 0 22
def RC (cnt : Nat → Int) (X : Nat → Int → Int → Int) (Y : Nat → Int → Int → Option Int) (ln : Int → Int) : Prop := (rT X ∧ rM X ∧ rW X ∧ rC X ∧ rF X) ∧ RBn (cnt 26) X Y ln ∧ rK (cnt 25) X Y X ∧ rS X Y X ∧ rA6 Y ∧ mNm X
section FR
variable {C C1 M M1 X X1 X2 : Nat → Int → Int → Int} {Y Y1 : Nat → Int → Int → Option Int} {ln ln1 : Int → Int} {c c1 : Int} {L N : List Nat}
theorem rK.frm (h : rK c X Y X) (hF : Frm L X X1) (hH : Frm N Y Y1) (hd : ∀ q ∈ [4003, 4900, 5000, 5100, 5200, 5300, 2501, 2502, 2503, 2504], q ∉ L) (he : 2400 ∉ N) (hc : c ≤ c1) : rK c1 X1 Y1 X1 := by
  intro t q t0 t1 q0 q1
  rw [hF 40 0 2 (hd 4003 (by decide))] at t1
  rw [hF 49 0 t (hd 4900 (by decide))] at q1
  obtain ⟨g, g1, g2, g3, g4, g5, g6⟩ := h t q t0 t1 q0 q1
  refine ⟨g, by rw [hH 24 t q he]; exact g1, ⟨g2.1, by omega⟩, ?_, ?_, ?_, ?_⟩
  · rw [hF 25 g 0 (hd 2501 (by decide)), hF 50 0 _ (hd 5000 (by decide))]; exact g3
  · rw [hF 25 g 1 (hd 2502 (by decide)), hF 51 0 _ (hd 5100 (by decide))]; exact g4
  · rw [hF 25 g 2 (hd 2503 (by decide)), hF 52 0 _ (hd 5200 (by decide))]; exact g5
  · rw [hF 25 g 3 (hd 2504 (by decide)), hF 53 0 _ (hd 5300 (by decide))]; exact g6
theorem rSv.of {g s : Int} (h : rSv C M g s) (e0 : C1 7 g 0 = C 7 g 0) (e6 : C1 7 g 6 = C 7 g 6) (e : ∀ κ ∈ [8, 9, 10, 11, 12, 13, 14], C1 κ g = C κ g) (f : ∀ κ ∈ [70, 71, 72, 73, 74, 75, 76, 77, 78, 79], M1 κ = M κ) : rSv C1 M1 g s := by
  unfold rSv rSf at *
  rw [e0, e6, e 8 (by decide), e 9 (by decide), e 10 (by decide), e 11 (by decide), e 12 (by decide), e 13 (by decide), e 14 (by decide), f 70 (by decide), f 71 (by decide), f 72 (by decide), f 73 (by decide), f 74 (by decide), f 75 (by decide), f 76 (by decide), f 77 (by decide), f 78 (by decide), f 79 (by decide)]
  exact h
theorem mem_imp {L : List Nat} {l : List Nat} (h : ∀ q ∈ l, q ∉ L) (k : Nat) (hk : k ∈ l) : k ∉ L := h k hk
theorem rS.frm (h : rS X Y X) (hF : Frm L X X1) (hH : Frm N Y Y1) (hd : ∀ q ∈ [701, 707, 800, 900, 1000, 1100, 1200, 1300, 1400, 7000, 7100, 7200, 7300, 7400, 7500, 7600, 7700, 7800, 7900], q ∉ L) (he : 400 ∉ N) : rS X1 Y1 X1 := by
  intro s g s0 s1 e
  rw [hH 4 0 s he] at e
  refine (h s g s0 s1 e).of (hF 7 g 0 (hd 701 (by decide))) (hF 7 g 6 (hd 707 (by decide))) (fun κ hκ => ?_) (fun κ hκ => ?_)
  · simp only [List.mem_cons, List.not_mem_nil, or_false] at hκ
    rcases hκ with rfl | rfl | rfl | rfl | rfl | rfl | rfl
    · exact congrFun (hF.arr 8 (by decide +kernel) (hd 800 (by decide))) g
    · exact congrFun (hF.arr 9 (by decide +kernel) (hd 900 (by decide))) g
    · exact congrFun (hF.arr 10 (by decide +kernel) (hd 1000 (by decide))) g
    · exact congrFun (hF.arr 11 (by decide +kernel) (hd 1100 (by decide))) g
    · exact congrFun (hF.arr 12 (by decide +kernel) (hd 1200 (by decide))) g
    · exact congrFun (hF.arr 13 (by decide +kernel) (hd 1300 (by decide))) g
    · exact congrFun (hF.arr 14 (by decide +kernel) (hd 1400 (by decide))) g
  · simp only [List.mem_cons, List.not_mem_nil, or_false] at hκ
    rcases hκ with rfl | rfl | rfl | rfl | rfl | rfl | rfl | rfl | rfl | rfl
    · exact hF.arr 70 (by decide +kernel) (hd 7000 (by decide))
    · exact hF.arr 71 (by decide +kernel) (hd 7100 (by decide))
    · exact hF.arr 72 (by decide +kernel) (hd 7200 (by decide))
    · exact hF.arr 73 (by decide +kernel) (hd 7300 (by decide))
    · exact hF.arr 74 (by decide +kernel) (hd 7400 (by decide))
    · exact hF.arr 75 (by decide +kernel) (hd 7500 (by decide))
    · exact hF.arr 76 (by decide +kernel) (hd 7600 (by decide))
    · exact hF.arr 77 (by decide +kernel) (hd 7700 (by decide))
    · exact hF.arr 78 (by decide +kernel) (hd 7800 (by decide))
    · exact hF.arr 79 (by decide +kernel) (hd 7900 (by decide))
theorem rA6.frm (h : rA6 Y) (hH : Frm N Y Y1) (he : ∀ q ∈ [400, 7, 8], q ∉ N) : rA6 Y1 := by
  have e : sl6 Y1 = sl6 Y := by
    funext i
    unfold sl6
    rw [hH 4 0 i (he 400 (by decide)), hH 0 0 6 (he 7 (by decide)), hH 0 0 7 (he 8 (by decide))]
  unfold rA6 at *
  rw [e]
  exact h
theorem mNm.frm (h : mNm X) (hF : Frm L X X1) (hd : ∀ q ∈ [4003, 4400, 4500], q ∉ L) : mNm X1 := by
  unfold mNm at *
  rw [hF 40 0 2 (hd 4003 (by decide)), hF.arr 44 (by decide +kernel) (hd 4400 (by decide)), hF.arr 45 (by decide +kernel) (hd 4500 (by decide))]
  exact h
theorem RB.grow (h : RB c C Y ln M) (hc : c ≤ c1) (hl : ∀ i, 0 ≤ i → i < c → ln1 i = ln i) : RB c1 C Y ln1 M := by
  refine ⟨h.1, h.2.1, fun g r l q => ?_, h.2.2.2⟩
  obtain ⟨a1, a2, a3, a4, a5, a6, a7⟩ := h.2.2.1 g r l q
  rw [hl g a1 a2]
  exact ⟨a1, by omega, a3, a4, a5, a6, a7⟩
theorem RB.y (h : RB c C Y ln M) (e5 : ∀ x, Y1 15 x 0 = Y 15 x 0) (e7 : Y1 17 = Y 17) (f0 : ∀ n, Y1 28 n 0 = Y 28 n 0) (f3 : ∀ n, Y1 28 n 3 = Y 28 n 3) : RB c C Y1 ln M := by
  obtain ⟨⟨a1, a2⟩, ⟨b1, b2⟩, d1, d2⟩ := h
  have hv : ∀ g r l, Lv Y1 M g r l → Lv Y M g r l := fun g r l q => by
    unfold Lv LvF LvN LvI at *
    simp only [e7, f3] at q
    exact q
  refine ⟨⟨a1, fun x h0 h1 => ?_⟩, ⟨b1, fun n h0 h1 => ?_⟩, fun g r l q => d1 g r l (hv g r l q), fun g r l g' r' l' q q' => d2 _ _ _ _ _ _ (hv _ _ _ q) (hv _ _ _ q')⟩
  · rw [e5, e7]
    exact a2 x h0 h1
  · have h9 := b2 n h0 h1
    unfold nOK at *
    rw [f0, f3]
    exact h9
theorem RBn.cls (h : RBn c X Y ln) (hF : Frm L X X1) (hH : Frm N Y Y1) (hd : ∀ q ∈ L, q < 4000) (hd2 : ∀ q ∈ [4, 1600, 2700, 2802, 2803, 2902, 3100], q ∉ L) (he : ∀ q ∈ [1501, 1700, 2801, 2804], q ∉ N) : RBn c X1 Y1 ln := by
  have e40 := hF.hi hd 40 (by decide)
  refine ⟨((h.1.m (hF.hi hd)).cc (hF 0 0 3 (hd2 4 (by decide))) (hF.arr 16 (by decide +kernel) (hd2 1600 (by decide))) (hF.arr 27 (by decide +kernel) (hd2 2700 (by decide))) (hF.arr 31 (by decide +kernel) (hd2 3100 (by decide))) (fun n => hF 28 n 1 (hd2 2802 (by decide))) (fun n => hF 28 n 2 (hd2 2803 (by decide)))).y (fun x => hH 15 x 0 (he 1501 (by decide))) (hH.arr 17 (by decide +kernel) (he 1700 (by decide))) (fun n => hH 28 n 0 (he 2801 (by decide))) (fun n => hH 28 n 3 (he 2804 (by decide))), ?_⟩
  rw [hF 29 0 1 (hd2 2902 (by decide)), e40]
  exact h.2
theorem RBn.mdl (h : RBn c X Y ln) (hF : Frm L X X1) (hd : ∀ q ∈ L, 4000 < q) (hd2 : ∀ q ∈ [4014, 4021, 4023, 4400, 4600, 5500, 5600, 5700, 5800, 5900, 6200, 6400, 6500, 6600, 6700, 6800], q ∉ L) : RBn c X1 Y ln := by
  have nl : ∀ q, q < 4000 → q ∉ L := fun q hq hm => by
    have := hd q hm
    omega
  have k : ∀ κ, (lay κ).1 = 0 → κ * 100 ∈ [4400, 4600, 5500, 5600, 5700, 5800, 5900, 6200, 6400, 6500, 6600, 6700, 6800] → X1 κ = X κ := fun κ h0 hm => hF.arr κ h0 (hd2 _ (by simp only [List.mem_cons, List.not_mem_nil, or_false] at hm ⊢; omega))
  have e44 := k 44 (by decide +kernel) (by decide)
  have e46 := k 46 (by decide +kernel) (by decide)
  have e55 := k 55 (by decide +kernel) (by decide)
  have e56 := k 56 (by decide +kernel) (by decide)
  have e57 := k 57 (by decide +kernel) (by decide)
  have e58 := k 58 (by decide +kernel) (by decide)
  have e59 := k 59 (by decide +kernel) (by decide)
  have e62 := k 62 (by decide +kernel) (by decide)
  have e64 := k 64 (by decide +kernel) (by decide)
  have e65 := k 65 (by decide +kernel) (by decide)
  have e66 := k 66 (by decide +kernel) (by decide)
  have e67 := k 67 (by decide +kernel) (by decide)
  have e68 := k 68 (by decide +kernel) (by decide)
  have a13 := hF 40 0 13 (hd2 4014 (by decide))
  have a20 := hF 40 0 20 (hd2 4021 (by decide))
  have a22 := hF 40 0 22 (hd2 4023 (by decide))
  have h1 : RB c X1 Y ln X := h.1.mdl hF hd
  refine ⟨?_, by rw [hF 29 0 1 (nl 2902 (by decide)), a22]; exact h.2⟩
  unfold RB rH rN nOK rR Lv LvF LvN LvI lnM fcM at *
  simp only [a13, a20, a22, e44, e46, e55, e56, e57, e58, e59, e62, e64, e65, e66, e67, e68]
  exact h1
end FR
theorem fc28 (j : Int) : fcode 28 j = 2801 + j.toNat := by
  unfold fcode
  rw [if_neg (by decide +kernel)]
section JW
variable {X X1 X2 : Nat → Int → Int → Int} {Y Y1 : Nat → Int → Int → Option Int} {ln ln1 : Int → Int} {c c1 : Int} {L L0 N0 : List Nat}
/-- a row comes to a place -/
theorem J_rw {x k v r0 g0 : Int} {ro : Option Int} (hB : RB c X Y ln X) (hn : X 29 0 1 = X 40 0 22) (hm : X 29 0 3 = X 40 0 20) (hR : Rng X) (hp : 0 ≤ x ∧ x < X 40 0 13 ∧ 0 ≤ k ∧ k < X 44 0 (X 55 0 x)) (hl3 : 3 ≤ X 46 0 (5 * X 55 0 x + k))
    (hF : Frm L0 X X1) (hL0 : ∀ q ∈ L0, q < 4000) (hL1 : ∀ q ∈ [4, 3100], q ∉ L0) (hH : Frm N0 Y Y1) (hN0 : 1501 ∉ N0) (eC : eNoteC X X1 Y Y1 (some x) k v (Y 17 x k)) (hv : Y1 17 x k = ro) (ho : ∀ y j, ¬ (y = x ∧ j = k) → Y1 17 y j = Y 17 y j) (h16 : ∀ y j, X1 16 y j = X 16 y j)
    (hG : Frm L X1 X2) (hd : ∀ q ∈ L, 4000 < q) (hd2 : ∀ q ∈ [4400, 4600, 5500, 6200, 4014, 4021], q ∉ L) (eM : eNoteM X1 X2 x k (if 3 ≤ X1 46 0 (5 * X1 55 0 x + k) then X1 56 0 (5 * x + k) else -1) (-1) (X1 56 0 (5 * x + k))) (hv2 : X2 56 0 (5 * x + k) = r0) (ho2 : ∀ p, p ≠ 5 * x + k → X2 56 0 p = X1 56 0 p) (hnone : ro = none ↔ r0 < 0)
    (hc : 0 ≤ c ∧ c ≤ c1) (hkp : ∀ g r l, Lv Y X1 g r l → X2 57 0 r = l ∧ ln1 g = X2 58 0 r ∧ ∀ i, 0 ≤ i → i < ln1 g → X1 27 g i = X2 59 0 (12 * r + i)) (h57' : ∀ n, 0 ≤ n → n < X1 40 0 22 → 0 ≤ X1 67 0 n → X2 57 0 (X1 66 0 n) = X1 57 0 (X1 66 0 n))
    (hcase : ro = none ∨ (ro = some g0 ∧ Lv Y X1 g0 r0 (lnM X1 x k)) ∨ (ro = some g0 ∧ (c ≤ g0 ∧ g0 < c1) ∧ (0 ≤ r0 ∧ r0 ≤ 399) ∧ (∀ g r l, Lv Y X1 g r l → r ≠ r0) ∧ X2 57 0 r0 = lnM X1 x k ∧ ln1 g0 = X2 58 0 r0 ∧ ∀ i, 0 ≤ i → i < ln1 g0 → X1 27 g0 i = X2 59 0 (12 * r0 + i))) : RBn c1 X2 Y1 ln1 := by
  have hi := hF.hi hL0
  have h1 : RB c X Y ln X1 := hB.m hi
  have e40 := hi 40 (by decide)
  have e44 := hi 44 (by decide)
  have e46 := hi 46 (by decide)
  have e55 := hi 55 (by decide)
  rw [if_pos (by rw [e46, e55]; exact hl3)] at eM
  have hN := RB_row (M1 := X2) (g0 := g0) h1 (by rw [e40]; exact hn) (by rw [e40]; exact hm) (KpC.of hF hH hL1 hN0) (KpM.of hG hd2) (fun y => by unfold fcM; rw [e44]; exact (hR 44 0 _).2) (by unfold fcM; rw [e40, e44, e55]; exact hp) (by unfold lnM; rw [e46, e55]; exact hl3) eC hv ho h16 eM hv2 ho2 hnone hc hkp h57' hcase
  refine ⟨hN.1.mdl hG hd, ?_⟩
  have e9 : X2 29 0 1 = X1 29 0 1 := hG 29 0 1 (fun q => by
    have := hd 2902 q
    omega)
  rw [e9]
  exact hN.2
end JW
theorem RB_rn {C C1 M M1 : Nat → Int → Int → Int} {Y : Nat → Int → Int → Option Int} {ln : Int → Int} {c : Int} (h : RB c C Y ln M) (hrn : rN C1 Y M1) (e3 : C1 0 0 3 = C 0 0 3) (e16 : C1 16 = C 16) (e27 : C1 27 = C 27) (a13 : M1 40 0 13 = M 40 0 13) (a22 : M1 40 0 22 = M 40 0 22) (k : ∀ κ ∈ [44, 46, 55, 56, 57, 58, 59, 64, 65, 66, 67, 68], M1 κ = M κ) : RB c C1 Y ln M1 := by
  obtain ⟨h1, -, h3⟩ := h
  refine ⟨?_, hrn, ?_⟩
  · unfold rH lnM fcM at *
    rw [e3, e16, a13, k 44 (by decide), k 46 (by decide), k 55 (by decide), k 56 (by decide)]
    exact h1
  · unfold rR Lv LvF LvN LvI lnM fcM at *
    rw [e27, a13, a22, k 44 (by decide), k 46 (by decide), k 55 (by decide), k 56 (by decide), k 57 (by decide), k 58 (by decide), k 59 (by decide), k 64 (by decide), k 65 (by decide), k 66 (by decide), k 67 (by decide), k 68 (by decide)]
    exact h3
theorem RB.c2 {C C1 M : Nat → Int → Int → Int} {Y : Nat → Int → Int → Option Int} {ln : Int → Int} {c : Int} (h : RB c C Y ln M) (e3 : C1 0 0 3 = C 0 0 3) (e16 : C1 16 = C 16) (e27 : ∀ g, 0 ≤ g → g < c → C1 27 g = C 27 g) (e31 : C1 31 = C 31) (e1 : ∀ n, C1 28 n 1 = C 28 n 1) (e2 : ∀ n, C1 28 n 2 = C 28 n 2) : RB c C1 Y ln M := by
  obtain ⟨⟨a1, a2⟩, ⟨b1, b2⟩, d1, d2⟩ := h
  refine ⟨⟨by rw [e3]; exact a1, fun x h0 h1 => ?_⟩, ⟨fun m h0 h1 => by rw [e31]; exact b1 m h0 h1, fun n h0 h1 => ?_⟩, fun g r l q => ?_, d2⟩
  · rw [e16]
    exact a2 x h0 h1
  · have h9 := b2 n h0 h1
    unfold nOK at *
    rw [e1, e2]
    exact h9
  · obtain ⟨f1, f2, f3, f4, f5, f6, f7⟩ := d1 g r l q
    rw [e27 g f1 f2]
    exact ⟨f1, f2, f3, f4, f5, f6, f7⟩
end
