set_option maxHeartbeats 4000000 in
set_option maxRecDepth 100000 in
theorem c_X8_row (l : Launch) (D : va_G) (tc : Nat → ClassId) (base : Nat) (ad : Nat → Int → Nat) (cnt : Nat → Int) (X : Nat → Int → Int → Int) (Y : Nat → Int → Int → Option Int) (ln : Int → Int) (hR : Rng X) (hFx : Fx cnt) (hLn : LnOK ln) (hCI : CInv cnt X Y ln) (hOw : Own cnt) (hN : 0 ≤ cnt 25 ∧ 0 ≤ cnt 26) (x k n : Int) (hx : -2147483648 ≤ x ∧ x ≤ 2147483647) (hk : -2147483648 ≤ k ∧ k ≤ 2147483647) (hn : -2147483648 ≤ n ∧ n ≤ 2147483647) : KI l D tc base yX8_row wsX8_row ({ frames := 4, cells := 2, slots := 14, locals := 91 } : Room) [.ref (ad 0 0), .int (jI x), .int (jI k), .int (jI n)] (ad, cnt, X, Y, ln) 2 14 (fun z u => ∃ (ad1 : Nat → Int → Nat) (cnt1 : Nat → Int) (X1 : Nat → Int → Int → Int) (Y1 : Nat → Int → Int → Option Int) (ln1 : Int → Int), u = (ad1, cnt1, X1, Y1, ln1) ∧ Ext ad cnt ln ad1 cnt1 ln1 ∧ Fx cnt1 ∧ Own cnt1 ∧ LnOK ln1 ∧ Rng X1 ∧ Frm [2802, 2803, 2902, 2602, 2700] X X1 ∧ Frm [2801, 2804, 1700] Y Y1 ∧ CInv cnt1 X1 Y1 ln1 ∧ (-2147483648 ≤ z ∧ z ≤ 2147483647) ∧ ((¬ (0 ≤ x ∧ x < X 0 0 3 ∧ 0 ≤ k ∧ k < X 19 (tyo (Y 15 x 0)) 1) ∧ z = -1) ∨ ((0 ≤ x ∧ x < X 0 0 3 ∧ 0 ≤ k ∧ k < X 19 (tyo (Y 15 x 0)) 1) ∧ 12 < n ∧ z = -2) ∨ ((0 ≤ x ∧ x < X 0 0 3 ∧ 0 ≤ k ∧ k < X 19 (tyo (Y 15 x 0)) 1) ∧ n ≤ 12 ∧ X 21 (tyo (Y 15 x 0)) k < 3 ∧ z = -14) ∨ ((0 ≤ x ∧ x < X 0 0 3 ∧ 0 ≤ k ∧ k < X 19 (tyo (Y 15 x 0)) 1) ∧ n ≤ 12 ∧ 3 ≤ X 21 (tyo (Y 15 x 0)) k ∧ n < -1 ∧ z = -13) ∨ ((0 ≤ x ∧ x < X 0 0 3 ∧ 0 ≤ k ∧ k < X 19 (tyo (Y 15 x 0)) 1) ∧ n ≤ 12 ∧ 3 ≤ X 21 (tyo (Y 15 x 0)) k ∧ -1 ≤ n ∧ 80 ≤ X 29 0 1 ∧ z = -4) ∨ ((0 ≤ x ∧ x < X 0 0 3 ∧ 0 ≤ k ∧ k < X 19 (tyo (Y 15 x 0)) 1) ∧ n ≤ 12 ∧ 3 ≤ X 21 (tyo (Y 15 x 0)) k ∧ -1 ≤ n ∧ X 29 0 1 ≤ 79 ∧ z = 1)) ∧ (∀ g, 0 ≤ g → g < cnt 26 → X1 27 g = X 27 g) ∧ (z < 0 → Frm [2602, 2700] X X1 ∧ Y1 = Y) ∧ (z = 1 → eNoteC X X1 Y Y1 (some x) k (X 16 x k) (Y 17 x k) ∧ (∀ p q, ¬ (p = x ∧ q = k) → Y1 17 p q = Y 17 p q) ∧ (∀ p q, X1 16 p q = X 16 p q) ∧ ((n = -1 ∧ Y1 17 x k = none) ∨ (0 ≤ n ∧ ∃ g, Y1 17 x k = some g ∧ cnt 26 ≤ g ∧ g < cnt1 26 ∧ ln1 g = n ∧ ∀ i, X1 27 g i = 0)))) := by
  refine K_of (cc := cX8_row) (maxL := 5) (ret := (some .int)) (by decide) rfl (Nat.le_of_ble_eq_true rfl) ?_
  intro p e s m below meth c ls hx hb hr hml hown hts hlocks hl hK hw hS
  have hown : s.vm.findClass RX8 = some m.cls := hown
  have hbs : base ≤ s.heap.size := wd_size hw
  obtain ⟨av9, hav9⟩ : ∃ a9 : Array Value, a9 = ([.ref (ad 0 0), .int (jI x), .int (jI k), .int (jI n)] : List Value).toArray := ⟨_, rfl⟩
  rw [← hav9] at hts ⊢
  obtain ⟨Q9, hQ9⟩ : ∃ q9Q : State → Prop, q9Q = MQ below (QI D tc base (fun z u => ∃ (ad1 : Nat → Int → Nat) (cnt1 : Nat → Int) (X1 : Nat → Int → Int → Int) (Y1 : Nat → Int → Int → Option Int) (ln1 : Int → Int), u = (ad1, cnt1, X1, Y1, ln1) ∧ Ext ad cnt ln ad1 cnt1 ln1 ∧ Fx cnt1 ∧ Own cnt1 ∧ LnOK ln1 ∧ Rng X1 ∧ Frm [2802, 2803, 2902, 2602, 2700] X X1 ∧ Frm [2801, 2804, 1700] Y Y1 ∧ CInv cnt1 X1 Y1 ln1 ∧ (-2147483648 ≤ z ∧ z ≤ 2147483647) ∧ ((¬ (0 ≤ x ∧ x < X 0 0 3 ∧ 0 ≤ k ∧ k < X 19 (tyo (Y 15 x 0)) 1) ∧ z = -1) ∨ ((0 ≤ x ∧ x < X 0 0 3 ∧ 0 ≤ k ∧ k < X 19 (tyo (Y 15 x 0)) 1) ∧ 12 < n ∧ z = -2) ∨ ((0 ≤ x ∧ x < X 0 0 3 ∧ 0 ≤ k ∧ k < X 19 (tyo (Y 15 x 0)) 1) ∧ n ≤ 12 ∧ X 21 (tyo (Y 15 x 0)) k < 3 ∧ z = -14) ∨ ((0 ≤ x ∧ x < X 0 0 3 ∧ 0 ≤ k ∧ k < X 19 (tyo (Y 15 x 0)) 1) ∧ n ≤ 12 ∧ 3 ≤ X 21 (tyo (Y 15 x 0)) k ∧ n < -1 ∧ z = -13) ∨ ((0 ≤ x ∧ x < X 0 0 3 ∧ 0 ≤ k ∧ k < X 19 (tyo (Y 15 x 0)) 1) ∧ n ≤ 12 ∧ 3 ≤ X 21 (tyo (Y 15 x 0)) k ∧ -1 ≤ n ∧ 80 ≤ X 29 0 1 ∧ z = -4) ∨ ((0 ≤ x ∧ x < X 0 0 3 ∧ 0 ≤ k ∧ k < X 19 (tyo (Y 15 x 0)) 1) ∧ n ≤ 12 ∧ 3 ≤ X 21 (tyo (Y 15 x 0)) k ∧ -1 ≤ n ∧ X 29 0 1 ≤ 79 ∧ z = 1)) ∧ (∀ g, 0 ≤ g → g < cnt 26 → X1 27 g = X 27 g) ∧ (z < 0 → Frm [2602, 2700] X X1 ∧ Y1 = Y) ∧ (z = 1 → eNoteC X X1 Y Y1 (some x) k (X 16 x k) (Y 17 x k) ∧ (∀ p q, ¬ (p = x ∧ q = k) → Y1 17 p q = Y 17 p q) ∧ (∀ p q, X1 16 p q = X 16 p q) ∧ ((n = -1 ∧ Y1 17 x k = none) ∨ (0 ≤ n ∧ ∃ g, Y1 17 x k = some g ∧ cnt 26 ≤ g ∧ g < cnt1 26 ∧ ln1 g = n ∧ ∀ i, X1 27 g i = 0))))) av9 s 2 14 (frA base) := ⟨_, rfl⟩
  rw [← hQ9]
  obtain ⟨ad0, ha0⟩ : ∃ a, a = ad := ⟨_, rfl⟩
  obtain ⟨cnt0, hc0⟩ : ∃ a, a = cnt := ⟨_, rfl⟩
  obtain ⟨ln0, hl0⟩ : ∃ a, a = ln := ⟨_, rfl⟩
  have hE9 : ∀ a c n, Ext ad0 cnt0 ln0 a c n → Ext ad cnt ln a c n := by rw [ha0, hc0, hl0]; exact fun _ _ _ h => h
  have hE : Ext ad0 cnt0 ln0 ad cnt ln := by rw [ha0, hc0, hl0]; exact Ext.rf
  clear ha0 hc0 hl0
  have hi5 : ∀ w ∈ wsX50, w ∈ wsX8_row := fun w h => List.mem_cons_of_mem _ (List.mem_append_left _ (List.mem_append_left _ (List.mem_append_left _ (List.mem_append_right _ h))))
  have hf5 : fctx s m _ RX8 wsX8_row D tc RX5 TX5 2 5 := ⟨hts, hi5, hown, hK.1, rfl⟩
  have hi6 : ∀ w ∈ wsX60, w ∈ wsX8_row := fun w h => List.mem_cons_of_mem _ (List.mem_append_left _ (List.mem_append_left _ (List.mem_append_left _ (List.mem_append_left _ (List.mem_append_left _ (List.mem_append_right _ h))))))
  have hf6 : fctx s m _ RX8 wsX8_row D tc RX6 TX6 4 6 := ⟨hts, hi6, hown, hK.1, rfl⟩
  have hi7 : ∀ w ∈ wsX70, w ∈ wsX8_row := fun w h => List.mem_cons_of_mem _ (List.mem_append_left _ (List.mem_append_left _ (List.mem_append_left _ (List.mem_append_left _ (List.mem_append_right _ h)))))
  have hf7 : fctx s m _ RX8 wsX8_row D tc RX7 TX7 8 7 := ⟨hts, hi7, hown, hK.1, rfl⟩
  have lk97 := hts (.fieldLink RX8 97 (TX6 0).1 (TX6 0).2.1 (TX6 0).2.2.1) (gj_X8_row_0 _ (gp_h))
  have lk135 := hts (.fieldLink RX8 135 (TX7 3).1 (TX7 3).2.1 (TX7 3).2.2.1) (gj_X8_row_0 _ (gp_1 gp_h))
  have hc0 : cnt 0 = 1 := hFx.at 0 1 (by decide)
  have hc15 : cnt 15 = 30 := hFx.at 15 30 (by decide)
  have hc21 : cnt 21 = cnt 19 := hFx.2.1 21 (by decide)
  have hc27 : cnt 27 = cnt 26 := hFx.2.2
  have hl : lv_has ls 5 [(0, .ref (ad 0 0)), (1, .int (jI x)), (2, .int (jI k)), (3, .int (jI n))] := hl
  have ftc : 0 ≤ X 0 0 3 ∧ X 0 0 3 ≤ 30 := hR 0 0 3
  have fty : 0 ≤ X 0 0 1 ∧ X 0 0 1 ≤ 8 := hR 0 0 1
  have hct : cnt 19 = X 0 0 1 := hCI.2.2.2.1.1
  have hfj : 0 ≤ X 29 0 3 ∧ X 29 0 3 ≤ 4 := hR 29 0 3
  have hfn : 0 ≤ X 29 0 1 ∧ X 29 0 1 ≤ 80 := hR 29 0 1
  refine lv_aload_n hx hb dX8_row_0 rfl (lv_at hl 0 rfl) ?_
  refine lv_iload_n hx hb dX8_row_1 rfl (lv_at hl 1 rfl) ?_
  refine lv_iload_n hx hb dX8_row_2 rfl (lv_at hl 2 rfl) ?_
  refine gos_r (run_V (As := [.int (jI x), .int (jI k)]) (rest := []) hx hb hml hown hts (c_X8_thingWithField l D tc base ad cnt X Y ln hR hFx hLn hCI x k (by omega) (by omega)) (cwV 2 hts gX8_row_X8_thingWithField rfl rfl rfl (by first | exact hd_X8_thingWithField | decide +kernel) ⟨Nat.le_of_ble_eq_true rfl, Nat.le_of_ble_eq_true rfl⟩) hK hw (by first | exact Int.le_refl 0 | omega) (by first | exact zlt hc0 | omega) sl_0_0 rfl rfl hl.1 rfl (Nat.le_of_ble_eq_true rfl) dX8_row_3 ⟨(by show _ ≤ (2 : Nat); omega), (by show _ ≤ (14 : Nat); omega)⟩) hS (fun u2 H locs p3 hw hS => ?_) (fun z1 u2 H locs p3 hw hS => ?_)
  · obtain ⟨eu2, hsp3, hnp3⟩ := p3
    subst eu2
    refine lv_astoreN (lv' := [(4, .null), (0, .ref (ad 0 0)), (1, .int (jI x)), (2, .int (jI k)), (3, .int (jI n))]) hx hb dX8_row_6 hl (by decide) rfl (fun ls hl => ?_)
    refine lv_aloadN hx hb dX8_row_8 (lv_at hl 0 rfl) ?_
    refine lv_ifnonnullN hx hb dX8_row_10 ?_
    refine lv_iconst (v := jI (-1)) hx hb dX8_row_13 rfl ?_
    rw [hQ9]
    refine ret_i (mc := 2) (ms := 14) hx hb hr hlocks hw hS (by first | exact Nat.le_of_ble_eq_true rfl | omega) (by first | exact Nat.le_of_ble_eq_true rfl | omega) dX8_row_14 ?_
    have h9n4 : ¬ (0 ≤ x ∧ x < X 0 0 3 ∧ 0 ≤ k ∧ k < X 19 (tyo (Y 15 x 0)) 1) := hnp3 rfl
    exact ⟨ad, cnt, X, Y, ln, rfl, hE9 _ _ _ hE, hFx, hOw, hLn, hR, Frm.rf, Frm.rf, hCI, by omega, (by exact Or.inl ⟨(fun q => by (try delta Hid at *); omega), (by (try delta Hid at *); omega)⟩), fun g9 a b => funext fun j9 => rfl, fun _ => ⟨Frm.rf, rfl⟩, fun q => (by exfalso; omega)⟩
  · obtain ⟨eu2, hsp3, hnp3⟩ := p3
    subst eu2
    obtain ⟨ezz1, p3, h1p3, h2p3, h3p3, h4p3, h5p3⟩ := hsp3 z1 rfl
    refine lv_astore (lv' := [(4, .ref (ad 15 z1)), (0, .ref (ad 0 0)), (1, .int (jI x)), (2, .int (jI k)), (3, .int (jI n))]) hx hb dX8_row_6 hl (by decide) rfl (fun ls hl => ?_)
    refine lv_aload hx hb dX8_row_8 (lv_at hl 0 rfl) ?_
    refine lv_ifnonnull (tgt := 15) hx hb dX8_row_10 (by decide) ?_
    refine lv_iload_n hx hb dX8_row_15 rfl (lv_at hl 4 rfl) ?_
    refine lv_bipush (v := jI 12) hx hb dX8_row_16 (by decide) ?_
    refine x_icmp_le (tgt := 24) hx hb (by omega) (by omega) dX8_row_18 (by decide) (fun c5 => ?_) (fun c5 => ?_)
    · refine lv_aload hx hb dX8_row_24 (lv_at hl 0 rfl) ?_
      refine x_getr (jz := 0) hx hb hf6 hw (by omega) (by omega) sl_15_0 rfl lk97 dX8_row_26 (fun y6 => ?_) (fun r7 y6 gr7 lr7 => ?_)
      · exfalso
        exact absurd y6 (hCI.2.2.2.2.1 z1 (by omega) (by omega))
      · refine x_geto hx hb hf7 hw (by omega) (by omega) sl_19_3 lk135 dX8_row_29 ?_
        refine lv_iload_n hx hb dX8_row_32 rfl (lv_at hl 3 rfl) ?_
        refine x_iald hx hb hK.1 hw (by omega) (by omega) ar_21 (len_E ar_21 (by first | exact Nat.ne_of_beq_eq_false rfl | decide)) (by omega) (by omega) (by omega) dX8_row_33 ?_
        have f8 : 0 ≤ X 21 r7 k ∧ X 21 r7 k ≤ 5 := hR 21 r7 k
        refine gos_i (run_S (As := [.int (jI (X 21 r7 k))]) (rest := []) hx hb hml hown hts (c_X8_isRowLane l D tc base ad cnt X Y ln (X 21 r7 k) (by omega)) (cwS 1 hts gX8_row_X8_isRowLane rfl rfl rfl (by first | exact hd_X8_isRowLane | decide +kernel) ⟨Nat.le_of_ble_eq_true rfl, Nat.le_of_ble_eq_true rfl⟩) hK hw rfl hl.1 rfl (Nat.le_of_ble_eq_true rfl) dX8_row_34 ⟨(by show _ ≤ (2 : Nat); omega), (by show _ ≤ (14 : Nat); omega)⟩) hS (fun z9 u10 H locs p11 hw hS => ?_)
        obtain ⟨eu10, p11⟩ := p11
        subst eu10
        rcases p11 with ⟨ez9, p11⟩ | ⟨ez9, p11⟩
        · subst ez9
          refine x_if_neT (tgt := 45) hx hb (by omega) (by decide) dX8_row_37 (by decide) ?_
          refine lv_iload_n hx hb dX8_row_45 rfl (lv_at hl 4 rfl) ?_
          refine lv_iconst (v := jI (-1)) hx hb dX8_row_46 rfl ?_
          refine x_icmp_ge (tgt := 55) hx hb (by omega) (by omega) dX8_row_47 (by decide) (fun c12 => ?_) (fun c12 => ?_)
          · refine lv_aload_n hx hb dX8_row_55 rfl (lv_at hl 1 rfl) ?_
            refine lv_aload hx hb dX8_row_56 (lv_at hl 0 rfl) ?_
            refine lv_iload_n hx hb dX8_row_58 rfl (lv_at hl 3 rfl) ?_
            refine lv_iload_n hx hb dX8_row_59 rfl (lv_at hl 4 rfl) ?_
            refine lv_iconst (v := jI (-1)) hx hb dX8_row_60 rfl ?_
            refine x_icmp_ne (tgt := 68) hx hb (by omega) (by omega) dX8_row_61 (by decide) (fun c13 => ?_) (fun c13 => ?_)
            · refine g_new (E := []) (G := []) (ci := 5) (fs := [.null, .int 0]) hx hb hf5 ⟨tyX5_ok, nmX5⟩ (hts (.classLink RX8 42 RX5) (by first | exact gj_X8_row_0 _ (gp_1 (gp_1 gp_h)) | decide +kernel)) (hts (.instantiable RX5 2) (by first | exact gj_X8_row_0 _ (gp_1 (gp_1 (gp_1 gp_h))) | decide +kernel)) (hts (.initialized RX5) (by first | exact gj_X8_row_0 _ (gp_4 gp_h) | decide +kernel)) (wx_of hw) hS hbs (fun j hj => by rcases (show j = 0 ∨ j = 1 by omega) with rfl | rfl <;> rfl) (by show _ ≤ (2 : Nat); omega) (by show _ ≤ (14 : Nat); omega) dX8_row_68 (fun q14 H hwx hS => ?_)
              have hwx : wx D tc base (ad, cnt, X, Y, ln) ([] ++ [(q14, .inr (5, [.null, .int 0]))]) H := hwx
              have hw := wx_wd hwx
              refine lv_dup hx hb dX8_row_71 rfl ?_
              refine lv_iload_n hx hb dX8_row_72 rfl (lv_at hl 4 rfl) ?_
              refine gos_x (run_I (As := [.int (jI n)]) (rest := [.ref q14, .int (jI k), .ref (ad 15 z1), .ref (ad 0 0)]) hx hb hml hown hts (c_X5_init l D tc base (ad, cnt, X, Y, ln) [] q14 n (by omega)) (cwI 1 hts gX8_row_X5_init rfl rfl rfl (hts (.initialized RX5) (by first | exact gj_X8_row_0 _ (gp_4 gp_h) | decide +kernel)) (hts (.methodLink RX8 153 yX5_init) (by first | exact gj_X8_row_1 _ (gp_4 (gp_1 (gp_1 gp_h))) | decide +kernel)) (hts (.instanceMethod yX5_init) (by first | exact gj_X8_row_1 _ (gp_4 (gp_1 (gp_1 (gp_1 gp_h)))) | decide +kernel)) rfl (by decide +kernel) ⟨Nat.le_of_ble_eq_true rfl, Nat.le_of_ble_eq_true rfl⟩) hK hwx rfl hl.1 rfl (Nat.le_of_ble_eq_true rfl) dX8_row_73 ⟨by show _ ≤ (2 : Nat); omega, by show _ ≤ (14 : Nat); omega⟩) hS (fun u9 E15 H locs p16 hwx hS => ?_)
              obtain ⟨g17, hg17⟩ : ∃ g, g = cnt 26 := ⟨_, rfl⟩
              obtain ⟨rfl, q21, rfl⟩ := p16
              have hwx := (show wx D tc base (ad, cnt, X, Y, ln) ([] ++ _) H from hwx)
              obtain ⟨ad, cnt, X18, ln, hw, hE19, hFx, hOw, hLn, hRX18, hG20, hCIX18, hkg17, hag17, hlng17, hz0g17, hx7g17⟩ := born_row hwx (by omega) hFx hOw (by omega) hR hLn hCI
              rw [← hg17] at hkg17 hag17 hlng17 hz0g17 hx7g17
              have hFX18 : Frm [2802, 2803, 2902, 2602, 2700] X X18 := Frm.tr Frm.rf (Frm.mono hG20 (by first | exact nls_of rfl | decide))
              have hE := Ext.tr hE hE19
              have hm22 := hE19.2.1 19
              have hm23 := hE19.2.1 25
              have hm24 := hE19.2.1 26
              have hN : 0 ≤ cnt 25 ∧ 0 ≤ cnt 26 := by omega
              have ha25 := hE19.1 15 z1 (by omega) (by omega)
              have ha26 := hE19.1 0 0 (by omega) (by omega)
              have hc0 : cnt 0 = 1 := hFx.at 0 1 (by decide)
              have hc15 : cnt 15 = 30 := hFx.at 15 30 (by decide)
              have hc21 : cnt 21 = cnt 19 := hFx.2.1 21 (by decide)
              have hc27 : cnt 27 = cnt 26 := hFx.2.2
              have hl : lv_has ls 5 [(4, .ref (ad 15 z1)), (0, .ref (ad 0 0)), (1, .int (jI x)), (2, .int (jI k)), (3, .int (jI n))] := by rw [ha25, ha26]; exact hl
              refine W.eq (g2 := F0 m 76 ls [.ref (ad 26 g17), .int (jI k), .ref (ad 15 z1), .ref (ad 0 0)]) (by first | rfl | (rw [ha25, ha26, hag17]; done) | (rw [ha25, ha26, hag17]; rfl)) ?_
              refine gos_i (run_V (As := [.ref (ad 15 z1), .int (jI k), .ref (ad 26 g17)]) (rest := []) hx hb hml hown hts (c_X8_changeRow_r l D tc base ad cnt X18 Y ln hRX18 hFx hLn hCIX18 z1 k g17 (by omega) (by omega) (by omega)) (cwV 3 hts gX8_row_X8_changeRow rfl rfl rfl (by first | exact hd_X8_changeRow | decide +kernel) ⟨Nat.le_of_ble_eq_true rfl, Nat.le_of_ble_eq_true rfl⟩) hK hw (by first | exact Int.le_refl 0 | omega) (by first | exact zlt hc0 | omega) sl_0_0 rfl rfl hl.1 rfl (Nat.le_of_ble_eq_true rfl) dX8_row_76 ⟨(by show _ ≤ (2 : Nat); omega), (by show _ ≤ (14 : Nat); omega)⟩) hS (fun z27 u28 H locs p29 hw hS => ?_)
              obtain ⟨X30, Y31, eu28, hRX30, hG32, hJ33, hCIX30, p29, hcvX30⟩ := p29
              subst eu28
              have hFX30 : Frm [2802, 2803, 2902, 2602, 2700] X X30 := Frm.tr hFX18 (Frm.mono hG32 (by first | exact nls_of rfl | decide))
              have hHY31 : Frm [2801, 2804, 1700] Y Y31 := Frm.tr Frm.rf (Frm.mono hJ33 (by first | exact nls_of rfl | decide))
              rw [hQ9]
              refine ret_i (mc := 2) (ms := 14) hx hb hr hlocks hw hS (by first | exact Nat.le_of_ble_eq_true rfl | omega) (by first | exact Nat.le_of_ble_eq_true rfl | omega) dX8_row_79 ?_
              have hT34 : tyo (Y 15 x 0) = r7 := by rw [← ezz1]; exact tyo_some y6
              have hk35 : k < X 19 r7 1 := h5p3 r7 (by rw [← ezz1]; exact y6)
              have e2936 : X18 29 0 1 = X 29 0 1 := (by rw [hG20 29 0 1 (show 2902 ∉ [2602, 2700] by first | exact nlm_ni rfl | decide)])
              have q37 : Frm [2602, 2700] X X18 := Frm.tr Frm.rf (Frm.mono hG20 (by first | exact nls_of rfl | decide))
              rcases hcvX30 with ⟨c1, c2, c3, c4⟩ | ⟨c1, c2, c3, c4, c5, c6⟩
              · refine ⟨ad, cnt, X30, Y31, ln, rfl, hE9 _ _ _ hE, hFx, hOw, hLn, hRX30, hFX30, hHY31, hCIX30, ?g9p820, ?g9p821, ?g9p822, ?g9p823, ?g9p824⟩
                case g9p820 => omega
                case g9p821 => rw [hT34]; first | (have h9z : (z27 : Int) = -1 := (by omega); exact Or.inl ⟨(fun q => by (try delta Hid at *); omega), (by (try delta Hid at *); omega)⟩) | (have h9z : (z27 : Int) = -2 := (by omega); exact Or.inr (Or.inl ⟨(by (try delta Hid at *); omega), (by (try delta Hid at *); omega), (by (try delta Hid at *); omega)⟩)) | (have h9z : (z27 : Int) = -14 := (by omega); exact Or.inr (Or.inr (Or.inl ⟨(by (try delta Hid at *); omega), (by (try delta Hid at *); omega), (by (try delta Hid at *); omega), (by (try delta Hid at *); omega)⟩))) | (have h9z : (z27 : Int) = -13 := (by omega); exact Or.inr (Or.inr (Or.inr (Or.inl ⟨(by (try delta Hid at *); omega), (by (try delta Hid at *); omega), (by (try delta Hid at *); omega), (by (try delta Hid at *); omega), (by (try delta Hid at *); omega)⟩)))) | (have h9z : (z27 : Int) = -4 := (by omega); exact Or.inr (Or.inr (Or.inr (Or.inr (Or.inl ⟨(by (try delta Hid at *); omega), (by (try delta Hid at *); omega), (by (try delta Hid at *); omega), (by (try delta Hid at *); omega), (by (try delta Hid at *); omega), (by (try delta Hid at *); omega)⟩))))) | (have h9z : (z27 : Int) = 1 := (by omega); exact Or.inr (Or.inr (Or.inr (Or.inr (Or.inr (⟨(by (try delta Hid at *); omega), (by (try delta Hid at *); omega), (by (try delta Hid at *); omega), (by (try delta Hid at *); omega), (by (try delta Hid at *); omega), (by (try delta Hid at *); omega)⟩)))))) | exact Or.inl ⟨(fun q => by (try delta Hid at *); omega), (by (try delta Hid at *); omega)⟩ | exact Or.inr (Or.inl ⟨(by (try delta Hid at *); omega), (by (try delta Hid at *); omega), (by (try delta Hid at *); omega)⟩) | exact Or.inr (Or.inr (Or.inl ⟨(by (try delta Hid at *); omega), (by (try delta Hid at *); omega), (by (try delta Hid at *); omega), (by (try delta Hid at *); omega)⟩)) | exact Or.inr (Or.inr (Or.inr (Or.inl ⟨(by (try delta Hid at *); omega), (by (try delta Hid at *); omega), (by (try delta Hid at *); omega), (by (try delta Hid at *); omega), (by (try delta Hid at *); omega)⟩))) | exact Or.inr (Or.inr (Or.inr (Or.inr (Or.inl ⟨(by (try delta Hid at *); omega), (by (try delta Hid at *); omega), (by (try delta Hid at *); omega), (by (try delta Hid at *); omega), (by (try delta Hid at *); omega), (by (try delta Hid at *); omega)⟩)))) | exact Or.inr (Or.inr (Or.inr (Or.inr (Or.inr (⟨(by (try delta Hid at *); omega), (by (try delta Hid at *); omega), (by (try delta Hid at *); omega), (by (try delta Hid at *); omega), (by (try delta Hid at *); omega), (by (try delta Hid at *); omega)⟩)))))
                case g9p822 => exact fun g9 a b => funext fun j9 => (by rw [hG32 27 g9 j9 (show 2700 ∉ [2802, 2803, 2902] by first | exact nlm_ni rfl | decide)]; exact (congrFun (hx7g17 27 g9 (by omega)) j9))
                case g9p823 => exact fun _ => ⟨(by rw [c3]; exact q37), c4⟩
                case g9p824 => exact fun q => (by exfalso; omega)
              · refine ⟨ad, cnt, X30, Y31, ln, rfl, hE9 _ _ _ hE, hFx, hOw, hLn, hRX30, hFX30, hHY31, hCIX30, ?g9p825, ?g9p826, ?g9p827, ?g9p828, ?g9p829⟩
                case g9p825 => omega
                case g9p826 => rw [hT34]; first | (have h9z : (z27 : Int) = -1 := (by omega); exact Or.inl ⟨(fun q => by (try delta Hid at *); omega), (by (try delta Hid at *); omega)⟩) | (have h9z : (z27 : Int) = -2 := (by omega); exact Or.inr (Or.inl ⟨(by (try delta Hid at *); omega), (by (try delta Hid at *); omega), (by (try delta Hid at *); omega)⟩)) | (have h9z : (z27 : Int) = -14 := (by omega); exact Or.inr (Or.inr (Or.inl ⟨(by (try delta Hid at *); omega), (by (try delta Hid at *); omega), (by (try delta Hid at *); omega), (by (try delta Hid at *); omega)⟩))) | (have h9z : (z27 : Int) = -13 := (by omega); exact Or.inr (Or.inr (Or.inr (Or.inl ⟨(by (try delta Hid at *); omega), (by (try delta Hid at *); omega), (by (try delta Hid at *); omega), (by (try delta Hid at *); omega), (by (try delta Hid at *); omega)⟩)))) | (have h9z : (z27 : Int) = -4 := (by omega); exact Or.inr (Or.inr (Or.inr (Or.inr (Or.inl ⟨(by (try delta Hid at *); omega), (by (try delta Hid at *); omega), (by (try delta Hid at *); omega), (by (try delta Hid at *); omega), (by (try delta Hid at *); omega), (by (try delta Hid at *); omega)⟩))))) | (have h9z : (z27 : Int) = 1 := (by omega); exact Or.inr (Or.inr (Or.inr (Or.inr (Or.inr (⟨(by (try delta Hid at *); omega), (by (try delta Hid at *); omega), (by (try delta Hid at *); omega), (by (try delta Hid at *); omega), (by (try delta Hid at *); omega), (by (try delta Hid at *); omega)⟩)))))) | exact Or.inl ⟨(fun q => by (try delta Hid at *); omega), (by (try delta Hid at *); omega)⟩ | exact Or.inr (Or.inl ⟨(by (try delta Hid at *); omega), (by (try delta Hid at *); omega), (by (try delta Hid at *); omega)⟩) | exact Or.inr (Or.inr (Or.inl ⟨(by (try delta Hid at *); omega), (by (try delta Hid at *); omega), (by (try delta Hid at *); omega), (by (try delta Hid at *); omega)⟩)) | exact Or.inr (Or.inr (Or.inr (Or.inl ⟨(by (try delta Hid at *); omega), (by (try delta Hid at *); omega), (by (try delta Hid at *); omega), (by (try delta Hid at *); omega), (by (try delta Hid at *); omega)⟩))) | exact Or.inr (Or.inr (Or.inr (Or.inr (Or.inl ⟨(by (try delta Hid at *); omega), (by (try delta Hid at *); omega), (by (try delta Hid at *); omega), (by (try delta Hid at *); omega), (by (try delta Hid at *); omega), (by (try delta Hid at *); omega)⟩)))) | exact Or.inr (Or.inr (Or.inr (Or.inr (Or.inr (⟨(by (try delta Hid at *); omega), (by (try delta Hid at *); omega), (by (try delta Hid at *); omega), (by (try delta Hid at *); omega), (by (try delta Hid at *); omega), (by (try delta Hid at *); omega)⟩)))))
                case g9p827 => exact fun g9 a b => funext fun j9 => (by rw [hG32 27 g9 j9 (show 2700 ∉ [2802, 2803, 2902] by first | exact nlm_ni rfl | decide)]; exact (congrFun (hx7g17 27 g9 (by omega)) j9))
                case g9p828 => exact fun q => (by exfalso; omega)
                case g9p829 => exact fun _ => (by rw [← ezz1]; exact ⟨(by have h9 := eNoteC.from (M := [2602, 2700]) (N := []) c3 q37 Frm.rf (by decide) (fun n j => q37 28 n j (by rw [fcode28]; simp only [List.mem_cons, List.not_mem_nil, or_false]; omega)) (fun n j => rfl); rw [(show X18 16 z1 k = X 16 z1 k from (by rw [hG20 16 z1 k (show 1600 ∉ [2602, 2700] by first | exact nlm_ni rfl | decide)]))] at h9; exact h9), c5, (fun p9 q9 => (c6 p9 q9).trans (by rw [hG20 16 p9 q9 (show 1600 ∉ [2602, 2700] by first | exact nlm_ni rfl | decide)])), Or.inr ⟨by omega, g17, c4, by omega, by omega, hlng17, fun i9 => (by rw [hG32 27 g17 i9 (show 2700 ∉ [2802, 2803, 2902] by first | exact nlm_ni rfl | decide)]; exact hz0g17 i9)⟩⟩)
            · refine lv_null hx hb dX8_row_64 ?_
              refine lv_goto (tgt := 76) hx hb dX8_row_65 (by decide) ?_
              refine gos_i (run_V (As := [.ref (ad 15 z1), .int (jI k), .null]) (rest := []) hx hb hml hown hts (c_X8_changeRow_n l D tc base ad cnt X Y ln hR hFx hLn hCI z1 k (by omega) (by omega)) (cwV 3 hts gX8_row_X8_changeRow rfl rfl rfl (by first | exact hd_X8_changeRow | decide +kernel) ⟨Nat.le_of_ble_eq_true rfl, Nat.le_of_ble_eq_true rfl⟩) hK hw (by first | exact Int.le_refl 0 | omega) (by first | exact zlt hc0 | omega) sl_0_0 rfl rfl hl.1 rfl (Nat.le_of_ble_eq_true rfl) dX8_row_76 ⟨(by show _ ≤ (2 : Nat); omega), (by show _ ≤ (14 : Nat); omega)⟩) hS (fun z39 u40 H locs p41 hw hS => ?_)
              obtain ⟨X42, Y43, eu40, hRX42, hG44, hJ45, hCIX42, p41, hcvX42⟩ := p41
              subst eu40
              have hFX42 : Frm [2802, 2803, 2902, 2602, 2700] X X42 := Frm.tr Frm.rf (Frm.mono hG44 (by first | exact nls_of rfl | decide))
              have hHY43 : Frm [2801, 2804, 1700] Y Y43 := Frm.tr Frm.rf (Frm.mono hJ45 (by first | exact nls_of rfl | decide))
              rw [hQ9]
              refine ret_i (mc := 2) (ms := 14) hx hb hr hlocks hw hS (by first | exact Nat.le_of_ble_eq_true rfl | omega) (by first | exact Nat.le_of_ble_eq_true rfl | omega) dX8_row_79 ?_
              have hT46 : tyo (Y 15 x 0) = r7 := by rw [← ezz1]; exact tyo_some y6
              have hk47 : k < X 19 r7 1 := h5p3 r7 (by rw [← ezz1]; exact y6)
              rcases hcvX42 with ⟨c1, c2, c3, c4⟩ | ⟨c1, c2, c3, c4, c5, c6⟩
              · refine ⟨ad, cnt, X42, Y43, ln, rfl, hE9 _ _ _ hE, hFx, hOw, hLn, hRX42, hFX42, hHY43, hCIX42, ?g9p830, ?g9p831, ?g9p832, ?g9p833, ?g9p834⟩
                case g9p830 => omega
                case g9p831 => rw [hT46]; first | (have h9z : (z39 : Int) = -1 := (by omega); exact Or.inl ⟨(fun q => by (try delta Hid at *); omega), (by (try delta Hid at *); omega)⟩) | (have h9z : (z39 : Int) = -2 := (by omega); exact Or.inr (Or.inl ⟨(by (try delta Hid at *); omega), (by (try delta Hid at *); omega), (by (try delta Hid at *); omega)⟩)) | (have h9z : (z39 : Int) = -14 := (by omega); exact Or.inr (Or.inr (Or.inl ⟨(by (try delta Hid at *); omega), (by (try delta Hid at *); omega), (by (try delta Hid at *); omega), (by (try delta Hid at *); omega)⟩))) | (have h9z : (z39 : Int) = -13 := (by omega); exact Or.inr (Or.inr (Or.inr (Or.inl ⟨(by (try delta Hid at *); omega), (by (try delta Hid at *); omega), (by (try delta Hid at *); omega), (by (try delta Hid at *); omega), (by (try delta Hid at *); omega)⟩)))) | (have h9z : (z39 : Int) = -4 := (by omega); exact Or.inr (Or.inr (Or.inr (Or.inr (Or.inl ⟨(by (try delta Hid at *); omega), (by (try delta Hid at *); omega), (by (try delta Hid at *); omega), (by (try delta Hid at *); omega), (by (try delta Hid at *); omega), (by (try delta Hid at *); omega)⟩))))) | (have h9z : (z39 : Int) = 1 := (by omega); exact Or.inr (Or.inr (Or.inr (Or.inr (Or.inr (⟨(by (try delta Hid at *); omega), (by (try delta Hid at *); omega), (by (try delta Hid at *); omega), (by (try delta Hid at *); omega), (by (try delta Hid at *); omega), (by (try delta Hid at *); omega)⟩)))))) | exact Or.inl ⟨(fun q => by (try delta Hid at *); omega), (by (try delta Hid at *); omega)⟩ | exact Or.inr (Or.inl ⟨(by (try delta Hid at *); omega), (by (try delta Hid at *); omega), (by (try delta Hid at *); omega)⟩) | exact Or.inr (Or.inr (Or.inl ⟨(by (try delta Hid at *); omega), (by (try delta Hid at *); omega), (by (try delta Hid at *); omega), (by (try delta Hid at *); omega)⟩)) | exact Or.inr (Or.inr (Or.inr (Or.inl ⟨(by (try delta Hid at *); omega), (by (try delta Hid at *); omega), (by (try delta Hid at *); omega), (by (try delta Hid at *); omega), (by (try delta Hid at *); omega)⟩))) | exact Or.inr (Or.inr (Or.inr (Or.inr (Or.inl ⟨(by (try delta Hid at *); omega), (by (try delta Hid at *); omega), (by (try delta Hid at *); omega), (by (try delta Hid at *); omega), (by (try delta Hid at *); omega), (by (try delta Hid at *); omega)⟩)))) | exact Or.inr (Or.inr (Or.inr (Or.inr (Or.inr (⟨(by (try delta Hid at *); omega), (by (try delta Hid at *); omega), (by (try delta Hid at *); omega), (by (try delta Hid at *); omega), (by (try delta Hid at *); omega), (by (try delta Hid at *); omega)⟩)))))
                case g9p832 => exact fun g9 a b => funext fun j9 => (by rw [hG44 27 g9 j9 (show 2700 ∉ [2802, 2803, 2902] by first | exact nlm_ni rfl | decide)])
                case g9p833 => exact fun _ => ⟨(by rw [c3]; exact Frm.rf), c4⟩
                case g9p834 => exact fun q => (by exfalso; omega)
              · refine ⟨ad, cnt, X42, Y43, ln, rfl, hE9 _ _ _ hE, hFx, hOw, hLn, hRX42, hFX42, hHY43, hCIX42, ?g9p835, ?g9p836, ?g9p837, ?g9p838, ?g9p839⟩
                case g9p835 => omega
                case g9p836 => rw [hT46]; first | (have h9z : (z39 : Int) = -1 := (by omega); exact Or.inl ⟨(fun q => by (try delta Hid at *); omega), (by (try delta Hid at *); omega)⟩) | (have h9z : (z39 : Int) = -2 := (by omega); exact Or.inr (Or.inl ⟨(by (try delta Hid at *); omega), (by (try delta Hid at *); omega), (by (try delta Hid at *); omega)⟩)) | (have h9z : (z39 : Int) = -14 := (by omega); exact Or.inr (Or.inr (Or.inl ⟨(by (try delta Hid at *); omega), (by (try delta Hid at *); omega), (by (try delta Hid at *); omega), (by (try delta Hid at *); omega)⟩))) | (have h9z : (z39 : Int) = -13 := (by omega); exact Or.inr (Or.inr (Or.inr (Or.inl ⟨(by (try delta Hid at *); omega), (by (try delta Hid at *); omega), (by (try delta Hid at *); omega), (by (try delta Hid at *); omega), (by (try delta Hid at *); omega)⟩)))) | (have h9z : (z39 : Int) = -4 := (by omega); exact Or.inr (Or.inr (Or.inr (Or.inr (Or.inl ⟨(by (try delta Hid at *); omega), (by (try delta Hid at *); omega), (by (try delta Hid at *); omega), (by (try delta Hid at *); omega), (by (try delta Hid at *); omega), (by (try delta Hid at *); omega)⟩))))) | (have h9z : (z39 : Int) = 1 := (by omega); exact Or.inr (Or.inr (Or.inr (Or.inr (Or.inr (⟨(by (try delta Hid at *); omega), (by (try delta Hid at *); omega), (by (try delta Hid at *); omega), (by (try delta Hid at *); omega), (by (try delta Hid at *); omega), (by (try delta Hid at *); omega)⟩)))))) | exact Or.inl ⟨(fun q => by (try delta Hid at *); omega), (by (try delta Hid at *); omega)⟩ | exact Or.inr (Or.inl ⟨(by (try delta Hid at *); omega), (by (try delta Hid at *); omega), (by (try delta Hid at *); omega)⟩) | exact Or.inr (Or.inr (Or.inl ⟨(by (try delta Hid at *); omega), (by (try delta Hid at *); omega), (by (try delta Hid at *); omega), (by (try delta Hid at *); omega)⟩)) | exact Or.inr (Or.inr (Or.inr (Or.inl ⟨(by (try delta Hid at *); omega), (by (try delta Hid at *); omega), (by (try delta Hid at *); omega), (by (try delta Hid at *); omega), (by (try delta Hid at *); omega)⟩))) | exact Or.inr (Or.inr (Or.inr (Or.inr (Or.inl ⟨(by (try delta Hid at *); omega), (by (try delta Hid at *); omega), (by (try delta Hid at *); omega), (by (try delta Hid at *); omega), (by (try delta Hid at *); omega), (by (try delta Hid at *); omega)⟩)))) | exact Or.inr (Or.inr (Or.inr (Or.inr (Or.inr (⟨(by (try delta Hid at *); omega), (by (try delta Hid at *); omega), (by (try delta Hid at *); omega), (by (try delta Hid at *); omega), (by (try delta Hid at *); omega), (by (try delta Hid at *); omega)⟩)))))
                case g9p837 => exact fun g9 a b => funext fun j9 => (by rw [hG44 27 g9 j9 (show 2700 ∉ [2802, 2803, 2902] by first | exact nlm_ni rfl | decide)])
                case g9p838 => exact fun q => (by exfalso; omega)
                case g9p839 => exact fun _ => (by rw [← ezz1]; exact ⟨c3, c5, c6, Or.inl ⟨by omega, c4⟩⟩)
          · refine lv_iconst (v := jI 3) hx hb dX8_row_50 rfl ?_
            refine gos_i (run_S (As := [.int (jI 3)]) (rest := []) hx hb hml hown hts (c_X8_failed l D tc base ad cnt X Y ln 3 (by omega)) (cwS 1 hts gX8_row_X8_failed rfl rfl rfl (by first | exact hd_X8_failed | decide +kernel) ⟨Nat.le_of_ble_eq_true rfl, Nat.le_of_ble_eq_true rfl⟩) hK hw rfl hl.1 rfl (Nat.le_of_ble_eq_true rfl) dX8_row_51 ⟨(by show _ ≤ (2 : Nat); omega), (by show _ ≤ (14 : Nat); omega)⟩) hS (fun z48 u49 H locs p50 hw hS => ?_)
            obtain ⟨eu49, p50⟩ := p50
            subst eu49
            rw [hQ9]
            refine ret_i (mc := 2) (ms := 14) hx hb hr hlocks hw hS (by first | exact Nat.le_of_ble_eq_true rfl | omega) (by first | exact Nat.le_of_ble_eq_true rfl | omega) dX8_row_54 ?_
            have hT51 : tyo (Y 15 x 0) = r7 := by rw [← ezz1]; exact tyo_some y6
            have hk52 : k < X 19 r7 1 := h5p3 r7 (by rw [← ezz1]; exact y6)
            refine ⟨ad, cnt, X, Y, ln, rfl, hE9 _ _ _ hE, hFx, hOw, hLn, hR, Frm.rf, Frm.rf, hCI, ?g9p840, ?g9p841, fun g9 a b => funext fun j9 => rfl, fun _ => ⟨Frm.rf, rfl⟩, ?g9p842⟩
            case g9p840 => omega
            case g9p841 => rw [hT51]; first | (have h9z : (z48 : Int) = -1 := (by omega); exact Or.inl ⟨(fun q => by (try delta Hid at *); omega), (by (try delta Hid at *); omega)⟩) | (have h9z : (z48 : Int) = -2 := (by omega); exact Or.inr (Or.inl ⟨(by (try delta Hid at *); omega), (by (try delta Hid at *); omega), (by (try delta Hid at *); omega)⟩)) | (have h9z : (z48 : Int) = -14 := (by omega); exact Or.inr (Or.inr (Or.inl ⟨(by (try delta Hid at *); omega), (by (try delta Hid at *); omega), (by (try delta Hid at *); omega), (by (try delta Hid at *); omega)⟩))) | (have h9z : (z48 : Int) = -13 := (by omega); exact Or.inr (Or.inr (Or.inr (Or.inl ⟨(by (try delta Hid at *); omega), (by (try delta Hid at *); omega), (by (try delta Hid at *); omega), (by (try delta Hid at *); omega), (by (try delta Hid at *); omega)⟩)))) | (have h9z : (z48 : Int) = -4 := (by omega); exact Or.inr (Or.inr (Or.inr (Or.inr (Or.inl ⟨(by (try delta Hid at *); omega), (by (try delta Hid at *); omega), (by (try delta Hid at *); omega), (by (try delta Hid at *); omega), (by (try delta Hid at *); omega), (by (try delta Hid at *); omega)⟩))))) | (have h9z : (z48 : Int) = 1 := (by omega); exact Or.inr (Or.inr (Or.inr (Or.inr (Or.inr (⟨(by (try delta Hid at *); omega), (by (try delta Hid at *); omega), (by (try delta Hid at *); omega), (by (try delta Hid at *); omega), (by (try delta Hid at *); omega), (by (try delta Hid at *); omega)⟩)))))) | exact Or.inl ⟨(fun q => by (try delta Hid at *); omega), (by (try delta Hid at *); omega)⟩ | exact Or.inr (Or.inl ⟨(by (try delta Hid at *); omega), (by (try delta Hid at *); omega), (by (try delta Hid at *); omega)⟩) | exact Or.inr (Or.inr (Or.inl ⟨(by (try delta Hid at *); omega), (by (try delta Hid at *); omega), (by (try delta Hid at *); omega), (by (try delta Hid at *); omega)⟩)) | exact Or.inr (Or.inr (Or.inr (Or.inl ⟨(by (try delta Hid at *); omega), (by (try delta Hid at *); omega), (by (try delta Hid at *); omega), (by (try delta Hid at *); omega), (by (try delta Hid at *); omega)⟩))) | exact Or.inr (Or.inr (Or.inr (Or.inr (Or.inl ⟨(by (try delta Hid at *); omega), (by (try delta Hid at *); omega), (by (try delta Hid at *); omega), (by (try delta Hid at *); omega), (by (try delta Hid at *); omega), (by (try delta Hid at *); omega)⟩)))) | exact Or.inr (Or.inr (Or.inr (Or.inr (Or.inr (⟨(by (try delta Hid at *); omega), (by (try delta Hid at *); omega), (by (try delta Hid at *); omega), (by (try delta Hid at *); omega), (by (try delta Hid at *); omega), (by (try delta Hid at *); omega)⟩)))))
            case g9p842 => exact fun q => (by exfalso; omega)
        · subst ez9
          refine x_if_neF (tgt := 45) hx hb (by omega) (by decide) dX8_row_37 (by decide) ?_
          refine lv_iconst (v := jI 4) hx hb dX8_row_40 rfl ?_
          refine gos_i (run_S (As := [.int (jI 4)]) (rest := []) hx hb hml hown hts (c_X8_failed l D tc base ad cnt X Y ln 4 (by omega)) (cwS 1 hts gX8_row_X8_failed rfl rfl rfl (by first | exact hd_X8_failed | decide +kernel) ⟨Nat.le_of_ble_eq_true rfl, Nat.le_of_ble_eq_true rfl⟩) hK hw rfl hl.1 rfl (Nat.le_of_ble_eq_true rfl) dX8_row_41 ⟨(by show _ ≤ (2 : Nat); omega), (by show _ ≤ (14 : Nat); omega)⟩) hS (fun z53 u54 H locs p55 hw hS => ?_)
          obtain ⟨eu54, p55⟩ := p55
          subst eu54
          rw [hQ9]
          refine ret_i (mc := 2) (ms := 14) hx hb hr hlocks hw hS (by first | exact Nat.le_of_ble_eq_true rfl | omega) (by first | exact Nat.le_of_ble_eq_true rfl | omega) dX8_row_44 ?_
          have hT56 : tyo (Y 15 x 0) = r7 := by rw [← ezz1]; exact tyo_some y6
          have hk57 : k < X 19 r7 1 := h5p3 r7 (by rw [← ezz1]; exact y6)
          refine ⟨ad, cnt, X, Y, ln, rfl, hE9 _ _ _ hE, hFx, hOw, hLn, hR, Frm.rf, Frm.rf, hCI, ?g9p843, ?g9p844, fun g9 a b => funext fun j9 => rfl, fun _ => ⟨Frm.rf, rfl⟩, ?g9p845⟩
          case g9p843 => omega
          case g9p844 => rw [hT56]; first | (have h9z : (z53 : Int) = -1 := (by omega); exact Or.inl ⟨(fun q => by (try delta Hid at *); omega), (by (try delta Hid at *); omega)⟩) | (have h9z : (z53 : Int) = -2 := (by omega); exact Or.inr (Or.inl ⟨(by (try delta Hid at *); omega), (by (try delta Hid at *); omega), (by (try delta Hid at *); omega)⟩)) | (have h9z : (z53 : Int) = -14 := (by omega); exact Or.inr (Or.inr (Or.inl ⟨(by (try delta Hid at *); omega), (by (try delta Hid at *); omega), (by (try delta Hid at *); omega), (by (try delta Hid at *); omega)⟩))) | (have h9z : (z53 : Int) = -13 := (by omega); exact Or.inr (Or.inr (Or.inr (Or.inl ⟨(by (try delta Hid at *); omega), (by (try delta Hid at *); omega), (by (try delta Hid at *); omega), (by (try delta Hid at *); omega), (by (try delta Hid at *); omega)⟩)))) | (have h9z : (z53 : Int) = -4 := (by omega); exact Or.inr (Or.inr (Or.inr (Or.inr (Or.inl ⟨(by (try delta Hid at *); omega), (by (try delta Hid at *); omega), (by (try delta Hid at *); omega), (by (try delta Hid at *); omega), (by (try delta Hid at *); omega), (by (try delta Hid at *); omega)⟩))))) | (have h9z : (z53 : Int) = 1 := (by omega); exact Or.inr (Or.inr (Or.inr (Or.inr (Or.inr (⟨(by (try delta Hid at *); omega), (by (try delta Hid at *); omega), (by (try delta Hid at *); omega), (by (try delta Hid at *); omega), (by (try delta Hid at *); omega), (by (try delta Hid at *); omega)⟩)))))) | exact Or.inl ⟨(fun q => by (try delta Hid at *); omega), (by (try delta Hid at *); omega)⟩ | exact Or.inr (Or.inl ⟨(by (try delta Hid at *); omega), (by (try delta Hid at *); omega), (by (try delta Hid at *); omega)⟩) | exact Or.inr (Or.inr (Or.inl ⟨(by (try delta Hid at *); omega), (by (try delta Hid at *); omega), (by (try delta Hid at *); omega), (by (try delta Hid at *); omega)⟩)) | exact Or.inr (Or.inr (Or.inr (Or.inl ⟨(by (try delta Hid at *); omega), (by (try delta Hid at *); omega), (by (try delta Hid at *); omega), (by (try delta Hid at *); omega), (by (try delta Hid at *); omega)⟩))) | exact Or.inr (Or.inr (Or.inr (Or.inr (Or.inl ⟨(by (try delta Hid at *); omega), (by (try delta Hid at *); omega), (by (try delta Hid at *); omega), (by (try delta Hid at *); omega), (by (try delta Hid at *); omega), (by (try delta Hid at *); omega)⟩)))) | exact Or.inr (Or.inr (Or.inr (Or.inr (Or.inr (⟨(by (try delta Hid at *); omega), (by (try delta Hid at *); omega), (by (try delta Hid at *); omega), (by (try delta Hid at *); omega), (by (try delta Hid at *); omega), (by (try delta Hid at *); omega)⟩)))))
          case g9p845 => exact fun q => (by exfalso; omega)
    · refine lv_bipush (v := jI (-2)) hx hb dX8_row_21 (by decide) ?_
      rw [hQ9]
      refine ret_i (mc := 2) (ms := 14) hx hb hr hlocks hw hS (by first | exact Nat.le_of_ble_eq_true rfl | omega) (by first | exact Nat.le_of_ble_eq_true rfl | omega) dX8_row_23 ?_
      obtain ⟨r58, y59⟩ := Option.ne_none_iff_exists'.mp (hCI.2.2.2.2.1 z1 (by omega) (by omega))
      have hT60 : tyo (Y 15 x 0) = r58 := by rw [← ezz1]; exact tyo_some y59
      have hk61 : k < X 19 r58 1 := h5p3 r58 (by rw [← ezz1]; exact y59)
      exact ⟨ad, cnt, X, Y, ln, rfl, hE9 _ _ _ hE, hFx, hOw, hLn, hR, Frm.rf, Frm.rf, hCI, by omega, (by rw [hT60]; exact Or.inr (Or.inl ⟨(by (try delta Hid at *); omega), (by (try delta Hid at *); omega), (by (try delta Hid at *); omega)⟩)), fun g9 a b => funext fun j9 => rfl, fun _ => ⟨Frm.rf, rfl⟩, fun q => (by exfalso; omega)⟩

set_option maxHeartbeats 4000000 in
set_option maxRecDepth 100000 in
theorem c_X8_check (l : Launch) (D : va_G) (tc : Nat → ClassId) (base : Nat) (ad : Nat → Int → Nat) (cnt : Nat → Int) (X : Nat → Int → Int → Int) (Y : Nat → Int → Int → Option Int) (ln : Int → Int) (hR : Rng X) (hFx : Fx cnt) (hLn : LnOK ln) (hCI : CInv cnt X Y ln) (hOw : Own cnt) (hN : 0 ≤ cnt 25 ∧ 0 ≤ cnt 26) (t kd a b v : Int) (ht : -2147483648 ≤ t ∧ t ≤ 2147483647) (hkd : -2147483648 ≤ kd ∧ kd ≤ 2147483647) (ha : -2147483648 ≤ a ∧ a ≤ 2147483647) (hb : -2147483648 ≤ b ∧ b ≤ 2147483647) (hv : -9223372036854775808 ≤ v ∧ v ≤ 9223372036854775807) : KI l D tc base yX8_check wsX8_check ({ frames := 2, cells := 1, slots := 4, locals := 42 } : Room) [.ref (ad 0 0), .int (jI t), .int (jI kd), .int (jI a), .int (jI b), .long (jL v)] (ad, cnt, X, Y, ln) 1 4 (fun z u => ∃ (ad1 : Nat → Int → Nat) (cnt1 : Nat → Int) (X1 : Nat → Int → Int → Int) (Y1 : Nat → Int → Int → Option Int) (ln1 : Int → Int), u = (ad1, cnt1, X1, Y1, ln1) ∧ Ext ad cnt ln ad1 cnt1 ln1 ∧ Fx cnt1 ∧ Own cnt1 ∧ LnOK ln1 ∧ Rng X1 ∧ Frm [2501, 2502, 2503, 2504, 1907] X X1 ∧ Frm [2400] Y Y1 ∧ CInv cnt1 X1 Y1 ln1 ∧ (-2147483648 ≤ z ∧ z ≤ 2147483647) ∧ ((¬ (0 ≤ t ∧ t < X 0 0 1) ∧ z = -1 ∧ X1 19 t 6 = X 19 t 6) ∨ (0 ≤ t ∧ t < X 0 0 1 ∧ ¬ (0 ≤ kd ∧ kd < 6 ∧ 0 ≤ a ∧ a < 5 ∧ 0 ≤ b ∧ b < 5) ∧ z = -2 ∧ X1 19 t 6 = X 19 t 6) ∨ (0 ≤ t ∧ t < X 0 0 1 ∧ (0 ≤ kd ∧ kd < 6 ∧ 0 ≤ a ∧ a < 5 ∧ 0 ≤ b ∧ b < 5) ∧ 4 ≤ X 19 t 6 ∧ z = -4 ∧ X1 19 t 6 = X 19 t 6) ∨ (0 ≤ t ∧ t < X 0 0 1 ∧ (0 ≤ kd ∧ kd < 6 ∧ 0 ≤ a ∧ a < 5 ∧ 0 ≤ b ∧ b < 5) ∧ X 19 t 6 ≤ 3 ∧ z = X 19 t 6 + 1 ∧ X1 19 t 6 = X 19 t 6 + 1)) ∧ (∀ y, y ≠ t → X1 19 y 6 = X 19 y 6) ∧ (0 ≤ z → ∃ g, Y1 24 t (X 19 t 6) = some g ∧ cnt 25 ≤ g ∧ g < cnt1 25 ∧ X1 25 g 0 = kd ∧ X1 25 g 1 = a ∧ X1 25 g 2 = b ∧ X1 25 g 3 = v) ∧ (∀ g, 0 ≤ g → g < cnt 25 → ∀ j, X1 25 g j = X 25 g j) ∧ ∀ y j, ¬ (0 ≤ z ∧ y = t ∧ j = X 19 t 6) → Y1 24 y j = Y 24 y j) := by
  refine K_of (cc := cX8_check) (maxL := 8) (ret := (some .int)) (by decide) rfl (Nat.le_of_ble_eq_true rfl) ?_
  intro p e s m below meth c ls hx hb hr hml hown hts hlocks hl hK hw hS
  have hown : s.vm.findClass RX8 = some m.cls := hown
  have hbs : base ≤ s.heap.size := wd_size hw
  obtain ⟨av9, hav9⟩ : ∃ a9 : Array Value, a9 = ([.ref (ad 0 0), .int (jI t), .int (jI kd), .int (jI a), .int (jI b), .long (jL v)] : List Value).toArray := ⟨_, rfl⟩
  rw [← hav9] at hts ⊢
  obtain ⟨Q9, hQ9⟩ : ∃ q9Q : State → Prop, q9Q = MQ below (QI D tc base (fun z u => ∃ (ad1 : Nat → Int → Nat) (cnt1 : Nat → Int) (X1 : Nat → Int → Int → Int) (Y1 : Nat → Int → Int → Option Int) (ln1 : Int → Int), u = (ad1, cnt1, X1, Y1, ln1) ∧ Ext ad cnt ln ad1 cnt1 ln1 ∧ Fx cnt1 ∧ Own cnt1 ∧ LnOK ln1 ∧ Rng X1 ∧ Frm [2501, 2502, 2503, 2504, 1907] X X1 ∧ Frm [2400] Y Y1 ∧ CInv cnt1 X1 Y1 ln1 ∧ (-2147483648 ≤ z ∧ z ≤ 2147483647) ∧ ((¬ (0 ≤ t ∧ t < X 0 0 1) ∧ z = -1 ∧ X1 19 t 6 = X 19 t 6) ∨ (0 ≤ t ∧ t < X 0 0 1 ∧ ¬ (0 ≤ kd ∧ kd < 6 ∧ 0 ≤ a ∧ a < 5 ∧ 0 ≤ b ∧ b < 5) ∧ z = -2 ∧ X1 19 t 6 = X 19 t 6) ∨ (0 ≤ t ∧ t < X 0 0 1 ∧ (0 ≤ kd ∧ kd < 6 ∧ 0 ≤ a ∧ a < 5 ∧ 0 ≤ b ∧ b < 5) ∧ 4 ≤ X 19 t 6 ∧ z = -4 ∧ X1 19 t 6 = X 19 t 6) ∨ (0 ≤ t ∧ t < X 0 0 1 ∧ (0 ≤ kd ∧ kd < 6 ∧ 0 ≤ a ∧ a < 5 ∧ 0 ≤ b ∧ b < 5) ∧ X 19 t 6 ≤ 3 ∧ z = X 19 t 6 + 1 ∧ X1 19 t 6 = X 19 t 6 + 1)) ∧ (∀ y, y ≠ t → X1 19 y 6 = X 19 y 6) ∧ (0 ≤ z → ∃ g, Y1 24 t (X 19 t 6) = some g ∧ cnt 25 ≤ g ∧ g < cnt1 25 ∧ X1 25 g 0 = kd ∧ X1 25 g 1 = a ∧ X1 25 g 2 = b ∧ X1 25 g 3 = v) ∧ (∀ g, 0 ≤ g → g < cnt 25 → ∀ j, X1 25 g j = X 25 g j) ∧ ∀ y j, ¬ (0 ≤ z ∧ y = t ∧ j = X 19 t 6) → Y1 24 y j = Y 24 y j)) av9 s 1 4 (frA base) := ⟨_, rfl⟩
  rw [← hQ9]
  obtain ⟨ad0, ha0⟩ : ∃ a, a = ad := ⟨_, rfl⟩
  obtain ⟨cnt0, hc0⟩ : ∃ a, a = cnt := ⟨_, rfl⟩
  obtain ⟨ln0, hl0⟩ : ∃ a, a = ln := ⟨_, rfl⟩
  have hE9 : ∀ a c n, Ext ad0 cnt0 ln0 a c n → Ext ad cnt ln a c n := by rw [ha0, hc0, hl0]; exact fun _ _ _ h => h
  have hE : Ext ad0 cnt0 ln0 ad cnt ln := by rw [ha0, hc0, hl0]; exact Ext.rf
  clear ha0 hc0 hl0
  have hi0 : ∀ w ∈ wsX00, w ∈ wsX8_check := fun w h => List.mem_cons_of_mem _ (List.mem_append_left _ (List.mem_append_right _ h))
  have hf0 : fctx s m _ RX8 wsX8_check D tc RX0 TX0 4 0 := ⟨hts, hi0, hown, hK.1, rfl⟩
  have hi7 : ∀ w ∈ wsX70, w ∈ wsX8_check := fun w h => List.mem_cons_of_mem _ (List.mem_append_left _ (List.mem_append_left _ (List.mem_append_right _ h)))
  have hf7 : fctx s m _ RX8 wsX8_check D tc RX7 TX7 8 7 := ⟨hts, hi7, hown, hK.1, rfl⟩
  have lk115 := hts (.fieldLink RX8 115 (TX7 6).1 (TX7 6).2.1 (TX7 6).2.2.1) (gj_X8_check_0 _ (gp_h))
  have lk118 := hts (.fieldLink RX8 118 (TX7 7).1 (TX7 7).2.1 (TX7 7).2.2.1) (gj_X8_check_0 _ (gp_1 gp_h))
  have hc0 : cnt 0 = 1 := hFx.at 0 1 (by decide)
  have hc24 : cnt 24 = cnt 19 := hFx.2.1 24 (by decide)
  have hl : lv_has ls 8 [(0, .ref (ad 0 0)), (1, .int (jI t)), (2, .int (jI kd)), (3, .int (jI a)), (4, .int (jI b)), (5, .long (jL v))] := hl
  have ftc : 0 ≤ X 0 0 3 ∧ X 0 0 3 ≤ 30 := hR 0 0 3
  have fty : 0 ≤ X 0 0 1 ∧ X 0 0 1 ≤ 8 := hR 0 0 1
  have hct : cnt 19 = X 0 0 1 := hCI.2.2.2.1.1
  have hfj : 0 ≤ X 29 0 3 ∧ X 29 0 3 ≤ 4 := hR 29 0 3
  have hfn : 0 ≤ X 29 0 1 ∧ X 29 0 1 ≤ 80 := hR 29 0 1
  refine lv_aload_n hx hb dX8_check_0 rfl (lv_at hl 0 rfl) ?_
  refine lv_iload_n hx hb dX8_check_1 rfl (lv_at hl 1 rfl) ?_
  refine gos_r (run_V (As := [.int (jI t)]) (rest := []) hx hb hml hown hts (c_X8_typeNumbered l D tc base ad cnt X Y ln hR hFx hLn hCI t (by omega)) (cwV 1 hts gX8_check_X8_typeNumbered rfl rfl rfl (by first | exact hd_X8_typeNumbered | decide +kernel) ⟨Nat.le_of_ble_eq_true rfl, Nat.le_of_ble_eq_true rfl⟩) hK hw (by first | exact Int.le_refl 0 | omega) (by first | exact zlt hc0 | omega) sl_0_0 rfl rfl hl.1 rfl (Nat.le_of_ble_eq_true rfl) dX8_check_2 ⟨(by show _ ≤ (1 : Nat); omega), (by show _ ≤ (4 : Nat); omega)⟩) hS (fun u2 H locs p3 hw hS => ?_) (fun z1 u2 H locs p3 hw hS => ?_)
  · obtain ⟨eu2, hsp3, hnp3⟩ := p3
    subst eu2
    refine lv_astoreN (lv' := [(7, .null), (0, .ref (ad 0 0)), (1, .int (jI t)), (2, .int (jI kd)), (3, .int (jI a)), (4, .int (jI b)), (5, .long (jL v))]) hx hb dX8_check_5 hl (by decide) rfl (fun ls hl => ?_)
    refine lv_aloadN hx hb dX8_check_7 (lv_at hl 0 rfl) ?_
    refine lv_ifnonnullN hx hb dX8_check_9 ?_
    refine lv_iconst (v := jI (-1)) hx hb dX8_check_12 rfl ?_
    rw [hQ9]
    refine ret_i (mc := 1) (ms := 4) hx hb hr hlocks hw hS (by first | exact Nat.le_of_ble_eq_true rfl | omega) (by first | exact Nat.le_of_ble_eq_true rfl | omega) dX8_check_13 ?_
    exact ⟨ad, cnt, X, Y, ln, rfl, hE9 _ _ _ hE, hFx, hOw, hLn, hR, Frm.rf, Frm.rf, hCI, by omega, (by have h9n : ¬ (0 ≤ t ∧ t < X 0 0 1) := hnp3 rfl; exact Or.inl ⟨h9n, by omega, by omega⟩), fun y hy => (by rfl), fun q => (by exfalso; omega), fun g9 a b j9 => rfl, fun y j _ => rfl⟩
  · obtain ⟨eu2, hsp3, hnp3⟩ := p3
    subst eu2
    obtain ⟨ezz1, p3⟩ := hsp3 z1 rfl
    refine lv_astore (lv' := [(7, .ref (ad 19 z1)), (0, .ref (ad 0 0)), (1, .int (jI t)), (2, .int (jI kd)), (3, .int (jI a)), (4, .int (jI b)), (5, .long (jL v))]) hx hb dX8_check_5 hl (by decide) rfl (fun ls hl => ?_)
    refine lv_aload hx hb dX8_check_7 (lv_at hl 0 rfl) ?_
    refine lv_ifnonnull (tgt := 14) hx hb dX8_check_9 (by decide) ?_
    refine lv_iload_n hx hb dX8_check_14 rfl (lv_at hl 3 rfl) ?_
    refine lv_bipush (v := jI 6) hx hb dX8_check_15 (by decide) ?_
    refine gos_i (run_S (As := [.int (jI kd), .int (jI 6)]) (rest := []) hx hb hml hown hts (c_X8_isBelow l D tc base ad cnt X Y ln kd 6 (by omega) (by omega)) (cwS 2 hts gX8_check_X8_isBelow rfl rfl rfl (by first | exact hd_X8_isBelow | decide +kernel) ⟨Nat.le_of_ble_eq_true rfl, Nat.le_of_ble_eq_true rfl⟩) hK hw rfl hl.1 rfl (Nat.le_of_ble_eq_true rfl) dX8_check_17 ⟨(by show _ ≤ (1 : Nat); omega), (by show _ ≤ (4 : Nat); omega)⟩) hS (fun z4 u5 H locs p6 hw hS => ?_)
    obtain ⟨eu5, p6⟩ := p6
    subst eu5
    rcases p6 with ⟨ez4, p6⟩ | ⟨ez4, p6⟩
    · subst ez4
      refine x_if_eqF (tgt := 40) hx hb (by omega) (by decide) dX8_check_20 (by decide) ?_
      refine lv_iload_n hx hb dX8_check_23 rfl (lv_at hl 4 rfl) ?_
      refine lv_iconst (v := jI 5) hx hb dX8_check_24 rfl ?_
      refine gos_i (run_S (As := [.int (jI a), .int (jI 5)]) (rest := []) hx hb hml hown hts (c_X8_isBelow l D tc base ad cnt X Y ln a 5 (by omega) (by omega)) (cwS 2 hts gX8_check_X8_isBelow rfl rfl rfl (by first | exact hd_X8_isBelow | decide +kernel) ⟨Nat.le_of_ble_eq_true rfl, Nat.le_of_ble_eq_true rfl⟩) hK hw rfl hl.1 rfl (Nat.le_of_ble_eq_true rfl) dX8_check_25 ⟨(by show _ ≤ (1 : Nat); omega), (by show _ ≤ (4 : Nat); omega)⟩) hS (fun z7 u8 H locs p9 hw hS => ?_)
      obtain ⟨eu8, p9⟩ := p9
      subst eu8
      rcases p9 with ⟨ez7, p9⟩ | ⟨ez7, p9⟩
      · subst ez7
        refine x_if_eqF (tgt := 40) hx hb (by omega) (by decide) dX8_check_28 (by decide) ?_
        refine lv_iload hx hb dX8_check_31 (lv_at hl 5 rfl) ?_
        refine lv_iconst (v := jI 5) hx hb dX8_check_33 rfl ?_
        refine gos_i (run_S (As := [.int (jI b), .int (jI 5)]) (rest := []) hx hb hml hown hts (c_X8_isBelow l D tc base ad cnt X Y ln b 5 (by omega) (by omega)) (cwS 2 hts gX8_check_X8_isBelow rfl rfl rfl (by first | exact hd_X8_isBelow | decide +kernel) ⟨Nat.le_of_ble_eq_true rfl, Nat.le_of_ble_eq_true rfl⟩) hK hw rfl hl.1 rfl (Nat.le_of_ble_eq_true rfl) dX8_check_34 ⟨(by show _ ≤ (1 : Nat); omega), (by show _ ≤ (4 : Nat); omega)⟩) hS (fun z10 u11 H locs p12 hw hS => ?_)
        obtain ⟨eu11, p12⟩ := p12
        subst eu11
        rcases p12 with ⟨ez10, p12⟩ | ⟨ez10, p12⟩
        · subst ez10
          refine x_if_neT (tgt := 43) hx hb (by omega) (by decide) dX8_check_37 (by decide) ?_
          refine lv_aload hx hb dX8_check_43 (lv_at hl 0 rfl) ?_
          refine x_geti (jz := 6) hx hb hf7 hw (by omega) (by omega) sl_19_6 rfl lk115 dX8_check_45 ?_
          have f13 : 0 ≤ X 19 z1 6 ∧ X 19 z1 6 ≤ 4 := hR 19 z1 6
          refine lv_iconst (v := jI 4) hx hb dX8_check_48 rfl ?_
          refine x_icmp_lt (tgt := 55) hx hb (by omega) (by omega) dX8_check_49 (by decide) (fun c14 => ?_) (fun c14 => ?_)
          · refine lv_aload hx hb dX8_check_55 (lv_at hl 0 rfl) ?_
            refine x_geto hx hb hf7 hw (by omega) (by omega) sl_19_7 lk118 dX8_check_57 ?_
            refine lv_aload hx hb dX8_check_60 (lv_at hl 0 rfl) ?_
            refine x_geti (jz := 6) hx hb hf7 hw (by omega) (by omega) sl_19_6 rfl lk115 dX8_check_62 ?_
            have f15 : 0 ≤ X 19 z1 6 ∧ X 19 z1 6 ≤ 4 := hR 19 z1 6
            refine g_new (E := []) (G := []) (ci := 0) (fs := [.int 0, .int 0, .int 0, .long 0]) hx hb hf0 ⟨tyX0_ok, nmX0⟩ (hts (.classLink RX8 122 RX0) (by first | exact gj_X8_check_0 _ (gp_1 (gp_1 gp_h)) | decide +kernel)) (hts (.instantiable RX0 4) (by first | exact gj_X8_check_0 _ (gp_1 (gp_1 (gp_1 gp_h))) | decide +kernel)) (hts (.initialized RX0) (by first | exact gj_X8_check_0 _ (gp_4 gp_h) | decide +kernel)) (wx_of hw) hS hbs (fun j hj => by rcases (show j = 0 ∨ j = 1 ∨ j = 2 ∨ j = 3 by omega) with rfl | rfl | rfl | rfl <;> rfl) (by show _ ≤ (1 : Nat); omega) (by show _ ≤ (4 : Nat); omega) dX8_check_65 (fun q16 H hwx hS => ?_)
            have hwx : wx D tc base (ad, cnt, X, Y, ln) ([] ++ [(q16, .inr (0, [.int 0, .int 0, .int 0, .long 0]))]) H := hwx
            have hw := wx_wd hwx
            refine lv_dup hx hb dX8_check_68 rfl ?_
            refine lv_iload_n hx hb dX8_check_69 rfl (lv_at hl 3 rfl) ?_
            refine lv_iload_n hx hb dX8_check_70 rfl (lv_at hl 4 rfl) ?_
            refine lv_iload hx hb dX8_check_71 (lv_at hl 5 rfl) ?_
            refine lv_lload hx hb dX8_check_73 (lv_at hl 6 rfl) ?_
            refine gos_x (run_I (As := [.int (jI kd), .int (jI a), .int (jI b), .long (jL v)]) (rest := [.ref q16, .int (jI (X 19 z1 6)), .ref (ad 24 z1)]) hx hb hml hown hts (c_X0_init l D tc base (ad, cnt, X, Y, ln) [] q16 kd a b v) (cwI 4 hts gX8_check_X0_init rfl rfl rfl (hts (.initialized RX0) (by first | exact gj_X8_check_0 _ (gp_4 gp_h) | decide +kernel)) (hts (.methodLink RX8 124 yX0_init) (by first | exact gj_X8_check_0 _ (gp_4 (gp_4 (gp_4 (gp_1 (gp_1 (gp_1 gp_h)))))) | decide +kernel)) (hts (.instanceMethod yX0_init) (by first | exact gj_X8_check_0 _ (gp_16 gp_h) | decide +kernel)) rfl (by decide +kernel) ⟨Nat.le_of_ble_eq_true rfl, Nat.le_of_ble_eq_true rfl⟩) hK hwx rfl hl.1 rfl (Nat.le_of_ble_eq_true rfl) dX8_check_75 ⟨by show _ ≤ (1 : Nat); omega, by show _ ≤ (4 : Nat); omega⟩) hS (fun u9 E17 H locs p18 hwx hS => ?_)
            obtain ⟨g19, hg19⟩ : ∃ g, g = cnt 25 := ⟨_, rfl⟩
            obtain ⟨rfl, rfl⟩ := p18
            have hwx := (show wx D tc base (ad, cnt, X, Y, ln) ([] ++ _) H from hwx)
            obtain ⟨ad, cnt, X20, ln, hw, hE21, hFx, hOw, hLn, hRX20, hG22, hCIX20, hkg19, hag19, hckg19, hx7g19⟩ := born_check hwx (by omega) (by omega) (by omega) (by omega) hFx hOw (by omega) hR hLn hCI
            rw [← hg19] at hkg19 hag19 hckg19 hx7g19
            have hFX20 : Frm [2501, 2502, 2503, 2504, 1907] X X20 := Frm.tr Frm.rf (Frm.mono hG22 (by first | exact nls_of rfl | decide))
            have hE := Ext.tr hE hE21
            have hm23 := hE21.2.1 19
            have hm24 := hE21.2.1 25
            have hm25 := hE21.2.1 26
            have hN : 0 ≤ cnt 25 ∧ 0 ≤ cnt 26 := by omega
            have ha26 := hE21.1 19 z1 (by omega) (by omega)
            have ha27 := hE21.1 0 0 (by omega) (by omega)
            have ha28 := hE21.1 24 z1 (by omega) (by omega)
            have hc0 : cnt 0 = 1 := hFx.at 0 1 (by decide)
            have hc24 : cnt 24 = cnt 19 := hFx.2.1 24 (by decide)
            have hl : lv_has ls 8 [(7, .ref (ad 19 z1)), (0, .ref (ad 0 0)), (1, .int (jI t)), (2, .int (jI kd)), (3, .int (jI a)), (4, .int (jI b)), (5, .long (jL v))] := by rw [ha26, ha27]; exact hl
            refine W.eq (g2 := F0 m 78 ls [.ref (ad 25 g19), .int (jI (X 19 z1 6)), .ref (ad 24 z1)]) (by first | rfl | (rw [ha28, hag19]; done) | (rw [ha28, hag19]; rfl)) ?_
            refine x_aast hx hb hK.1 hw hS (by omega) (by omega) ar_24 rfl rfl sl_25_0 (len_E ar_24 (by first | exact Nat.ne_of_beq_eq_false rfl | decide)) (by omega) (by omega) (by omega) (by omega) (by omega) dX8_check_78 (fun H locs hw hS => ?_)
            obtain ⟨Y29, hY29⟩ : ∃ Yq, Yq = u3 Y 24 z1 (X 19 z1 6) (some g19) := ⟨_, rfl⟩
            rw [← hY29] at hw
            have hVY29 : Y29 24 z1 (X 19 z1 6) = (some g19) := by rw [hY29]; exact u3_s _ _ _ _ _
            have hHY29 : Frm [2400] Y Y29 := by rw [hY29]; exact Frm.set Frm.rf (show 2400 ∈ [2400] by first | exact nlm_in rfl | decide)
            refine lv_aload hx hb dX8_check_79 (lv_at hl 0 rfl) ?_
            refine lv_dup hx hb dX8_check_81 rfl ?_
            refine x_geti (jz := 6) hx hb hf7 hw (by omega) (by omega) sl_19_6 rfl lk115 dX8_check_82 ?_
            have e30 : X20 19 z1 6 = X 19 z1 6 := by rw [hG22 19 z1 6 (show 1907 ∉ [2501, 2502, 2503, 2504] by first | exact nlm_ni rfl | decide)]
            rw [e30]
            have f31 : 0 ≤ X 19 z1 6 ∧ X 19 z1 6 ≤ 4 := hR 19 z1 6
            refine lv_iconst (v := jI 1) hx hb dX8_check_85 rfl ?_
            refine x_iadd hx hb dX8_check_86 ?_
            refine x_puti (jz := 6) hx hb hf7 ⟨tyX7_ok, nmX7⟩ hw hS (by omega) (by omega) sl_19_6 rfl lk115 rfl (tyX7_ok 6 (by decide)) rfl rfl dX8_check_87 (fun H locs hw hS => ?_)
            obtain ⟨X32, hX32⟩ : ∃ Xq, Xq = u3 X20 19 z1 6 ((X 19 z1 6) + 1) := ⟨_, rfl⟩
            rw [← hX32] at hw
            have hRX32 : Rng X32 := by rw [hX32]; exact rng_set hRX20 (show 0 ≤ ((X 19 z1 6) + 1) ∧ ((X 19 z1 6) + 1) ≤ 4 by omega)
            have hVX32 : X32 19 z1 6 = ((X 19 z1 6) + 1) := by rw [hX32]; exact u3_s _ _ _ _ _
            have hFX32 : Frm [2501, 2502, 2503, 2504, 1907] X X32 := by rw [hX32]; exact Frm.set hFX20 (show 1907 ∈ [2501, 2502, 2503, 2504, 1907] by first | exact nlm_in rfl | decide)
            refine lv_aload hx hb dX8_check_90 (lv_at hl 0 rfl) ?_
            refine x_geti (jz := 6) hx hb hf7 hw (by omega) (by omega) sl_19_6 rfl lk115 dX8_check_92 ?_
            rw [hVX32]
            rw [hQ9]
            refine ret_i (mc := 1) (ms := 4) hx hb hr hlocks hw hS (by first | exact Nat.le_of_ble_eq_true rfl | omega) (by first | exact Nat.le_of_ble_eq_true rfl | omega) dX8_check_95 ?_
            have e33 : X20 19 z1 6 = X 19 z1 6 := (by rw [hG22 19 z1 6 (show 1907 ∉ [2501, 2502, 2503, 2504] by first | exact nlm_ni rfl | decide)])
            have q34 : Frm [1907] X20 X32 := by rw [hX32]; exact Frm.set Frm.rf (show 1907 ∈ [1907] by first | exact nlm_in rfl | decide)
            have q35 : Frm [2400] Y Y29 := by rw [hY29]; exact Frm.set Frm.rf (show 2400 ∈ [2400] by first | exact nlm_in rfl | decide)
            refine ⟨ad, cnt, X32, Y29, ln, rfl, hE9 _ _ _ hE, hFx, hOw, hLn, hRX32, hFX32, hHY29, ?g9p846, ?g9p847, ?g9p848, ?g9p849, ?g9p850, ?g9p851, ?g9p852⟩
            case g9p846 => exact cinv_checks (q := z1) hCIX20 q34 q35 (fun i hi => (by rw [hX32, u3_ij (by omega)])) (fun i j h => by rw [hY29, u3_ij (fun w => h ⟨w.1, by rw [w.2, e33]; exact Int.le_refl _⟩)]) (fun j a b c => by rw [hVX32] at b; rw [e33] at c; rw [show j = X 19 z1 6 by omega, hVY29]; exact fun q => by cases q)
            case g9p847 => omega
            case g9p848 => rw [← ezz1]; exact Or.inr (Or.inr (Or.inr (⟨by omega, by omega, (by (try delta Hid at *); omega), by omega, by omega, by omega⟩)))
            case g9p849 => exact fun y hy => (by rw [hX32, u3_ij (by omega), hG22 19 y 6 (show 1907 ∉ [2501, 2502, 2503, 2504] by first | exact nlm_ni rfl | decide)])
            case g9p850 => exact fun _ => (by rw [← ezz1]; exact ⟨g19, hVY29, by omega, by omega, (by rw [hX32, u3_k _ _ _ _ (by first | exact Nat.ne_of_beq_eq_false rfl | decide)]; exact hckg19.1), (by rw [hX32, u3_k _ _ _ _ (by first | exact Nat.ne_of_beq_eq_false rfl | decide)]; exact hckg19.2.1), (by rw [hX32, u3_k _ _ _ _ (by first | exact Nat.ne_of_beq_eq_false rfl | decide)]; exact hckg19.2.2.1), (by rw [hX32, u3_k _ _ _ _ (by first | exact Nat.ne_of_beq_eq_false rfl | decide)]; exact hckg19.2.2.2)⟩)
            case g9p851 => exact fun g9 a b j9 => (by rw [hX32, u3_k _ _ _ _ (by first | exact Nat.ne_of_beq_eq_false rfl | decide)]; exact congrFun (hx7g19 25 g9 (by omega)) j9)
            case g9p852 => exact fun y j h9 => (by rw [hY29, u3_ij (fun q9 => h9 ⟨by omega, by omega, (by rw [← ezz1]; omega)⟩)])
          · refine lv_bipush (v := jI (-4)) hx hb dX8_check_52 (by decide) ?_
            rw [hQ9]
            refine ret_i (mc := 1) (ms := 4) hx hb hr hlocks hw hS (by first | exact Nat.le_of_ble_eq_true rfl | omega) (by first | exact Nat.le_of_ble_eq_true rfl | omega) dX8_check_54 ?_
            exact ⟨ad, cnt, X, Y, ln, rfl, hE9 _ _ _ hE, hFx, hOw, hLn, hR, Frm.rf, Frm.rf, hCI, by omega, (by rw [← ezz1]; exact Or.inr (Or.inr (Or.inl ⟨by omega, by omega, (by (try delta Hid at *); omega), by omega, by omega, by omega⟩))), fun y hy => (by rfl), fun q => (by exfalso; omega), fun g9 a b j9 => rfl, fun y j _ => rfl⟩
        · subst ez10
          refine x_if_neF (tgt := 43) hx hb (by omega) (by decide) dX8_check_37 (by decide) ?_
          refine lv_bipush (v := jI (-2)) hx hb dX8_check_40 (by decide) ?_
          rw [hQ9]
          refine ret_i (mc := 1) (ms := 4) hx hb hr hlocks hw hS (by first | exact Nat.le_of_ble_eq_true rfl | omega) (by first | exact Nat.le_of_ble_eq_true rfl | omega) dX8_check_42 ?_
          exact ⟨ad, cnt, X, Y, ln, rfl, hE9 _ _ _ hE, hFx, hOw, hLn, hR, Frm.rf, Frm.rf, hCI, by omega, (by rw [← ezz1]; exact Or.inr (Or.inl ⟨by omega, by omega, (fun q => by (try delta Hid at *); omega), by omega, by omega⟩)), fun y hy => (by rfl), fun q => (by exfalso; omega), fun g9 a b j9 => rfl, fun y j _ => rfl⟩
      · subst ez7
        refine x_if_eqT (tgt := 40) hx hb (by omega) (by decide) dX8_check_28 (by decide) ?_
        refine lv_bipush (v := jI (-2)) hx hb dX8_check_40 (by decide) ?_
        rw [hQ9]
        refine ret_i (mc := 1) (ms := 4) hx hb hr hlocks hw hS (by first | exact Nat.le_of_ble_eq_true rfl | omega) (by first | exact Nat.le_of_ble_eq_true rfl | omega) dX8_check_42 ?_
        exact ⟨ad, cnt, X, Y, ln, rfl, hE9 _ _ _ hE, hFx, hOw, hLn, hR, Frm.rf, Frm.rf, hCI, by omega, (by rw [← ezz1]; exact Or.inr (Or.inl ⟨by omega, by omega, (fun q => by (try delta Hid at *); omega), by omega, by omega⟩)), fun y hy => (by rfl), fun q => (by exfalso; omega), fun g9 a b j9 => rfl, fun y j _ => rfl⟩
    · subst ez4
      refine x_if_eqT (tgt := 40) hx hb (by omega) (by decide) dX8_check_20 (by decide) ?_
      refine lv_bipush (v := jI (-2)) hx hb dX8_check_40 (by decide) ?_
      rw [hQ9]
      refine ret_i (mc := 1) (ms := 4) hx hb hr hlocks hw hS (by first | exact Nat.le_of_ble_eq_true rfl | omega) (by first | exact Nat.le_of_ble_eq_true rfl | omega) dX8_check_42 ?_
      exact ⟨ad, cnt, X, Y, ln, rfl, hE9 _ _ _ hE, hFx, hOw, hLn, hR, Frm.rf, Frm.rf, hCI, by omega, (by rw [← ezz1]; exact Or.inr (Or.inl ⟨by omega, by omega, (fun q => by (try delta Hid at *); omega), by omega, by omega⟩)), fun y hy => (by rfl), fun q => (by exfalso; omega), fun g9 a b j9 => rfl, fun y j _ => rfl⟩

set_option maxHeartbeats 4000000 in
set_option maxRecDepth 100000 in
theorem c_X8_type (l : Launch) (D : va_G) (tc : Nat → ClassId) (base : Nat) (ad : Nat → Int → Nat) (cnt : Nat → Int) (X : Nat → Int → Int → Int) (Y : Nat → Int → Int → Option Int) (ln : Int → Int) (hR : Rng X) (hFx : Fx cnt) (hLn : LnOK ln) (hCI : CInv cnt X Y ln) (hOw : Own cnt) (hN : 0 ≤ cnt 25 ∧ 0 ≤ cnt 26)  : KI l D tc base yX8_type wsX8_type ({ frames := 2, cells := 6, slots := 32, locals := 33 } : Room) [.ref (ad 0 0)] (ad, cnt, X, Y, ln) 6 32 (fun z u => ∃ (ad1 : Nat → Int → Nat) (cnt1 : Nat → Int) (X1 : Nat → Int → Int → Int) (Y1 : Nat → Int → Int → Option Int) (ln1 : Int → Int), u = (ad1, cnt1, X1, Y1, ln1) ∧ Ext ad cnt ln ad1 cnt1 ln1 ∧ Fx cnt1 ∧ Own cnt1 ∧ LnOK ln1 ∧ Rng X1 ∧ Frm [1901, 1902, 1907, 2000, 2100, 2200, 2300, 2] X X1 ∧ Frm [2400, 100] Y Y1 ∧ CInv cnt1 X1 Y1 ln1 ∧ (-4 ≤ z ∧ z ≤ 7) ∧ ((8 ≤ X 0 0 1 ∧ z = -4 ∧ X1 0 0 1 = X 0 0 1) ∨ (X 0 0 1 < 8 ∧ z = X 0 0 1 ∧ X1 0 0 1 = X 0 0 1 + 1 ∧ X1 19 (X 0 0 1) 1 = 0 ∧ X1 19 (X 0 0 1) 6 = 0)) ∧ (∀ y, y ≠ X 0 0 1 → X1 19 y = X 19 y ∧ X1 20 y = X 20 y ∧ X1 21 y = X 21 y ∧ X1 22 y = X 22 y ∧ X1 23 y = X 23 y) ∧ (∀ y, y ≠ X 0 0 1 → Y1 24 y = Y 24 y)) := by
  refine K_of (cc := cX8_type) (maxL := 1) (ret := (some .int)) (by decide) rfl (Nat.le_of_ble_eq_true rfl) ?_
  intro p e s m below meth c ls hx hb hr hml hown hts hlocks hl hK hw hS
  have hown : s.vm.findClass RX8 = some m.cls := hown
  have hbs : base ≤ s.heap.size := wd_size hw
  obtain ⟨av9, hav9⟩ : ∃ a9 : Array Value, a9 = ([.ref (ad 0 0)] : List Value).toArray := ⟨_, rfl⟩
  rw [← hav9] at hts ⊢
  obtain ⟨Q9, hQ9⟩ : ∃ q9Q : State → Prop, q9Q = MQ below (QI D tc base (fun z u => ∃ (ad1 : Nat → Int → Nat) (cnt1 : Nat → Int) (X1 : Nat → Int → Int → Int) (Y1 : Nat → Int → Int → Option Int) (ln1 : Int → Int), u = (ad1, cnt1, X1, Y1, ln1) ∧ Ext ad cnt ln ad1 cnt1 ln1 ∧ Fx cnt1 ∧ Own cnt1 ∧ LnOK ln1 ∧ Rng X1 ∧ Frm [1901, 1902, 1907, 2000, 2100, 2200, 2300, 2] X X1 ∧ Frm [2400, 100] Y Y1 ∧ CInv cnt1 X1 Y1 ln1 ∧ (-4 ≤ z ∧ z ≤ 7) ∧ ((8 ≤ X 0 0 1 ∧ z = -4 ∧ X1 0 0 1 = X 0 0 1) ∨ (X 0 0 1 < 8 ∧ z = X 0 0 1 ∧ X1 0 0 1 = X 0 0 1 + 1 ∧ X1 19 (X 0 0 1) 1 = 0 ∧ X1 19 (X 0 0 1) 6 = 0)) ∧ (∀ y, y ≠ X 0 0 1 → X1 19 y = X 19 y ∧ X1 20 y = X 20 y ∧ X1 21 y = X 21 y ∧ X1 22 y = X 22 y ∧ X1 23 y = X 23 y) ∧ (∀ y, y ≠ X 0 0 1 → Y1 24 y = Y 24 y))) av9 s 6 32 (frA base) := ⟨_, rfl⟩
  rw [← hQ9]
  obtain ⟨ad0, ha0⟩ : ∃ a, a = ad := ⟨_, rfl⟩
  obtain ⟨cnt0, hc0⟩ : ∃ a, a = cnt := ⟨_, rfl⟩
  obtain ⟨ln0, hl0⟩ : ∃ a, a = ln := ⟨_, rfl⟩
  have hE9 : ∀ a c n, Ext ad0 cnt0 ln0 a c n → Ext ad cnt ln a c n := by rw [ha0, hc0, hl0]; exact fun _ _ _ h => h
  have hE : Ext ad0 cnt0 ln0 ad cnt ln := by rw [ha0, hc0, hl0]; exact Ext.rf
  clear ha0 hc0 hl0
  have hi7 : ∀ w ∈ wsX70, w ∈ wsX8_type := fun w h => List.mem_cons_of_mem _ (List.mem_append_right _ h)
  have hf7 : fctx s m _ RX8 wsX8_type D tc RX7 TX7 8 7 := ⟨hts, hi7, hown, hK.1, rfl⟩
  have hi8 : ∀ w ∈ wsX80, w ∈ wsX8_type := fun w h => List.mem_cons_of_mem _ (List.mem_append_left _ (List.mem_append_right _ h))
  have hf8 : fctx s m _ RX8 wsX8_type D tc RX8 TX8 12 8 := ⟨hts, hi8, hown, hK.1, rfl⟩
  have lk11 := hts (.fieldLink RX8 11 (TX8 0).1 (TX8 0).2.1 (TX8 0).2.2.1) (gj_X8_type_0 _ (gp_1 gp_h))
  have lk63 := hts (.fieldLink RX8 63 (TX8 1).1 (TX8 1).2.1 (TX8 1).2.2.1) (gj_X8_type_0 _ (gp_h))
  have hc0 : cnt 0 = 1 := hFx.at 0 1 (by decide)
  have hc1 : cnt 1 = 1 := hFx.at 1 1 (by decide)
  have hc20 : cnt 20 = cnt 19 := hFx.2.1 20 (by decide)
  have hc21 : cnt 21 = cnt 19 := hFx.2.1 21 (by decide)
  have hc22 : cnt 22 = cnt 19 := hFx.2.1 22 (by decide)
  have hc23 : cnt 23 = cnt 19 := hFx.2.1 23 (by decide)
  have hc24 : cnt 24 = cnt 19 := hFx.2.1 24 (by decide)
  have hl : lv_has ls 1 [(0, .ref (ad 0 0))] := hl
  have ftc : 0 ≤ X 0 0 3 ∧ X 0 0 3 ≤ 30 := hR 0 0 3
  have fty : 0 ≤ X 0 0 1 ∧ X 0 0 1 ≤ 8 := hR 0 0 1
  have hct : cnt 19 = X 0 0 1 := hCI.2.2.2.1.1
  have hfj : 0 ≤ X 29 0 3 ∧ X 29 0 3 ≤ 4 := hR 29 0 3
  have hfn : 0 ≤ X 29 0 1 ∧ X 29 0 1 ≤ 80 := hR 29 0 1
  refine lv_aload_n hx hb dX8_type_0 rfl (lv_at hl 0 rfl) ?_
  refine x_geti (jz := 1) hx hb hf8 hw (by first | exact Int.le_refl 0 | omega) (by first | exact zlt hc0 | omega) sl_0_1 rfl lk63 dX8_type_1 ?_
  have f1 : 0 ≤ X 0 0 1 ∧ X 0 0 1 ≤ 8 := hR 0 0 1
  refine lv_bipush (v := jI 8) hx hb dX8_type_4 (by decide) ?_
  refine x_icmp_lt (tgt := 12) hx hb (by omega) (by omega) dX8_type_6 (by decide) (fun c2 => ?_) (fun c2 => ?_)
  · refine lv_aload_n hx hb dX8_type_12 rfl (lv_at hl 0 rfl) ?_
    refine x_geto hx hb hf8 hw (by first | exact Int.le_refl 0 | omega) (by first | exact zlt hc0 | omega) sl_0_0 lk11 dX8_type_13 ?_
    refine lv_aload_n hx hb dX8_type_16 rfl (lv_at hl 0 rfl) ?_
    refine x_geti (jz := 1) hx hb hf8 hw (by first | exact Int.le_refl 0 | omega) (by first | exact zlt hc0 | omega) sl_0_1 rfl lk63 dX8_type_17 ?_
    have f3 : 0 ≤ X 0 0 1 ∧ X 0 0 1 ≤ 8 := hR 0 0 1
    refine g_new (E := []) (G := []) (ci := 7) (fs := [.int 0, .int 0, .null, .null, .null, .null, .int 0, .null]) hx hb hf7 ⟨tyX7_ok, nmX7⟩ (hts (.classLink RX8 9 RX7) (by first | exact gj_X8_type_0 _ (gp_1 (gp_1 gp_h)) | decide +kernel)) (hts (.instantiable RX7 8) (by first | exact gj_X8_type_0 _ (gp_1 (gp_1 (gp_1 gp_h))) | decide +kernel)) (hts (.initialized RX7) (by first | exact gj_X8_type_0 _ (gp_4 gp_h) | decide +kernel)) (wx_of hw) hS hbs (fun j hj => by rcases (show j = 0 ∨ j = 1 ∨ j = 2 ∨ j = 3 ∨ j = 4 ∨ j = 5 ∨ j = 6 ∨ j = 7 by omega) with rfl | rfl | rfl | rfl | rfl | rfl | rfl | rfl <;> rfl) (by show _ ≤ (6 : Nat); omega) (by show _ ≤ (32 : Nat); omega) dX8_type_20 (fun q4 H hwx hS => ?_)
    have hwx : wx D tc base (ad, cnt, X, Y, ln) ([] ++ [(q4, .inr (7, [.int 0, .int 0, .null, .null, .null, .null, .int 0, .null]))]) H := hwx
    have hw := wx_wd hwx
    refine lv_dup hx hb dX8_type_23 rfl ?_
    refine lv_aload_n hx hb dX8_type_24 rfl (lv_at hl 0 rfl) ?_
    refine x_geti (jz := 1) hx hb hf8 hw (by first | exact Int.le_refl 0 | omega) (by first | exact zlt hc0 | omega) sl_0_1 rfl lk63 dX8_type_25 ?_
    have f5 : 0 ≤ X 0 0 1 ∧ X 0 0 1 ≤ 8 := hR 0 0 1
    refine gos_x (run_I (As := [.int (jI (X 0 0 1))]) (rest := [.ref q4, .int (jI (X 0 0 1)), .ref (ad 1 0)]) hx hb hml hown hts (c_X7_init l D tc base (ad, cnt, X, Y, ln) [] q4 (X 0 0 1)) (cwI 1 hts gX8_type_X7_init rfl rfl rfl (hts (.initialized RX7) (by first | exact gj_X8_type_0 _ (gp_4 gp_h) | decide +kernel)) (hts (.methodLink RX8 67 yX7_init) (by first | exact gj_X8_type_0 _ (gp_4 (gp_1 gp_h)) | decide +kernel)) (hts (.instanceMethod yX7_init) (by first | exact gj_X8_type_0 _ (gp_4 (gp_1 (gp_1 gp_h))) | decide +kernel)) rfl (by decide +kernel) ⟨Nat.le_of_ble_eq_true rfl, Nat.le_of_ble_eq_true rfl⟩) hK hwx rfl hl.1 rfl (Nat.le_of_ble_eq_true rfl) dX8_type_28 ⟨by show _ ≤ (6 : Nat); omega, by show _ ≤ (32 : Nat); omega⟩) hS (fun u9 E6 H locs p7 hwx hS => ?_)
    obtain ⟨g8, hg8⟩ : ∃ g, g = cnt 19 := ⟨_, rfl⟩
    obtain ⟨rfl, q1, q2, q3, q4, q5, rfl⟩ := p7
    have hwx := (show wx D tc base (ad, cnt, X, Y, ln) ([] ++ _) H from hwx)
    obtain ⟨ad, cnt, X9, Y10, ln, hw, hE11, hFx, hOw, hLn, hRX9, hG12, hJ13, hkg8, hag8, hty1, hty2, hty3, hty4, hty5, hty6, hty7⟩ := born_type hwx (by omega) hFx hOw (by omega) hR hLn
    rw [← hg8] at hkg8 hag8 hty1 hty2 hty3 hty4 hty6 hty7
    have hFX9 : Frm [1901, 1902, 1907, 2000, 2100, 2200, 2300, 2] X X9 := Frm.tr Frm.rf (Frm.mono hG12 (by first | exact nls_of rfl | decide))
    have hHY10 : Frm [2400, 100] Y Y10 := Frm.tr Frm.rf (Frm.mono hJ13 (by first | exact nls_of rfl | decide))
    have hE := Ext.tr hE hE11
    have hm14 := hE11.2.1 19
    have hm15 := hE11.2.1 25
    have hm16 := hE11.2.1 26
    have hN : 0 ≤ cnt 25 ∧ 0 ≤ cnt 26 := by omega
    have ha17 := hE11.1 0 0 (by omega) (by omega)
    have ha18 := hE11.1 1 0 (by omega) (by omega)
    have hc0 : cnt 0 = 1 := hFx.at 0 1 (by decide)
    have hc1 : cnt 1 = 1 := hFx.at 1 1 (by decide)
    have hc20 : cnt 20 = cnt 19 := hFx.2.1 20 (by decide)
    have hc21 : cnt 21 = cnt 19 := hFx.2.1 21 (by decide)
    have hc22 : cnt 22 = cnt 19 := hFx.2.1 22 (by decide)
    have hc23 : cnt 23 = cnt 19 := hFx.2.1 23 (by decide)
    have hc24 : cnt 24 = cnt 19 := hFx.2.1 24 (by decide)
    have hl : lv_has ls 1 [(0, .ref (ad 0 0))] := by rw [ha17]; exact hl
    refine W.eq (g2 := F0 m 31 ls [.ref (ad 19 g8), .int (jI (X 0 0 1)), .ref (ad 1 0)]) (by first | rfl | (rw [ha18, hag8]; done) | (rw [ha18, hag8]; rfl)) ?_
    refine x_aast hx hb hK.1 hw hS (by first | exact Int.le_refl 0 | omega) (by first | exact zlt hc1 | omega) ar_1 rfl rfl sl_19_0 (len_E ar_1 (by first | exact Nat.ne_of_beq_eq_false rfl | decide)) (by omega) (by omega) (by omega) (by omega) (by omega) dX8_type_31 (fun H locs hw hS => ?_)
    obtain ⟨Y19, hY19⟩ : ∃ Yq, Yq = u3 Y10 1 0 (X 0 0 1) (some g8) := ⟨_, rfl⟩
    rw [← hY19] at hw
    have hVY19 : Y19 1 0 (X 0 0 1) = (some g8) := by rw [hY19]; exact u3_s _ _ _ _ _
    have hHY19 : Frm [2400, 100] Y Y19 := by rw [hY19]; exact Frm.set hHY10 (show 100 ∈ [2400, 100] by first | exact nlm_in rfl | decide)
    refine lv_aload_n hx hb dX8_type_32 rfl (lv_at hl 0 rfl) ?_
    refine lv_dup hx hb dX8_type_33 rfl ?_
    refine x_geti (jz := 1) hx hb hf8 hw (by first | exact Int.le_refl 0 | omega) (by first | exact zlt hc0 | omega) sl_0_1 rfl lk63 dX8_type_34 ?_
    have e20 : X9 0 0 1 = X 0 0 1 := by rw [hG12 0 0 1 (show 2 ∉ [1901, 1902, 1907, 2000, 2100, 2200, 2300] by first | exact nlm_ni rfl | decide)]
    rw [e20]
    have f21 : 0 ≤ X 0 0 1 ∧ X 0 0 1 ≤ 8 := hR 0 0 1
    refine lv_iconst (v := jI 1) hx hb dX8_type_37 rfl ?_
    refine x_iadd hx hb dX8_type_38 ?_
    refine x_puti (jz := 1) hx hb hf8 ⟨tyX8_ok, nmX8⟩ hw hS (by first | exact Int.le_refl 0 | omega) (by first | exact zlt hc0 | omega) sl_0_1 rfl lk63 rfl (tyX8_ok 1 (by decide)) rfl rfl dX8_type_39 (fun H locs hw hS => ?_)
    obtain ⟨X22, hX22⟩ : ∃ Xq, Xq = u3 X9 0 0 1 ((X 0 0 1) + 1) := ⟨_, rfl⟩
    rw [← hX22] at hw
    have hRX22 : Rng X22 := by rw [hX22]; exact rng_set hRX9 (show 0 ≤ ((X 0 0 1) + 1) ∧ ((X 0 0 1) + 1) ≤ 8 by omega)
    have hVX22 : X22 0 0 1 = ((X 0 0 1) + 1) := by rw [hX22]; exact u3_s _ _ _ _ _
    have hFX22 : Frm [1901, 1902, 1907, 2000, 2100, 2200, 2300, 2] X X22 := by rw [hX22]; exact Frm.set hFX9 (show 2 ∈ [1901, 1902, 1907, 2000, 2100, 2200, 2300, 2] by first | exact nlm_in rfl | decide)
    refine lv_aload_n hx hb dX8_type_42 rfl (lv_at hl 0 rfl) ?_
    refine x_geti (jz := 1) hx hb hf8 hw (by first | exact Int.le_refl 0 | omega) (by first | exact zlt hc0 | omega) sl_0_1 rfl lk63 dX8_type_43 ?_
    rw [hVX22]
    refine lv_iconst (v := jI 1) hx hb dX8_type_46 rfl ?_
    refine x_isub hx hb dX8_type_47 ?_
    rw [hQ9]
    refine ret_i (mc := 6) (ms := 32) hx hb hr hlocks hw hS (by first | exact Nat.le_of_ble_eq_true rfl | omega) (by first | exact Nat.le_of_ble_eq_true rfl | omega) dX8_type_48 ?_
    have hT9 : X 0 0 1 = g8 := by omega
    have hx7 : ∀ (k : Nat) (y : Int), k ≠ 0 → y ≠ g8 → X22 k y = X k y := fun k y hk hy => by rw [hX22, u3_k _ _ _ _ hk]; exact hty7 k y hy
    have hx8 : ∀ y : Int, y ≠ X 0 0 1 → X22 19 y = X 19 y ∧ X22 20 y = X 20 y ∧ X22 21 y = X 21 y ∧ X22 22 y = X 22 y ∧ X22 23 y = X 23 y := by
      intro y hy
      have h9 : y ≠ g8 := fun q => hy (by rw [q]; omega)
      exact ⟨hx7 19 y (by decide) h9, hx7 20 y (by decide) h9, hx7 21 y (by decide) h9, hx7 22 y (by decide) h9, hx7 23 y (by decide) h9⟩
    refine ⟨ad, cnt, X22, Y19, ln, rfl, hE9 _ _ _ hE, hFx, hOw, hLn, hRX22, hFX22, hHY19, ?g9p853, ?g9p854, ?g9p855, hx8, ?g9p856⟩
    case g9p853 => exact cinv_type (T := X 0 0 1) hCI rfl (by omega) hFX22 hHY19 hVX22 (fun i hi => ⟨by rw [hX22, u3_k _ _ _ _ (by first | exact Nat.ne_of_beq_eq_false rfl | decide), hty3 i (by omega)], by rw [hX22, u3_k _ _ _ _ (by first | exact Nat.ne_of_beq_eq_false rfl | decide), hty3 i (by omega)], fun j => by rw [hY19, u3_k _ _ _ _ (by first | exact Nat.ne_of_beq_eq_false rfl | decide), hty4 i (by omega)], by rw [hY19, u3_ij (by omega), hJ13 1 0 i (show 100 ∉ [2400] by first | exact nlm_ni rfl | decide)]⟩) ⟨by rw [hX22, u3_k _ _ _ _ (by first | exact Nat.ne_of_beq_eq_false rfl | decide), hT9]; rw [hT9] at hty1; exact hty1, by rw [hX22, u3_k _ _ _ _ (by first | exact Nat.ne_of_beq_eq_false rfl | decide), hT9]; exact hty2, by rw [hVY19, hT9]⟩ (funext hty5)
    case g9p854 => omega
    case g9p855 => exact Or.inr ⟨by omega, by omega, by omega, (by rw [hX22, u3_k _ _ _ _ (by first | exact Nat.ne_of_beq_eq_false rfl | decide), hT9]; exact hty6), (by rw [hX22, u3_k _ _ _ _ (by first | exact Nat.ne_of_beq_eq_false rfl | decide), hT9]; exact hty2)⟩
    case g9p856 => exact fun y hy => (by rw [hY19, u3_k _ _ _ _ (by first | exact Nat.ne_of_beq_eq_false rfl | decide)]; exact hty4 y (by omega))
  · refine lv_bipush (v := jI (-4)) hx hb dX8_type_9 (by decide) ?_
    rw [hQ9]
    refine ret_i (mc := 6) (ms := 32) hx hb hr hlocks hw hS (by first | exact Nat.le_of_ble_eq_true rfl | omega) (by first | exact Nat.le_of_ble_eq_true rfl | omega) dX8_type_11 ?_
    exact ⟨ad, cnt, X, Y, ln, rfl, hE9 _ _ _ hE, hFx, hOw, hLn, hR, Frm.rf, Frm.rf, hCI, by omega, Or.inl ⟨by omega, by omega, rfl⟩, fun y hy => ⟨rfl, rfl, rfl, rfl, rfl⟩, fun y hy => rfl⟩

