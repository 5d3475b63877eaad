section
set_option maxHeartbeats 4000000 in
set_option maxRecDepth 100000 in
theorem c_X8_mayCome2 (l : Launch) (D : va_G) (tc : Nat → ClassId) (base : Nat) (ad : Nat → Int → Nat) (cnt : Nat → Int) (X : Nat → Int → Int → Int) (Y : Nat → Int → Int → Option Int) (ln : Int → Int) (a b : Int) (ha : 0 ≤ a ∧ a ≤ 5) (hb0 : 0 ≤ b ∧ b ≤ 5) : KI l D tc base yX8_mayCome wsX8_mayCome ({ frames := 1, cells := 0, slots := 0, locals := 20 } : Room) [.int (jI a), .int (jI b)] (ad, cnt, X, Y, ln) 0 0 (fun z u => u = (ad, cnt, X, Y, ln) ∧ ((z = 1 ∧ (a = b ∨ (a = 1 ∧ b = 0) ∨ (a = 3 ∧ 3 < b) ∨ (a = 4 ∧ b = 5))) ∨ (z = 0 ∧ Hid (¬ ((a = b ∨ (a = 1 ∧ b = 0) ∨ (a = 3 ∧ 3 < b) ∨ (a = 4 ∧ b = 5))))))) := by
  refine K_of (cc := cX8_mayCome) (maxL := 2) (ret := (some .boolean)) (by decide) rfl (Nat.le_of_ble_eq_true rfl) ?_
  intro p e s m below meth c ls hx hb hr hml hown hts hlocks hl hK hw hS
  have hown : s.vm.findClass RX8 = some m.cls := hown
  obtain ⟨av9, hav9⟩ : ∃ a9 : Array Value, a9 = ([.int (jI a), .int (jI b)] : List Value).toArray := ⟨_, rfl⟩
  rw [← hav9] at hts ⊢
  obtain ⟨Q9, hQ9⟩ : ∃ q9Q : State → Prop, q9Q = MQ below (QI D tc base (fun z u => u = (ad, cnt, X, Y, ln) ∧ ((z = 1 ∧ (a = b ∨ (a = 1 ∧ b = 0) ∨ (a = 3 ∧ 3 < b) ∨ (a = 4 ∧ b = 5))) ∨ (z = 0 ∧ Hid (¬ ((a = b ∨ (a = 1 ∧ b = 0) ∨ (a = 3 ∧ 3 < b) ∨ (a = 4 ∧ b = 5)))))))) av9 s 0 0 (frA base) := ⟨_, rfl⟩
  rw [← hQ9]
  have hl : lv_has ls 2 [(0, .int (jI a)), (1, .int (jI b))] := hl
  refine lv_iload_n hx hb dX8_mayCome_0 rfl (lv_at hl 0 rfl) ?_
  refine lv_iload_n hx hb dX8_mayCome_1 rfl (lv_at hl 1 rfl) ?_
  refine x_icmp_ne (tgt := 7) hx hb (by omega) (by omega) dX8_mayCome_2 (by decide) (fun c1 => ?_) (fun c1 => ?_)
  · refine lv_iload_n hx hb dX8_mayCome_7 rfl (lv_at hl 0 rfl) ?_
    refine lv_iconst (v := jI 1) hx hb dX8_mayCome_8 rfl ?_
    refine x_icmp_ne (tgt := 24) hx hb (by omega) (by omega) dX8_mayCome_9 (by decide) (fun c2 => ?_) (fun c2 => ?_)
    · refine lv_iload_n hx hb dX8_mayCome_24 rfl (lv_at hl 0 rfl) ?_
      refine gos_i (run_S (As := [.int (jI a)]) (rest := []) hx hb hml hown hts (c_X8_isRowLane l D tc base ad cnt X Y ln a (by omega)) (cwS 1 hts gX8_mayCome_X8_isRowLane rfl rfl rfl (by first | exact hd_X8_isRowLane | decide +kernel) ⟨Nat.le_of_ble_eq_true rfl, Nat.le_of_ble_eq_true rfl⟩) hK hw rfl hl.1 rfl (Nat.le_of_ble_eq_true rfl) dX8_mayCome_25 ⟨Nat.le_of_ble_eq_true rfl, Nat.le_of_ble_eq_true rfl⟩) hS (fun z3 u4 H locs p5 hw hS => ?_)
      obtain ⟨eu4, p5⟩ := p5
      subst eu4
      rcases p5 with ⟨ez3, p5⟩ | ⟨ez3, p5⟩
      · subst ez3
        refine x_if_eqF (tgt := 40) hx hb (by omega) (by decide) dX8_mayCome_28 (by decide) ?_
        refine lv_iload_n hx hb dX8_mayCome_31 rfl (lv_at hl 1 rfl) ?_
        refine lv_iload_n hx hb dX8_mayCome_32 rfl (lv_at hl 0 rfl) ?_
        refine x_icmp_le (tgt := 40) hx hb (by omega) (by omega) dX8_mayCome_33 (by decide) (fun c6 => ?_) (fun c6 => ?_)
        · refine lv_iconst (v := jI 0) hx hb dX8_mayCome_40 rfl ?_
          rw [hQ9]
          refine ret_z (mc := 0) (ms := 0) hx hb hr hlocks hw hS (by first | exact Nat.le_of_ble_eq_true rfl | omega) (by first | exact Nat.le_of_ble_eq_true rfl | omega) dX8_mayCome_41 (by omega) ?_
          exact ⟨rfl, Or.inr ⟨rfl, (by first | omega | (intro q; first | omega | (simp only [Hid] at *; omega)))⟩⟩
        · refine lv_iconst (v := jI 1) hx hb dX8_mayCome_36 rfl ?_
          refine lv_goto (tgt := 41) hx hb dX8_mayCome_37 (by decide) ?_
          rw [hQ9]
          refine ret_z (mc := 0) (ms := 0) hx hb hr hlocks hw hS (by first | exact Nat.le_of_ble_eq_true rfl | omega) (by first | exact Nat.le_of_ble_eq_true rfl | omega) dX8_mayCome_41 (by omega) ?_
          exact ⟨rfl, Or.inl ⟨rfl, by omega⟩⟩
      · subst ez3
        refine x_if_eqT (tgt := 40) hx hb (by omega) (by decide) dX8_mayCome_28 (by decide) ?_
        refine lv_iconst (v := jI 0) hx hb dX8_mayCome_40 rfl ?_
        rw [hQ9]
        refine ret_z (mc := 0) (ms := 0) hx hb hr hlocks hw hS (by first | exact Nat.le_of_ble_eq_true rfl | omega) (by first | exact Nat.le_of_ble_eq_true rfl | omega) dX8_mayCome_41 (by omega) ?_
        exact ⟨rfl, Or.inr ⟨rfl, (by first | omega | (intro q; first | omega | (simp only [Hid] at *; omega)))⟩⟩
    · refine lv_iload_n hx hb dX8_mayCome_12 rfl (lv_at hl 1 rfl) ?_
      refine x_if_ne (tgt := 20) hx hb (by omega) dX8_mayCome_13 (by decide) (fun c7 => ?_) (fun c7 => ?_)
      · refine lv_iconst (v := jI 0) hx hb dX8_mayCome_20 rfl ?_
        refine lv_goto (tgt := 41) hx hb dX8_mayCome_21 (by decide) ?_
        rw [hQ9]
        refine ret_z (mc := 0) (ms := 0) hx hb hr hlocks hw hS (by first | exact Nat.le_of_ble_eq_true rfl | omega) (by first | exact Nat.le_of_ble_eq_true rfl | omega) dX8_mayCome_41 (by omega) ?_
        exact ⟨rfl, Or.inr ⟨rfl, (by first | omega | (intro q; first | omega | (simp only [Hid] at *; omega)))⟩⟩
      · refine lv_iconst (v := jI 1) hx hb dX8_mayCome_16 rfl ?_
        refine lv_goto (tgt := 41) hx hb dX8_mayCome_17 (by decide) ?_
        rw [hQ9]
        refine ret_z (mc := 0) (ms := 0) hx hb hr hlocks hw hS (by first | exact Nat.le_of_ble_eq_true rfl | omega) (by first | exact Nat.le_of_ble_eq_true rfl | omega) dX8_mayCome_41 (by omega) ?_
        exact ⟨rfl, Or.inl ⟨rfl, by omega⟩⟩
  · refine lv_iconst (v := jI 1) hx hb dX8_mayCome_5 rfl ?_
    rw [hQ9]
    refine ret_z (mc := 0) (ms := 0) hx hb hr hlocks hw hS (by first | exact Nat.le_of_ble_eq_true rfl | omega) (by first | exact Nat.le_of_ble_eq_true rfl | omega) dX8_mayCome_6 (by omega) ?_
    exact ⟨rfl, Or.inl ⟨rfl, by omega⟩⟩

set_option maxHeartbeats 4000000 in
set_option maxRecDepth 100000 in
theorem c_X4_copyOfRow (l : Launch) (D : va_G) (tc : Nat → ClassId) (base : Nat) (ad : Nat → Int → Nat) (cnt : Nat → Int) (X : Nat → Int → Int → Int) (Y : Nat → Int → Int → Option Int) (ln : Int → Int) (hR : Rng X) (hFx : Fx cnt) (hLn : LnOK ln) (hCI : CInv cnt X Y ln) (hOw : Own cnt) (hN : 0 ≤ cnt 25 ∧ 0 ≤ cnt 26) (g i : Int) (hg : 0 ≤ g ∧ g < 6) (hi0 : 0 ≤ i ∧ i ≤ 149) : KR l D tc base 26 yX4_copyOfRow wsX4_copyOfRow ({ frames := 2, cells := 2, slots := 14, locals := 33 } : Room) [.ref (ad 7 g), .int (jI i)] (ad, cnt, X, Y, ln) 2 14 (fun o u => ∃ (ad1 : Nat → Int → Nat) (cnt1 : Nat → Int) (X1 : Nat → Int → Int → Int) (Y1 : Nat → Int → Int → Option Int) (ln1 : Int → Int), u = (ad1, cnt1, X1, Y1, ln1) ∧ Ext ad cnt ln ad1 cnt1 ln1 ∧ Fx cnt1 ∧ Own cnt1 ∧ LnOK ln1 ∧ Rng X1 ∧ Frm [2602, 2700] X X1 ∧ Frm [] Y Y1 ∧ CInv cnt1 X1 Y1 ln1 ∧ (∃ r9, o = some r9 ∧ 0 ≤ r9 ∧ r9 < cnt1 26) ∧ o = some (cnt 26) ∧ cnt1 26 = cnt 26 + 1 ∧ ln1 (cnt 26) = X 13 g i ∧ (∀ j, 0 ≤ j → j < X 13 g i → X1 27 (cnt 26) j = X 14 g (12 * i + j)) ∧ ∀ y, y ≠ cnt 26 → X1 27 y = X 27 y) := by
  refine K_of (cc := cX4_copyOfRow) (maxL := 4) (ret := (some (.object "StateRecords$Row"))) (by decide) rfl (Nat.le_of_ble_eq_true rfl) ?_
  intro p e s m below meth c ls hx hb hr hml hown hts hlocks hl hK hw hS
  have hown : s.vm.findClass RX4 = some m.cls := hown
  have hbs : base ≤ s.heap.size := wd_size hw
  obtain ⟨av9, hav9⟩ : ∃ a9 : Array Value, a9 = ([.ref (ad 7 g), .int (jI i)] : List Value).toArray := ⟨_, rfl⟩
  rw [← hav9] at hts ⊢
  obtain ⟨Q9, hQ9⟩ : ∃ q9Q : State → Prop, q9Q = MQ below (QR D tc base 26 (fun o u => ∃ (ad1 : Nat → Int → Nat) (cnt1 : Nat → Int) (X1 : Nat → Int → Int → Int) (Y1 : Nat → Int → Int → Option Int) (ln1 : Int → Int), u = (ad1, cnt1, X1, Y1, ln1) ∧ Ext ad cnt ln ad1 cnt1 ln1 ∧ Fx cnt1 ∧ Own cnt1 ∧ LnOK ln1 ∧ Rng X1 ∧ Frm [2602, 2700] X X1 ∧ Frm [] Y Y1 ∧ CInv cnt1 X1 Y1 ln1 ∧ (∃ r9, o = some r9 ∧ 0 ≤ r9 ∧ r9 < cnt1 26) ∧ o = some (cnt 26) ∧ cnt1 26 = cnt 26 + 1 ∧ ln1 (cnt 26) = X 13 g i ∧ (∀ j, 0 ≤ j → j < X 13 g i → X1 27 (cnt 26) j = X 14 g (12 * i + j)) ∧ ∀ y, y ≠ cnt 26 → X1 27 y = X 27 y)) av9 s 2 14 (frA base) := ⟨_, rfl⟩
  rw [← hQ9]
  obtain ⟨ad0, ha0⟩ : ∃ a, a = ad := ⟨_, rfl⟩
  obtain ⟨cnt0, hc0⟩ : ∃ a, a = cnt := ⟨_, rfl⟩
  obtain ⟨ln0, hl0⟩ : ∃ a, a = ln := ⟨_, rfl⟩
  have hE9 : ∀ a c n, Ext ad0 cnt0 ln0 a c n → Ext ad cnt ln a c n := by rw [ha0, hc0, hl0]; exact fun _ _ _ h => h
  have hE : Ext ad0 cnt0 ln0 ad cnt ln := by rw [ha0, hc0, hl0]; exact Ext.rf
  clear ha0 hc0 hl0
  have hi4 : ∀ w ∈ wsX40, w ∈ wsX4_copyOfRow := fun w h => List.mem_cons_of_mem _ (List.mem_append_right _ h)
  have hf4 : fctx s m _ RX4 wsX4_copyOfRow D tc RX4 TX4 9 4 := ⟨hts, hi4, hown, hK.1, rfl⟩
  have hi5 : ∀ w ∈ wsX50, w ∈ wsX4_copyOfRow := fun w h => List.mem_cons_of_mem _ (List.mem_append_left _ (List.mem_append_right _ h))
  have hf5 : fctx s m _ RX4 wsX4_copyOfRow D tc RX5 TX5 2 5 := ⟨hts, hi5, hown, hK.1, rfl⟩
  have lk28 := hts (.fieldLink RX4 28 (TX4 7).1 (TX4 7).2.1 (TX4 7).2.2.1) (gj_X4_copyOfRow_0 _ (gp_1 (gp_1 (gp_1 gp_h))))
  have lk31 := hts (.fieldLink RX4 31 (TX4 8).1 (TX4 8).2.1 (TX4 8).2.2.1) (gj_X4_copyOfRow_0 _ (gp_4 (gp_1 gp_h)))
  have lk43 := hts (.fieldLink RX4 43 (TX5 0).1 (TX5 0).2.1 (TX5 0).2.2.1) (gj_X4_copyOfRow_0 _ (gp_4 gp_h))
  have hc7 : cnt 7 = 6 := hFx.at 7 6 (by decide)
  have hc13 : cnt 13 = 6 := hFx.at 13 6 (by decide)
  have hc14 : cnt 14 = 6 := hFx.at 14 6 (by decide)
  have hc27 : cnt 27 = cnt 26 := hFx.2.2
  have hl : lv_has ls 4 [(0, .ref (ad 7 g)), (1, .int (jI i))] := hl
  have ftc : 0 ≤ X 0 0 3 ∧ X 0 0 3 ≤ 30 := hR 0 0 3
  have fty : 0 ≤ X 0 0 1 ∧ X 0 0 1 ≤ 8 := hR 0 0 1
  have hct : cnt 19 = X 0 0 1 := hCI.2.2.2.1.1
  have hfj : 0 ≤ X 29 0 3 ∧ X 29 0 3 ≤ 4 := hR 29 0 3
  have hfn : 0 ≤ X 29 0 1 ∧ X 29 0 1 ≤ 80 := hR 29 0 1
  refine g_new (E := []) (G := []) (ci := 5) (fs := [.null, .int 0]) hx hb hf5 ⟨tyX5_ok, nmX5⟩ (hts (.classLink RX4 35 RX5) (by first | exact gj_X4_copyOfRow_0 _ (gp_h) | decide +kernel)) (hts (.instantiable RX5 2) (by first | exact gj_X4_copyOfRow_0 _ (gp_1 gp_h) | decide +kernel)) (hts (.initialized RX5) (by first | exact gj_X4_copyOfRow_0 _ (gp_1 (gp_1 gp_h)) | decide +kernel)) (wx_of hw) hS hbs (fun j hj => by rcases (show j = 0 ∨ j = 1 by omega) with rfl | rfl <;> rfl) (by show _ ≤ (2 : Nat); omega) (by show _ ≤ (14 : Nat); omega) dX4_copyOfRow_0 (fun q1 H hwx hS => ?_)
  have hwx : wx D tc base (ad, cnt, X, Y, ln) ([] ++ [(q1, .inr (5, [.null, .int 0]))]) H := hwx
  have hw := wx_wd hwx
  refine lv_dup hx hb dX4_copyOfRow_3 rfl ?_
  refine lv_aload_n hx hb dX4_copyOfRow_4 rfl (lv_at hl 0 rfl) ?_
  refine x_geto hx hb hf4 hw (by omega) (by omega) sl_7_7 lk28 dX4_copyOfRow_5 ?_
  refine lv_iload_n hx hb dX4_copyOfRow_8 rfl (lv_at hl 1 rfl) ?_
  refine x_iald hx hb hK.1 hw (by omega) (by omega) ar_13 (len_E ar_13 (by first | exact Nat.ne_of_beq_eq_false rfl | decide)) (by omega) (by omega) (by omega) dX4_copyOfRow_9 ?_
  have f2 : 0 ≤ X 13 g i ∧ X 13 g i ≤ 12 := hR 13 g i
  refine gos_x (run_I (As := [.int (jI (X 13 g i))]) (rest := [.ref q1]) hx hb hml hown hts (c_X5_init l D tc base (ad, cnt, X, Y, ln) [] q1 (X 13 g i) (by omega)) (cwI 1 hts gX4_copyOfRow_X5_init rfl rfl rfl (hts (.initialized RX5) (by first | exact gj_X4_copyOfRow_0 _ (gp_1 (gp_1 gp_h)) | decide +kernel)) (hts (.methodLink RX4 44 yX5_init) (by first | exact gj_X4_copyOfRow_0 _ (gp_4 (gp_1 (gp_1 gp_h))) | decide +kernel)) (hts (.instanceMethod yX5_init) (by first | exact gj_X4_copyOfRow_0 _ (gp_4 (gp_1 (gp_1 (gp_1 gp_h)))) | decide +kernel)) rfl (by decide +kernel) ⟨Nat.le_of_ble_eq_true rfl, Nat.le_of_ble_eq_true rfl⟩) hK hwx rfl hl.1 rfl (Nat.le_of_ble_eq_true rfl) dX4_copyOfRow_10 ⟨by show _ ≤ (2 : Nat); omega, by show _ ≤ (14 : Nat); omega⟩) hS (fun u9 E3 H locs p4 hwx hS => ?_)
  obtain ⟨g5, hg5⟩ : ∃ g, g = cnt 26 := ⟨_, rfl⟩
  obtain ⟨rfl, q9, rfl⟩ := p4
  have hwx := (show wx D tc base (ad, cnt, X, Y, ln) ([] ++ _) H from hwx)
  obtain ⟨ad, cnt, X6, ln, hw, hE7, hFx, hOw, hLn, hRX6, hG8, hCIX6, hkg5, hag5, hlng5, hz0g5, hx7g5⟩ := born_row hwx (by omega) hFx hOw (by omega) hR hLn hCI
  rw [← hg5] at hkg5 hag5 hlng5 hz0g5 hx7g5
  have hFX6 : Frm [2602, 2700] X X6 := Frm.tr Frm.rf (Frm.mono hG8 (by first | exact nls_of rfl | decide))
  have hE := Ext.tr hE hE7
  have hm10 := hE7.2.1 19
  have hm11 := hE7.2.1 25
  have hm12 := hE7.2.1 26
  have hN : 0 ≤ cnt 25 ∧ 0 ≤ cnt 26 := by omega
  have ha13 := hE7.1 7 g (by omega) (by omega)
  have hc7 : cnt 7 = 6 := hFx.at 7 6 (by decide)
  have hc13 : cnt 13 = 6 := hFx.at 13 6 (by decide)
  have hc14 : cnt 14 = 6 := hFx.at 14 6 (by decide)
  have hc27 : cnt 27 = cnt 26 := hFx.2.2
  have hl : lv_has ls 4 [(0, .ref (ad 7 g)), (1, .int (jI i))] := by rw [ha13]; exact hl
  refine W.eq (g2 := F0 m 13 ls [.ref (ad 26 g5)]) (by first | rfl | (rw [hag5]; done) | (rw [hag5]; rfl)) ?_
  refine lv_astore_n (lv' := [(2, .ref (ad 26 g5)), (0, .ref (ad 7 g)), (1, .int (jI i))]) hx hb dX4_copyOfRow_13 rfl hl (by decide) rfl (fun ls hl => ?_)
  refine lv_iconst (v := jI 0) hx hb dX4_copyOfRow_14 rfl ?_
  refine lv_istore_n (lv' := [(3, .int (jI 0)), (2, .ref (ad 26 g5)), (0, .ref (ad 7 g)), (1, .int (jI i))]) hx hb dX4_copyOfRow_15 rfl hl (by decide) rfl (fun ls hl => ?_)
  have lp16 : ∀ (nn : Nat) (j : Int) (Xa : Nat → Int → Int → Int) (cl sl : Nat) (H : Heap) (locs : List Loc) (ls : Array Slot), (12 - j) < (nn : Int) → (Rng Xa) → (Frm [2700] X6 Xa) → (0 ≤ j ∧ j ≤ 12) → (cl ≤ 2 ∧ sl ≤ 14) → (∀ q, 0 ≤ q → q < j → Xa 27 g5 q = X 14 g (12 * i + q)) → (∀ y, y ≠ g5 → Xa 27 y = X 27 y) → wd D tc base (ad, cnt, Xa, Y, ln) H → va_S (frA base) s.heap H locs → lv_has ls 4 [(0, .ref (ad 7 g)), (1, .int (jI i)), (2, .ref (ad 26 g5)), (3, .int (jI j))] → W p l e ({ frames := 2, cells := 2, slots := 14, locals := 33 } : Room) s m av9 below meth c H locs cl sl Q9 (F0 m 16 ls []) := by
    intro nn
    induction nn with
    | zero => intro j Xa cl sl H locs ls hm hRXa hGXa hj hcl hcp hco hw hS hl; exfalso; omega
    | succ nn ih16 =>
      intro j Xa cl sl H locs ls hm hRXa hGXa hj hcl hcp hco hw hS hl
      have hFXa : Frm [2602, 2700] X Xa := Frm.tr hFX6 (Frm.mono hGXa (by first | exact nls_of rfl | decide))
      refine lv_iload_n hx hb dX4_copyOfRow_16 rfl (lv_at hl 3 rfl) ?_
      refine lv_aload_n hx hb dX4_copyOfRow_17 rfl (lv_at hl 2 rfl) ?_
      refine x_geto hx hb hf5 hw (by omega) (by omega) sl_26_0 lk43 dX4_copyOfRow_18 ?_
      have f14 : 0 ≤ ln g5 ∧ ln g5 ≤ 12 := hLn g5
      refine x_alenl hx hb hK.1 hw (by omega) (by omega) ar_27 (show lenE ln 27 g5 = ln g5 from rfl) (by omega) dX4_copyOfRow_21 ?_
      refine x_icmp_ge (tgt := 48) hx hb (by omega) (by omega) dX4_copyOfRow_22 (by decide) (fun c15 => ?_) (fun c15 => ?_)
      · refine lv_aload_n hx hb dX4_copyOfRow_48 rfl (lv_at hl 2 rfl) ?_
        rw [hQ9]
        refine ret_r (mc := 2) (ms := 14) (k := 26) (i := g5) hx hb hr hlocks hw hS (by first | exact Nat.le_of_ble_eq_true rfl | omega) (by first | exact Nat.le_of_ble_eq_true rfl | omega) dX4_copyOfRow_49 ?_
        have q16 : Frm [2700] X6 Xa := Frm.tr Frm.rf (Frm.mono hGXa (by first | exact nls_of rfl | decide))
        have hCq17 : CInv cnt Xa Y ln := cinv_frm (M := [2700]) (N := []) hCIX6 q16 Frm.rf (by decide) (by decide)
        exact ⟨ad, cnt, Xa, Y, ln, rfl, hE9 _ _ _ hE, hFx, hOw, hLn, hRXa, hFXa, Frm.rf, hCq17, ⟨_, rfl, by omega, by omega⟩, (by rw [← hg5]; exact ⟨rfl, by omega, hlng5, fun j9 a b => hcp j9 a (by omega), hco⟩)⟩
      · refine lv_aload_n hx hb dX4_copyOfRow_25 rfl (lv_at hl 2 rfl) ?_
        refine x_geto hx hb hf5 hw (by omega) (by omega) sl_26_0 lk43 dX4_copyOfRow_26 ?_
        refine lv_iload_n hx hb dX4_copyOfRow_29 rfl (lv_at hl 3 rfl) ?_
        refine lv_aload_n hx hb dX4_copyOfRow_30 rfl (lv_at hl 0 rfl) ?_
        refine x_geto hx hb hf4 hw (by omega) (by omega) sl_7_8 lk31 dX4_copyOfRow_31 ?_
        refine lv_iload_n hx hb dX4_copyOfRow_34 rfl (lv_at hl 1 rfl) ?_
        refine lv_bipush (v := jI 12) hx hb dX4_copyOfRow_35 (by decide) ?_
        refine x_imul hx hb dX4_copyOfRow_37 ?_
        refine lv_iload_n hx hb dX4_copyOfRow_38 rfl (lv_at hl 3 rfl) ?_
        refine x_iadd hx hb dX4_copyOfRow_39 ?_
        refine x_lald hx hb hK.1 hw (by omega) (by omega) ar_14 (len_E ar_14 (by first | exact Nat.ne_of_beq_eq_false rfl | decide)) (by omega) (by omega) (by omega) dX4_copyOfRow_40 ?_
        have e18 : ∀ p9 q9 : Int, Xa 14 p9 q9 = X 14 p9 q9 := fun p9 q9 => by rw [hGXa 14 p9 q9 (show 1400 ∉ [2700] by first | exact nlm_ni rfl | decide), hG8 14 p9 q9 (show 1400 ∉ [2602, 2700] by first | exact nlm_ni rfl | decide)]
        rw [e18 g ((i * 12) + j)]
        have f19 : (-9223372036854775808) ≤ X 14 g ((i * 12) + j) ∧ X 14 g ((i * 12) + j) ≤ 9223372036854775807 := hR 14 g ((i * 12) + j)
        have f20 : 0 ≤ ln g5 ∧ ln g5 ≤ 12 := hLn g5
        refine x_last hx hb hK.1 hw hS (by omega) (by omega) ar_27 (show lenE ln 27 g5 = ln g5 from rfl) (by omega) (by omega) (by omega) dX4_copyOfRow_41 (fun H locs hw hS => ?_)
        obtain ⟨X21, hX21⟩ : ∃ Xq, Xq = u3 Xa 27 g5 j (X 14 g ((i * 12) + j)) := ⟨_, rfl⟩
        rw [← hX21] at hw
        have hRX21 : Rng X21 := by rw [hX21]; exact rng_set hRXa (show (-9223372036854775808) ≤ (X 14 g ((i * 12) + j)) ∧ (X 14 g ((i * 12) + j)) ≤ 9223372036854775807 by omega)
        have hVX21 : X21 27 g5 j = (X 14 g ((i * 12) + j)) := by rw [hX21]; exact u3_s _ _ _ _ _
        have hFX21 : Frm [2602, 2700] X X21 := by rw [hX21]; exact Frm.set hFXa (show 2700 ∈ [2602, 2700] by first | exact nlm_in rfl | decide)
        refine lv_iinc (v := jI (j + 1)) (lv' := [(3, .int (jI (j + 1))), (0, .ref (ad 7 g)), (1, .int (jI i)), (2, .ref (ad 26 g5))]) hx hb dX4_copyOfRow_42 hl (k := 3) rfl (jI_add _ _) (by decide) rfl (fun ls hl => ?_)
        refine lv_goto (tgt := 16) hx hb dX4_copyOfRow_45 (by decide) ?_
        have q22 : Frm [2700] X6 Xa := Frm.tr Frm.rf (Frm.mono hGXa (by first | exact nls_of rfl | decide))
        have q23 : Frm [2700] X6 X21 := by rw [hX21]; exact Frm.set q22 (show 2700 ∈ [2700] by first | exact nlm_in rfl | decide)
        exact ih16 (j + 1) X21 _ _ _ _ _ (by omega) hRX21 q23 (by omega) (by omega) (fun q a b => if hq9 : q = j then (by rw [hq9, show 12 * i + j = i * 12 + j by omega]; exact hVX21) else (by rw [hX21, u3_ij (fun w9 => hq9 w9.2)]; exact hcp q a (by omega))) (fun y hy => (by rw [hX21, u3_ne _ _ _ _ _ _ _ (fun w9 => hy w9.2)]; exact hco y hy)) hw hS (lv_sub hl [1, 2, 3, 0] rfl)
  exact lp16 (12 - 0 : Int).toNat.succ 0 X6 _ _ _ _ _ (by omega) hRX6 Frm.rf (by omega) (by omega) (fun q a b => by omega) (fun y hy => hx7g5 27 y hy) hw hS (lv_sub hl [2, 3, 1, 0] rfl)

set_option maxHeartbeats 4000000 in
set_option maxRecDepth 100000 in
theorem c_X8_rowPutBack (l : Launch) (D : va_G) (tc : Nat → ClassId) (base : Nat) (ad : Nat → Int → Nat) (cnt : Nat → Int) (X : Nat → Int → Int → Int) (Y : Nat → Int → Int → Option Int) (ln : Int → Int) (hR : Rng X) (hFx : Fx cnt) (hLn : LnOK ln) (hCI : CInv cnt X Y ln) (hOw : Own cnt) (hN : 0 ≤ cnt 25 ∧ 0 ≤ cnt 26) (g i lane : Int) (hg : 0 ≤ g ∧ g < 6) (hi0 : 0 ≤ i ∧ i ≤ 149) (hlane : 3 ≤ lane ∧ lane ≤ 5) : KR l D tc base 26 yX8_rowPutBack wsX8_rowPutBack ({ frames := 3, cells := 2, slots := 14, locals := 56 } : Room) [.ref (ad 0 0), .ref (ad 7 g), .int (jI i), .int (jI lane)] (ad, cnt, X, Y, ln) 2 14 (fun o u => ∃ (ad1 : Nat → Int → Nat) (cnt1 : Nat → Int) (X1 : Nat → Int → Int → Int) (Y1 : Nat → Int → Int → Option Int) (ln1 : Int → Int), u = (ad1, cnt1, X1, Y1, ln1) ∧ Ext ad cnt ln ad1 cnt1 ln1 ∧ Fx cnt1 ∧ Own cnt1 ∧ LnOK ln1 ∧ Rng X1 ∧ Frm [2602, 2700] X X1 ∧ Frm [600] Y Y1 ∧ CInv cnt1 X1 Y1 ln1 ∧ (∃ r9, o = some r9 ∧ 0 ≤ r9 ∧ r9 < cnt1 26) ∧ ∃ q, o = some q ∧ rpC g i lane (cnt 26) X Y ln (cnt1 26) X1 Y1 ln1 q) := by
  refine K_of (cc := cX8_rowPutBack) (maxL := 5) (ret := (some (.object "StateRecords$Row"))) (by decide) rfl (Nat.le_of_ble_eq_true rfl) ?_
  intro p e s m below meth c ls hx hb hr hml hown hts hlocks hl hK hw hS
  have hown : s.vm.findClass RX8 = some m.cls := hown
  have hbs : base ≤ s.heap.size := wd_size hw
  obtain ⟨av9, hav9⟩ : ∃ a9 : Array Value, a9 = ([.ref (ad 0 0), .ref (ad 7 g), .int (jI i), .int (jI lane)] : List Value).toArray := ⟨_, rfl⟩
  rw [← hav9] at hts ⊢
  obtain ⟨Q9, hQ9⟩ : ∃ q9Q : State → Prop, q9Q = MQ below (QR D tc base 26 (fun o u => ∃ (ad1 : Nat → Int → Nat) (cnt1 : Nat → Int) (X1 : Nat → Int → Int → Int) (Y1 : Nat → Int → Int → Option Int) (ln1 : Int → Int), u = (ad1, cnt1, X1, Y1, ln1) ∧ Ext ad cnt ln ad1 cnt1 ln1 ∧ Fx cnt1 ∧ Own cnt1 ∧ LnOK ln1 ∧ Rng X1 ∧ Frm [2602, 2700] X X1 ∧ Frm [600] Y Y1 ∧ CInv cnt1 X1 Y1 ln1 ∧ (∃ r9, o = some r9 ∧ 0 ≤ r9 ∧ r9 < cnt1 26) ∧ ∃ q, o = some q ∧ rpC g i lane (cnt 26) X Y ln (cnt1 26) X1 Y1 ln1 q)) av9 s 2 14 (frA base) := ⟨_, rfl⟩
  rw [← hQ9]
  obtain ⟨ad0, ha0⟩ : ∃ a, a = ad := ⟨_, rfl⟩
  obtain ⟨cnt0, hc0⟩ : ∃ a, a = cnt := ⟨_, rfl⟩
  obtain ⟨ln0, hl0⟩ : ∃ a, a = ln := ⟨_, rfl⟩
  have hE9 : ∀ a c n, Ext ad0 cnt0 ln0 a c n → Ext ad cnt ln a c n := by rw [ha0, hc0, hl0]; exact fun _ _ _ h => h
  have hE : Ext ad0 cnt0 ln0 ad cnt ln := by rw [ha0, hc0, hl0]; exact Ext.rf
  clear ha0 hc0 hl0
  have hi8 : ∀ w ∈ wsX80, w ∈ wsX8_rowPutBack := fun w h => List.mem_cons_of_mem _ (List.mem_append_left _ (List.mem_append_left _ (List.mem_append_right _ h)))
  have hf8 : fctx s m _ RX8 wsX8_rowPutBack D tc RX8 TX8 12 8 := ⟨hts, hi8, hown, hK.1, rfl⟩
  have lk44 := hts (.fieldLink RX8 44 (TX8 9).1 (TX8 9).2.1 (TX8 9).2.2.1) (gj_X8_rowPutBack_0 _ (gp_h))
  have hc0 : cnt 0 = 1 := hFx.at 0 1 (by decide)
  have hc6 : cnt 6 = 1 := hFx.at 6 1 (by decide)
  have hc7 : cnt 7 = 6 := hFx.at 7 6 (by decide)
  have hc27 : cnt 27 = cnt 26 := hFx.2.2
  have hl : lv_has ls 5 [(0, .ref (ad 0 0)), (1, .ref (ad 7 g)), (2, .int (jI i)), (3, .int (jI lane))] := hl
  have ftc : 0 ≤ X 0 0 3 ∧ X 0 0 3 ≤ 30 := hR 0 0 3
  have fty : 0 ≤ X 0 0 1 ∧ X 0 0 1 ≤ 8 := hR 0 0 1
  have hct : cnt 19 = X 0 0 1 := hCI.2.2.2.1.1
  have hfj : 0 ≤ X 29 0 3 ∧ X 29 0 3 ≤ 4 := hR 29 0 3
  have hfn : 0 ≤ X 29 0 1 ∧ X 29 0 1 ≤ 80 := hR 29 0 1
  refine lv_iload_n hx hb dX8_rowPutBack_0 rfl (lv_at hl 2 rfl) ?_
  refine lv_iconst (v := jI 3) hx hb dX8_rowPutBack_1 rfl ?_
  refine x_imul hx hb dX8_rowPutBack_2 ?_
  refine lv_iload_n hx hb dX8_rowPutBack_3 rfl (lv_at hl 3 rfl) ?_
  refine x_iadd hx hb dX8_rowPutBack_4 ?_
  refine lv_iconst (v := jI 3) hx hb dX8_rowPutBack_5 rfl ?_
  refine x_isub hx hb dX8_rowPutBack_6 ?_
  refine lv_istore (lv' := [(4, .int (jI (((i * 3) + lane) - 3))), (0, .ref (ad 0 0)), (1, .ref (ad 7 g)), (2, .int (jI i)), (3, .int (jI lane))]) hx hb dX8_rowPutBack_7 hl (by decide) rfl (fun ls hl => ?_)
  refine lv_aload_n hx hb dX8_rowPutBack_9 rfl (lv_at hl 1 rfl) ?_
  refine x_geto hx hb hf8 hw (by first | exact Int.le_refl 0 | omega) (by first | exact zlt hc0 | omega) sl_0_9 lk44 dX8_rowPutBack_10 ?_
  refine lv_iload hx hb dX8_rowPutBack_13 (lv_at hl 0 rfl) ?_
  refine x_aald hx hb hK.1 hw (by first | exact Int.le_refl 0 | omega) (by first | exact zlt hc6 | omega) ar_6 rfl (len_E ar_6 (by first | exact Nat.ne_of_beq_eq_false rfl | decide)) (by omega) (by omega) (by omega) dX8_rowPutBack_15 (fun y1 => ?_) (fun r2 y1 gr2 lr2 => ?_)
  · refine lv_ifnonnullN hx hb dX8_rowPutBack_16 ?_
    refine lv_aload_n hx hb dX8_rowPutBack_19 rfl (lv_at hl 1 rfl) ?_
    refine x_geto hx hb hf8 hw (by first | exact Int.le_refl 0 | omega) (by first | exact zlt hc0 | omega) sl_0_9 lk44 dX8_rowPutBack_20 ?_
    refine lv_iload hx hb dX8_rowPutBack_23 (lv_at hl 0 rfl) ?_
    refine lv_aload_n hx hb dX8_rowPutBack_25 rfl (lv_at hl 2 rfl) ?_
    refine lv_iload_n hx hb dX8_rowPutBack_26 rfl (lv_at hl 3 rfl) ?_
    refine gos_r (run_V (As := [.int (jI i)]) (rest := [.int (jI (((i * 3) + lane) - 3)), .ref (ad 6 0)]) hx hb hml hown hts (c_X4_copyOfRow l D tc base ad cnt X Y ln hR hFx hLn hCI hOw hN g i (by omega) (by omega)) (cwV 1 hts gX8_rowPutBack_X4_copyOfRow rfl rfl rfl (by first | exact hd_X4_copyOfRow | decide +kernel) ⟨Nat.le_of_ble_eq_true rfl, Nat.le_of_ble_eq_true rfl⟩) hK hw (by first | exact Int.le_refl 0 | omega) (by first | exact zlt hc7 | omega) sl_7_0 rfl rfl hl.1 rfl (Nat.le_of_ble_eq_true rfl) dX8_rowPutBack_27 ⟨(by show _ ≤ (2 : Nat); omega), (by show _ ≤ (14 : Nat); omega)⟩) hS (fun u4 H locs p5 hw hS => ?_) (fun z3 u4 H locs p5 hw hS => ?_)
    · obtain ⟨ad, cnt, X6, Y7, ln, eu4, hE8, hFx, hOw, hLn, hRX6, hG9, hJ10, hCIX6, p5, hcpyX6⟩ := p5
      subst eu4
      obtain ⟨r9, e9, -⟩ := p5
      cases e9
    · obtain ⟨ad, cnt, X11, Y12, ln, eu4, hE13, hFx, hOw, hLn, hRX11, hG14, hJ15, hCIX11, p5, hcpyX11⟩ := p5
      subst eu4
      have hFX11 : Frm [2602, 2700] X X11 := Frm.tr Frm.rf (Frm.mono hG14 (by first | exact nls_of rfl | decide))
      have hHY12 : Frm [600] Y Y12 := Frm.tr Frm.rf (Frm.mono hJ15 (by first | exact nls_of rfl | decide))
      have hz3 : 0 ≤ z3 ∧ z3 < cnt 26 := by obtain ⟨r9, e9, h1, h2⟩ := p5; cases e9; exact ⟨h1, h2⟩
      have hE := Ext.tr hE hE13
      have hm16 := hE13.2.1 19
      have hm17 := hE13.2.1 25
      have hm18 := hE13.2.1 26
      have hN : 0 ≤ cnt 25 ∧ 0 ≤ cnt 26 := by omega
      have ha19 := hE13.1 0 0 (by omega) (by omega)
      have ha20 := hE13.1 7 g (by omega) (by omega)
      have ha21 := hE13.1 6 0 (by omega) (by omega)
      have hc0 : cnt 0 = 1 := hFx.at 0 1 (by decide)
      have hc6 : cnt 6 = 1 := hFx.at 6 1 (by decide)
      have hc7 : cnt 7 = 6 := hFx.at 7 6 (by decide)
      have hc27 : cnt 27 = cnt 26 := hFx.2.2
      have hl : lv_has ls 5 [(4, .int (jI (((i * 3) + lane) - 3))), (0, .ref (ad 0 0)), (1, .ref (ad 7 g)), (2, .int (jI i)), (3, .int (jI lane))] := by rw [ha19, ha20]; exact hl
      refine W.eq (g2 := F0 m 30 ls [.ref (ad 26 z3), .int (jI (((i * 3) + lane) - 3)), .ref (ad 6 0)]) (by first | rfl | (rw [ha21]; done) | (rw [ha21]; rfl)) ?_
      refine x_aast hx hb hK.1 hw hS (by first | exact Int.le_refl 0 | omega) (by first | exact zlt hc6 | omega) ar_6 rfl rfl sl_26_0 (len_E ar_6 (by first | exact Nat.ne_of_beq_eq_false rfl | decide)) (by omega) (by omega) (by omega) (by omega) (by omega) dX8_rowPutBack_30 (fun H locs hw hS => ?_)
      obtain ⟨Y22, hY22⟩ : ∃ Yq, Yq = u3 Y12 6 0 (((i * 3) + lane) - 3) (some z3) := ⟨_, rfl⟩
      rw [← hY22] at hw
      have hVY22 : Y22 6 0 (((i * 3) + lane) - 3) = (some z3) := by rw [hY22]; exact u3_s _ _ _ _ _
      have hHY22 : Frm [600] Y Y22 := by rw [hY22]; exact Frm.set hHY12 (show 600 ∈ [600] by first | exact nlm_in rfl | decide)
      refine lv_aload_n hx hb dX8_rowPutBack_31 rfl (lv_at hl 1 rfl) ?_
      refine x_geto hx hb hf8 hw (by first | exact Int.le_refl 0 | omega) (by first | exact zlt hc0 | omega) sl_0_9 lk44 dX8_rowPutBack_32 ?_
      refine lv_iload hx hb dX8_rowPutBack_35 (lv_at hl 0 rfl) ?_
      refine x_aald hx hb hK.1 hw (by first | exact Int.le_refl 0 | omega) (by first | exact zlt hc6 | omega) ar_6 rfl (len_E ar_6 (by first | exact Nat.ne_of_beq_eq_false rfl | decide)) (by omega) (by omega) (by omega) dX8_rowPutBack_37 (fun y23 => ?_) (fun r24 y23 gr24 lr24 => ?_)
      · exfalso
        rw [hVY22] at y23; cases y23
      · have er24 : r24 = z3 := by rw [hVY22] at y23; cases y23; rfl
        rw [er24]
        rw [hQ9]
        refine ret_r (mc := 2) (ms := 14) (k := 26) (i := z3) hx hb hr hlocks hw hS (by first | exact Nat.le_of_ble_eq_true rfl | omega) (by first | exact Nat.le_of_ble_eq_true rfl | omega) dX8_rowPutBack_38 ?_
        have q25 : Frm [600] Y12 Y22 := by rw [hY22]; exact Frm.set Frm.rf (show 600 ∈ [600] by first | exact nlm_in rfl | decide)
        have hCq26 : CInv cnt X11 Y22 ln := cinv_frm (M := []) (N := [600]) hCIX11 Frm.rf q25 (by decide) (by decide)
        exact ⟨ad, cnt, X11, Y22, ln, rfl, hE9 _ _ _ hE, hFx, hOw, hLn, hRX11, hFX11, hHY22, hCq26, ⟨_, rfl, by omega, by omega⟩, ⟨z3, rfl, (by obtain ⟨q1, q2, q3, q4, q5⟩ := hcpyX11; exact Or.inr ⟨(by rw [show 3 * i + lane - 3 = i * 3 + lane - 3 by omega]; exact y1), Option.some.inj q1, q2, q3, fun i9 a b => hE13.2.2 i9 a (by omega), q4, q5, hG14, (by rw [hY22, Frm.nil hJ15, show 3 * i + lane - 3 = i * 3 + lane - 3 by omega, ← q1])⟩)⟩⟩
  · refine lv_ifnonnull (tgt := 31) hx hb dX8_rowPutBack_16 (by decide) ?_
    refine lv_aload_n hx hb dX8_rowPutBack_31 rfl (lv_at hl 1 rfl) ?_
    refine x_geto hx hb hf8 hw (by first | exact Int.le_refl 0 | omega) (by first | exact zlt hc0 | omega) sl_0_9 lk44 dX8_rowPutBack_32 ?_
    refine lv_iload hx hb dX8_rowPutBack_35 (lv_at hl 0 rfl) ?_
    refine x_aald hx hb hK.1 hw (by first | exact Int.le_refl 0 | omega) (by first | exact zlt hc6 | omega) ar_6 rfl (len_E ar_6 (by first | exact Nat.ne_of_beq_eq_false rfl | decide)) (by omega) (by omega) (by omega) dX8_rowPutBack_37 (fun y27 => ?_) (fun r28 y27 gr28 lr28 => ?_)
    · exfalso
      rw [y1] at y27; cases y27
    · have er28 : r28 = r2 := by rw [y1] at y27; cases y27; rfl
      rw [er28]
      rw [hQ9]
      refine ret_r (mc := 2) (ms := 14) (k := 26) (i := r2) hx hb hr hlocks hw hS (by first | exact Nat.le_of_ble_eq_true rfl | omega) (by first | exact Nat.le_of_ble_eq_true rfl | omega) dX8_rowPutBack_38 ?_
      exact ⟨ad, cnt, X, Y, ln, rfl, hE9 _ _ _ hE, hFx, hOw, hLn, hR, Frm.rf, Frm.rf, hCI, ⟨_, rfl, by omega, by omega⟩, ⟨r2, rfl, Or.inl ⟨(by rw [show 3 * i + lane - 3 = i * 3 + lane - 3 by omega]; exact y1), rfl, rfl, rfl, rfl⟩⟩⟩

set_option maxHeartbeats 4000000 in
set_option maxRecDepth 100000 in
theorem c_X8_addThings (l : Launch) (D : va_G) (tc : Nat → ClassId) (base : Nat) (ad : Nat → Int → Nat) (cnt : Nat → Int) (X : Nat → Int → Int → Int) (Y : Nat → Int → Int → Option Int) (ln : Int → Int) (hR : Rng X) (hFx : Fx cnt) (hLn : LnOK ln) (hCI : CInv cnt X Y ln) (g : Int) (hg : 0 ≤ g ∧ g < 6) (hfit : X 0 0 3 + X 7 g 0 ≤ 30) : KV l D tc base yX8_addThings wsX8_addThings ({ frames := 2, cells := 0, slots := 0, locals := 43 } : Room) [.ref (ad 0 0), .ref (ad 7 g)] (ad, cnt, X, Y, ln) 0 0 (fun u => ∃ (X1 : Nat → Int → Int → Int) (Y1 : Nat → Int → Int → Option Int), u = (ad, cnt, X1, Y1, ln) ∧ Rng X1 ∧ Frm [4, 1600] X X1 ∧ Frm [1501, 1700] Y Y1 ∧ CInv cnt X1 Y1 ln ∧ (0 : Int) ≤ 0 ∧ X1 0 0 3 = X 0 0 3 + X 7 g 0 ∧ (∀ r9, 0 ≤ r9 → r9 < X 7 g 0 → Y1 15 (X 0 0 3 + r9) 0 = some (X 8 g r9) ∧ ∀ j, 0 ≤ j → j < X 19 (X 8 g r9) 1 → X1 16 (X 0 0 3 + r9) j = X 22 (X 8 g r9) j ∧ Y1 17 (X 0 0 3 + r9) j = none) ∧ ∀ y, y < X 0 0 3 → Y1 15 y 0 = Y 15 y 0 ∧ ∀ j, X1 16 y j = X 16 y j ∧ Y1 17 y j = Y 17 y j) := by
  refine K_of (cc := cX8_addThings) (maxL := 3) (ret := none) (by decide) rfl (Nat.le_of_ble_eq_true rfl) ?_
  intro p e s m below meth c ls hx hb hr hml hown hts hlocks hl hK hw hS
  have hown : s.vm.findClass RX8 = some m.cls := hown
  obtain ⟨av9, hav9⟩ : ∃ a9 : Array Value, a9 = ([.ref (ad 0 0), .ref (ad 7 g)] : List Value).toArray := ⟨_, rfl⟩
  rw [← hav9] at hts ⊢
  obtain ⟨Q9, hQ9⟩ : ∃ q9Q : State → Prop, q9Q = MQ below (QV D tc base (fun u => ∃ (X1 : Nat → Int → Int → Int) (Y1 : Nat → Int → Int → Option Int), u = (ad, cnt, X1, Y1, ln) ∧ Rng X1 ∧ Frm [4, 1600] X X1 ∧ Frm [1501, 1700] Y Y1 ∧ CInv cnt X1 Y1 ln ∧ (0 : Int) ≤ 0 ∧ X1 0 0 3 = X 0 0 3 + X 7 g 0 ∧ (∀ r9, 0 ≤ r9 → r9 < X 7 g 0 → Y1 15 (X 0 0 3 + r9) 0 = some (X 8 g r9) ∧ ∀ j, 0 ≤ j → j < X 19 (X 8 g r9) 1 → X1 16 (X 0 0 3 + r9) j = X 22 (X 8 g r9) j ∧ Y1 17 (X 0 0 3 + r9) j = none) ∧ ∀ y, y < X 0 0 3 → Y1 15 y 0 = Y 15 y 0 ∧ ∀ j, X1 16 y j = X 16 y j ∧ Y1 17 y j = Y 17 y j)) av9 s 0 0 (frA base) := ⟨_, rfl⟩
  rw [← hQ9]
  have hi4 : ∀ w ∈ wsX40, w ∈ wsX8_addThings := fun w h => List.mem_cons_of_mem _ (List.mem_append_left _ (List.mem_append_left _ (List.mem_append_left _ (List.mem_append_right _ h))))
  have hf4 : fctx s m _ RX8 wsX8_addThings D tc RX4 TX4 9 4 := ⟨hts, hi4, hown, hK.1, rfl⟩
  have hi8 : ∀ w ∈ wsX80, w ∈ wsX8_addThings := fun w h => List.mem_cons_of_mem _ (List.mem_append_left _ (List.mem_append_left _ (List.mem_append_right _ h)))
  have hf8 : fctx s m _ RX8 wsX8_addThings D tc RX8 TX8 12 8 := ⟨hts, hi8, hown, hK.1, rfl⟩
  have lk11 := hts (.fieldLink RX8 11 (TX8 0).1 (TX8 0).2.1 (TX8 0).2.2.1) (gj_X8_addThings_0 _ (gp_1 (gp_1 (gp_1 gp_h))))
  have lk17 := hts (.fieldLink RX8 17 (TX8 2).1 (TX8 2).2.1 (TX8 2).2.2.1) (gj_X8_addThings_0 _ (gp_1 gp_h))
  have lk94 := hts (.fieldLink RX8 94 (TX8 3).1 (TX8 3).2.1 (TX8 3).2.2.1) (gj_X8_addThings_0 _ (gp_1 (gp_1 gp_h)))
  have lk231 := hts (.fieldLink RX8 231 (TX4 0).1 (TX4 0).2.1 (TX4 0).2.2.1) (gj_X8_addThings_0 _ (gp_h))
  have lk336 := hts (.fieldLink RX8 336 (TX4 1).1 (TX4 1).2.1 (TX4 1).2.2.1) (gj_X8_addThings_0 _ (gp_4 gp_h))
  have hc0 : cnt 0 = 1 := hFx.at 0 1 (by decide)
  have hc1 : cnt 1 = 1 := hFx.at 1 1 (by decide)
  have hc2 : cnt 2 = 1 := hFx.at 2 1 (by decide)
  have hc7 : cnt 7 = 6 := hFx.at 7 6 (by decide)
  have hc8 : cnt 8 = 6 := hFx.at 8 6 (by decide)
  have hc15 : cnt 15 = 30 := hFx.at 15 30 (by decide)
  have hl : lv_has ls 3 [(0, .ref (ad 0 0)), (1, .ref (ad 7 g))] := hl
  have ftc : 0 ≤ X 0 0 3 ∧ X 0 0 3 ≤ 30 := hR 0 0 3
  have fty : 0 ≤ X 0 0 1 ∧ X 0 0 1 ≤ 8 := hR 0 0 1
  have hct : cnt 19 = X 0 0 1 := hCI.2.2.2.1.1
  have hfj : 0 ≤ X 29 0 3 ∧ X 29 0 3 ≤ 4 := hR 29 0 3
  have hfn : 0 ≤ X 29 0 1 ∧ X 29 0 1 ≤ 80 := hR 29 0 1
  have frc : 0 ≤ X 7 g 0 ∧ X 7 g 0 ≤ 30 := hR 7 g 0
  refine lv_iconst (v := jI 0) hx hb dX8_addThings_0 rfl ?_
  refine lv_istore_n (lv' := [(2, .int (jI 0)), (0, .ref (ad 0 0)), (1, .ref (ad 7 g))]) hx hb dX8_addThings_1 rfl hl (by decide) rfl (fun ls hl => ?_)
  have lp2 : ∀ (nn : Nat) (r : Int) (Xa : Nat → Int → Int → Int) (Ya : Nat → Int → Int → Option Int) (H : Heap) (locs : List Loc) (ls : Array Slot), (30 - r) < (nn : Int) → (Rng Xa) → (Frm [4, 1600] X Xa) → (Frm [1501, 1700] Y Ya) → (0 ≤ r ∧ r ≤ X 7 g 0) → (Xa 0 0 3 = X 0 0 3 + r) → (CInv cnt Xa Ya ln) → (∀ r9, 0 ≤ r9 → r9 < r → Ya 15 (X 0 0 3 + r9) 0 = some (X 8 g r9) ∧ ∀ j, 0 ≤ j → j < X 19 (X 8 g r9) 1 → Xa 16 (X 0 0 3 + r9) j = X 22 (X 8 g r9) j ∧ Ya 17 (X 0 0 3 + r9) j = none) → (∀ y, y < X 0 0 3 → Ya 15 y 0 = Y 15 y 0 ∧ ∀ j, Xa 16 y j = X 16 y j ∧ Ya 17 y j = Y 17 y j) → wd D tc base (ad, cnt, Xa, Ya, ln) H → va_S (frA base) s.heap H locs → lv_has ls 3 [(0, .ref (ad 0 0)), (1, .ref (ad 7 g)), (2, .int (jI r))] → W p l e ({ frames := 2, cells := 0, slots := 0, locals := 43 } : Room) s m av9 below meth c H locs 0 0 Q9 (F0 m 2 ls []) := by
    intro nn
    induction nn with
    | zero => intro r Xa Ya H locs ls hm hRXa hGXa hGYa hr0 htc hCIXa hna hoa hw hS hl; exfalso; omega
    | succ nn ih2 =>
      intro r Xa Ya H locs ls hm hRXa hGXa hGYa hr0 htc hCIXa hna hoa hw hS hl
      have hHYa : Frm [1501, 1700] Y Ya := Frm.tr Frm.rf (Frm.mono hGYa (by first | exact nls_of rfl | decide))
      have hFXa : Frm [4, 1600] X Xa := Frm.tr Frm.rf (Frm.mono hGXa (by first | exact nls_of rfl | decide))
      refine lv_iload_n hx hb dX8_addThings_2 rfl (lv_at hl 2 rfl) ?_
      refine lv_aload_n hx hb dX8_addThings_3 rfl (lv_at hl 1 rfl) ?_
      refine x_geti (jz := 0) hx hb hf4 hw (by omega) (by omega) sl_7_0 rfl lk231 dX8_addThings_4 ?_
      have e1 : Xa 7 g 0 = X 7 g 0 := by rw [hGXa 7 g 0 (show 701 ∉ [4, 1600] by first | exact nlm_ni rfl | decide)]
      rw [e1]
      have f2 : 0 ≤ X 7 g 0 ∧ X 7 g 0 ≤ 30 := hR 7 g 0
      refine x_icmp_ge (tgt := 49) hx hb (by omega) (by omega) dX8_addThings_7 (by decide) (fun c3 => ?_) (fun c3 => ?_)
      · rw [hQ9]
        refine ret_v (mc := 0) (ms := 0) hx hb hr hlocks hw hS (by first | exact Nat.le_of_ble_eq_true rfl | omega) (by first | exact Nat.le_of_ble_eq_true rfl | omega) dX8_addThings_49 ?_
        exact ⟨Xa, Ya, rfl, hRXa, hFXa, hHYa, hCIXa, by omega, by omega, (fun r9 a b => hna r9 a (by omega)), hoa⟩
      · refine lv_aload_n hx hb dX8_addThings_10 rfl (lv_at hl 0 rfl) ?_
        refine x_geto hx hb hf8 hw (by first | exact Int.le_refl 0 | omega) (by first | exact zlt hc0 | omega) sl_0_2 lk17 dX8_addThings_11 ?_
        refine lv_aload_n hx hb dX8_addThings_14 rfl (lv_at hl 0 rfl) ?_
        refine x_geti (jz := 3) hx hb hf8 hw (by first | exact Int.le_refl 0 | omega) (by first | exact zlt hc0 | omega) sl_0_3 rfl lk94 dX8_addThings_15 ?_
        have f4 : 0 ≤ Xa 0 0 3 ∧ Xa 0 0 3 ≤ 30 := hRXa 0 0 3
        refine x_aald hx hb hK.1 hw (by first | exact Int.le_refl 0 | omega) (by first | exact zlt hc2 | omega) ar_2 rfl (len_E ar_2 (by first | exact Nat.ne_of_beq_eq_false rfl | decide)) (by omega) (by omega) (by omega) dX8_addThings_18 (fun y5 => ?_) (fun r6 y5 gr6 lr6 => ?_)
        · exfalso
          have e7 : ∀ p9 q9 : Int, Ya 2 p9 q9 = Y 2 p9 q9 := fun p9 q9 => by rw [hGYa 2 p9 q9 (show 200 ∉ [1501, 1700] by first | exact nlm_ni rfl | decide)]
          rw [e7] at y5
          have h9 := hCI.1 (Xa 0 0 3) (by omega) (by omega); rw [h9] at y5; cases y5
        · have e8 : ∀ p9 q9 : Int, Ya 2 p9 q9 = Y 2 p9 q9 := fun p9 q9 => by rw [hGYa 2 p9 q9 (show 200 ∉ [1501, 1700] by first | exact nlm_ni rfl | decide)]
          rw [e8] at y5
          have er6 : r6 = (Xa 0 0 3) := by have h9 := hCI.1 (Xa 0 0 3) (by omega) (by omega); rw [h9] at y5; cases y5; rfl
          rw [er6]
          refine lv_aload_n hx hb dX8_addThings_19 rfl (lv_at hl 0 rfl) ?_
          refine x_geto hx hb hf8 hw (by first | exact Int.le_refl 0 | omega) (by first | exact zlt hc0 | omega) sl_0_0 lk11 dX8_addThings_20 ?_
          refine lv_aload_n hx hb dX8_addThings_23 rfl (lv_at hl 1 rfl) ?_
          refine x_geto hx hb hf4 hw (by omega) (by omega) sl_7_1 lk336 dX8_addThings_24 ?_
          refine lv_iload_n hx hb dX8_addThings_27 rfl (lv_at hl 2 rfl) ?_
          have h89 := hCI.2.2.2.2.2.2.1 g r (by omega) (by omega) (by omega) (by omega)
          refine x_iald hx hb hK.1 hw (by omega) (by omega) ar_8 (len_E ar_8 (by first | exact Nat.ne_of_beq_eq_false rfl | decide)) (by omega) (by omega) (by omega) dX8_addThings_28 ?_
          have e9 : ∀ p9 q9 : Int, Xa 8 p9 q9 = X 8 p9 q9 := fun p9 q9 => by rw [hGXa 8 p9 q9 (show 800 ∉ [4, 1600] by first | exact nlm_ni rfl | decide)]
          rw [e9 g r]
          have f10 : 0 ≤ X 8 g r ∧ X 8 g r ≤ 7 := hR 8 g r
          refine x_aald hx hb hK.1 hw (by first | exact Int.le_refl 0 | omega) (by first | exact zlt hc1 | omega) ar_1 rfl (len_E ar_1 (by first | exact Nat.ne_of_beq_eq_false rfl | decide)) (by omega) (by omega) (by omega) dX8_addThings_29 (fun y11 => ?_) (fun r12 y11 gr12 lr12 => ?_)
          · exfalso
            have e13 : ∀ p9 q9 : Int, Ya 1 p9 q9 = Y 1 p9 q9 := fun p9 q9 => by rw [hGYa 1 p9 q9 (show 100 ∉ [1501, 1700] by first | exact nlm_ni rfl | decide)]
            rw [e13] at y11
            have h9 := (hCI.2.2.2.1.2 (X 8 g r) (by omega) (by omega)).1; rw [h9] at y11; cases y11
          · have e14 : ∀ p9 q9 : Int, Ya 1 p9 q9 = Y 1 p9 q9 := fun p9 q9 => by rw [hGYa 1 p9 q9 (show 100 ∉ [1501, 1700] by first | exact nlm_ni rfl | decide)]
            rw [e14] at y11
            have er12 : r12 = (X 8 g r) := by have h9 := (hCI.2.2.2.1.2 (X 8 g r) (by omega) (by omega)).1; rw [h9] at y11; cases y11; rfl
            rw [er12]
            refine gos_v (run_V (As := [.ref (ad 19 (X 8 g r))]) (rest := []) hx hb hml hown hts (c_X6_become l D tc base ad cnt Xa Ya ln hRXa hFx hLn hCIXa (Xa 0 0 3) (X 8 g r) (by omega) (by omega)) (cwV 1 hts gX8_addThings_X6_become rfl rfl rfl (by first | exact hd_X6_become | decide +kernel) ⟨Nat.le_of_ble_eq_true rfl, Nat.le_of_ble_eq_true rfl⟩) hK hw (by first | exact Int.le_refl 0 | omega) (by first | exact zlt hc15 | omega) sl_15_0 rfl rfl hl.1 rfl (Nat.le_of_ble_eq_true rfl) dX8_addThings_30 ⟨Nat.le_of_ble_eq_true rfl, Nat.le_of_ble_eq_true rfl⟩) hS (fun u16 H locs p17 hw hS => ?_)
            obtain ⟨X18, Y19, eu16, hRX18, hG20, hJ21, hCIX18, p17, hytX18, hyoX18, hbnX18, hboX18⟩ := p17
            subst eu16
            have hFX18 : Frm [4, 1600] X X18 := Frm.tr hFXa (Frm.mono hG20 (by first | exact nls_of rfl | decide))
            have hHY19 : Frm [1501, 1700] Y Y19 := Frm.tr hHYa (Frm.mono hJ21 (by first | exact nls_of rfl | decide))
            refine lv_aload_n hx hb dX8_addThings_33 rfl (lv_at hl 0 rfl) ?_
            refine lv_dup hx hb dX8_addThings_34 rfl ?_
            refine x_geti (jz := 3) hx hb hf8 hw (by first | exact Int.le_refl 0 | omega) (by first | exact zlt hc0 | omega) sl_0_3 rfl lk94 dX8_addThings_35 ?_
            have e22 : X18 0 0 3 = Xa 0 0 3 := by rw [hG20 0 0 3 (show 4 ∉ [1600] by first | exact nlm_ni rfl | decide)]
            rw [e22]
            have f23 : 0 ≤ Xa 0 0 3 ∧ Xa 0 0 3 ≤ 30 := hRXa 0 0 3
            refine lv_iconst (v := jI 1) hx hb dX8_addThings_38 rfl ?_
            refine x_iadd hx hb dX8_addThings_39 ?_
            refine x_puti (jz := 3) hx hb hf8 ⟨tyX8_ok, nmX8⟩ hw hS (by first | exact Int.le_refl 0 | omega) (by first | exact zlt hc0 | omega) sl_0_3 rfl lk94 rfl (tyX8_ok 3 (by decide)) rfl rfl dX8_addThings_40 (fun H locs hw hS => ?_)
            obtain ⟨X24, hX24⟩ : ∃ Xq, Xq = u3 X18 0 0 3 ((Xa 0 0 3) + 1) := ⟨_, rfl⟩
            rw [← hX24] at hw
            have hRX24 : Rng X24 := by rw [hX24]; exact rng_set hRX18 (show 0 ≤ ((Xa 0 0 3) + 1) ∧ ((Xa 0 0 3) + 1) ≤ 30 by omega)
            have hVX24 : X24 0 0 3 = ((Xa 0 0 3) + 1) := by rw [hX24]; exact u3_s _ _ _ _ _
            have hFX24 : Frm [4, 1600] X X24 := by rw [hX24]; exact Frm.set hFX18 (show 4 ∈ [4, 1600] by first | exact nlm_in rfl | decide)
            refine lv_iinc (v := jI (r + 1)) (lv' := [(2, .int (jI (r + 1))), (0, .ref (ad 0 0)), (1, .ref (ad 7 g))]) hx hb dX8_addThings_43 hl (k := 2) rfl (jI_add _ _) (by decide) rfl (fun ls hl => ?_)
            refine lv_goto (tgt := 2) hx hb dX8_addThings_46 (by decide) ?_
            have q25 : Frm [4, 1600] X Xa := Frm.tr Frm.rf (Frm.mono hGXa (by first | exact nls_of rfl | decide))
            have q26 : Frm [4, 1600] X X18 := Frm.tr q25 (Frm.mono hG20 (by first | exact nls_of rfl | decide))
            have q28 : Frm [1501, 1700] Y Ya := Frm.tr Frm.rf (Frm.mono hGYa (by first | exact nls_of rfl | decide))
            have q29 : Frm [1501, 1700] Y Y19 := Frm.tr q28 (Frm.mono hJ21 (by first | exact nls_of rfl | decide))
            have q31 : Frm [4] X18 X24 := by rw [hX24]; exact Frm.set Frm.rf (show 4 ∈ [4] by first | exact nlm_in rfl | decide)
            exact ih2 (r + 1) X24 Y19 _ _ _ (by omega) hRX24 hFX24 q29 (by omega) (by rw [hVX24]; omega) ((cinv_things hCIX18 q31 (fun x9 a b c => by rw [hVX24] at b; rw [e22] at c; rw [show x9 = Xa 0 0 3 by omega, hytX18]; exact fun q => by cases q))) (fun r9 a b => (by by_cases hr9 : r9 = r; rw [hr9, show X 0 0 3 + r = Xa 0 0 3 by omega]; exact ⟨hytX18, fun j j0 j1 => (by rw [show X24 16 (Xa 0 0 3) j = X18 16 (Xa 0 0 3) j from (by rw [hX24, u3_k _ _ _ _ (by first | exact Nat.ne_of_beq_eq_false rfl | decide)])]; have h9 := hbnX18 j j0 (by rw [show Xa 19 (X 8 g r) 1 = X 19 (X 8 g r) 1 from (by rw [hGXa 19 (X 8 g r) 1 (show 1902 ∉ [4, 1600] by first | exact nlm_ni rfl | decide)])]; exact j1); rw [show Xa 22 (X 8 g r) j = X 22 (X 8 g r) j from (by rw [hGXa 22 (X 8 g r) j (show 2200 ∉ [4, 1600] by first | exact nlm_ni rfl | decide)])] at h9; exact h9)⟩; have hy9 : X 0 0 3 + r9 ≠ Xa 0 0 3 := (by omega); rw [hyoX18 _ hy9]; refine ⟨(hna r9 a (by omega)).1, fun j j0 j1 => ?_⟩; rw [show X24 16 (X 0 0 3 + r9) j = X18 16 (X 0 0 3 + r9) j from (by rw [hX24, u3_k _ _ _ _ (by first | exact Nat.ne_of_beq_eq_false rfl | decide)]), (hboX18 _ j hy9).1, (hboX18 _ j hy9).2]; exact (hna r9 a (by omega)).2 j j0 j1)) (fun y hy => (by have hy9 : y ≠ Xa 0 0 3 := (by omega); rw [hyoX18 _ hy9]; refine ⟨(hoa y hy).1, fun j => ?_⟩; rw [show X24 16 y j = X18 16 y j from (by rw [hX24, u3_k _ _ _ _ (by first | exact Nat.ne_of_beq_eq_false rfl | decide)]), (hboX18 _ j hy9).1, (hboX18 _ j hy9).2]; exact (hoa y hy).2 j)) hw hS (lv_sub hl [1, 2, 0] rfl)
  exact lp2 (30 - 0 : Int).toNat.succ 0 X Y _ _ _ (by omega) hR Frm.rf Frm.rf (by omega) (by omega) (hCI) (fun r9 a b => by omega) (fun y _ => ⟨rfl, fun j => ⟨rfl, rfl⟩⟩) hw hS (lv_sub hl [1, 2, 0] rfl)

set_option maxHeartbeats 4000000 in
set_option maxRecDepth 100000 in
theorem c_X8_fillField (l : Launch) (D : va_G) (tc : Nat → ClassId) (base : Nat) (ad : Nat → Int → Nat) (cnt : Nat → Int) (X : Nat → Int → Int → Int) (Y : Nat → Int → Int → Option Int) (ln : Int → Int) (hR : Rng X) (hFx : Fx cnt) (hLn : LnOK ln) (hCI : CInv cnt X Y ln) (hOw : Own cnt) (hN : 0 ≤ cnt 25 ∧ 0 ≤ cnt 26) (x g slot f rule : Int) (hx0 : 0 ≤ x ∧ x ≤ 29) (hxt : x < X 0 0 3) (hg : 0 ≤ g ∧ g < 6) (hsl : 0 ≤ slot ∧ slot ≤ 149) (hf : 0 ≤ f ∧ f ≤ 30) (hrule : -2147483648 ≤ rule ∧ rule ≤ 2147483647) (hv : 2 ≤ X 11 g slot → -1 ≤ X 12 g slot ∧ X 12 g slot ≤ 149) : KI l D tc base yX8_fillField wsX8_fillField ({ frames := 4, cells := 2, slots := 14, locals := 80 } : Room) [.ref (ad 0 0), .ref (ad 15 x), .ref (ad 7 g), .int (jI slot), .int (jI f), .int (jI rule)] (ad, cnt, X, Y, ln) 2 14 (fun z u => ∃ (ad1 : Nat → Int → Nat) (cnt1 : Nat → Int) (X1 : Nat → Int → Int → Int) (Y1 : Nat → Int → Int → Option Int) (ln1 : Int → Int), u = (ad1, cnt1, X1, Y1, ln1) ∧ Ext ad cnt ln ad1 cnt1 ln1 ∧ Fx cnt1 ∧ Own cnt1 ∧ LnOK ln1 ∧ Rng X1 ∧ Frm [1600, 2602, 2700] X X1 ∧ Frm [1700, 600] Y Y1 ∧ CInv cnt1 X1 Y1 ln1 ∧ (0 ≤ z ∧ z ≤ 10) ∧ z = fvC X Y x g slot rule ∧ (z ≠ 0 → cnt1 26 = cnt 26 ∧ X1 = X ∧ Y1 = Y ∧ ln1 = ln) ∧ (z = 0 → fStC g x slot f (cnt 26) X Y ln (cnt1 26) X1 Y1 ln1)) := by
  refine K_of (cc := cX8_fillField) (maxL := 10) (ret := (some .int)) (by decide) rfl (Nat.le_of_ble_eq_true rfl) ?_
  intro p e s m below meth c ls hx hb hr hml hown hts hlocks hl hK hw hS
  have hown : s.vm.findClass RX8 = some m.cls := hown
  have hbs : base ≤ s.heap.size := wd_size hw
  obtain ⟨av9, hav9⟩ : ∃ a9 : Array Value, a9 = ([.ref (ad 0 0), .ref (ad 15 x), .ref (ad 7 g), .int (jI slot), .int (jI f), .int (jI rule)] : List Value).toArray := ⟨_, rfl⟩
  rw [← hav9] at hts ⊢
  obtain ⟨Q9, hQ9⟩ : ∃ q9Q : State → Prop, q9Q = MQ below (QI D tc base (fun z u => ∃ (ad1 : Nat → Int → Nat) (cnt1 : Nat → Int) (X1 : Nat → Int → Int → Int) (Y1 : Nat → Int → Int → Option Int) (ln1 : Int → Int), u = (ad1, cnt1, X1, Y1, ln1) ∧ Ext ad cnt ln ad1 cnt1 ln1 ∧ Fx cnt1 ∧ Own cnt1 ∧ LnOK ln1 ∧ Rng X1 ∧ Frm [1600, 2602, 2700] X X1 ∧ Frm [1700, 600] Y Y1 ∧ CInv cnt1 X1 Y1 ln1 ∧ (0 ≤ z ∧ z ≤ 10) ∧ z = fvC X Y x g slot rule ∧ (z ≠ 0 → cnt1 26 = cnt 26 ∧ X1 = X ∧ Y1 = Y ∧ ln1 = ln) ∧ (z = 0 → fStC g x slot f (cnt 26) X Y ln (cnt1 26) X1 Y1 ln1))) av9 s 2 14 (frA base) := ⟨_, rfl⟩
  rw [← hQ9]
  obtain ⟨ad0, ha0⟩ : ∃ a, a = ad := ⟨_, rfl⟩
  obtain ⟨cnt0, hc0⟩ : ∃ a, a = cnt := ⟨_, rfl⟩
  obtain ⟨ln0, hl0⟩ : ∃ a, a = ln := ⟨_, rfl⟩
  have hE9 : ∀ a c n, Ext ad0 cnt0 ln0 a c n → Ext ad cnt ln a c n := by rw [ha0, hc0, hl0]; exact fun _ _ _ h => h
  have hE : Ext ad0 cnt0 ln0 ad cnt ln := by rw [ha0, hc0, hl0]; exact Ext.rf
  clear ha0 hc0 hl0
  have hi4 : ∀ w ∈ wsX40, w ∈ wsX8_fillField := fun w h => List.mem_cons_of_mem _ (List.mem_append_left _ (List.mem_append_left _ (List.mem_append_left _ (List.mem_append_right _ h))))
  have hf4 : fctx s m _ RX8 wsX8_fillField D tc RX4 TX4 9 4 := ⟨hts, hi4, hown, hK.1, rfl⟩
  have hi6 : ∀ w ∈ wsX60, w ∈ wsX8_fillField := fun w h => List.mem_cons_of_mem _ (List.mem_append_left _ (List.mem_append_left _ (List.mem_append_left _ (List.mem_append_left _ (List.mem_append_right _ h)))))
  have hf6 : fctx s m _ RX8 wsX8_fillField D tc RX6 TX6 4 6 := ⟨hts, hi6, hown, hK.1, rfl⟩
  have hi7 : ∀ w ∈ wsX70, w ∈ wsX8_fillField := fun w h => List.mem_cons_of_mem _ (List.mem_append_left _ (List.mem_append_left _ (List.mem_append_right _ h)))
  have hf7 : fctx s m _ RX8 wsX8_fillField D tc RX7 TX7 8 7 := ⟨hts, hi7, hown, hK.1, rfl⟩
  have lk97 := hts (.fieldLink RX8 97 (TX6 0).1 (TX6 0).2.1 (TX6 0).2.2.1) (gj_X8_fillField_0 _ (gp_h))
  have lk135 := hts (.fieldLink RX8 135 (TX7 3).1 (TX7 3).2.1 (TX7 3).2.2.1) (gj_X8_fillField_0 _ (gp_1 (gp_1 gp_h)))
  have lk158 := hts (.fieldLink RX8 158 (TX6 2).1 (TX6 2).2.1 (TX6 2).2.2.1) (gj_X8_fillField_0 _ (gp_4 (gp_1 (gp_1 gp_h))))
  have lk193 := hts (.fieldLink RX8 193 (TX6 1).1 (TX6 1).2.1 (TX6 1).2.2.1) (gj_X8_fillField_0 _ (gp_4 (gp_1 (gp_1 (gp_1 gp_h)))))
  have lk224 := hts (.fieldLink RX8 224 (TX4 3).1 (TX4 3).2.1 (TX4 3).2.2.1) (gj_X8_fillField_0 _ (gp_1 gp_h))
  have lk341 := hts (.fieldLink RX8 341 (TX4 4).1 (TX4 4).2.1 (TX4 4).2.2.1) (gj_X8_fillField_0 _ (gp_1 (gp_1 (gp_1 gp_h))))
  have lk342 := hts (.fieldLink RX8 342 (TX4 5).1 (TX4 5).2.1 (TX4 5).2.2.1) (gj_X8_fillField_0 _ (gp_4 gp_h))
  have hc0 : cnt 0 = 1 := hFx.at 0 1 (by decide)
  have hc6 : cnt 6 = 1 := hFx.at 6 1 (by decide)
  have hc7 : cnt 7 = 6 := hFx.at 7 6 (by decide)
  have hc10 : cnt 10 = 6 := hFx.at 10 6 (by decide)
  have hc11 : cnt 11 = 6 := hFx.at 11 6 (by decide)
  have hc12 : cnt 12 = 6 := hFx.at 12 6 (by decide)
  have hc15 : cnt 15 = 30 := hFx.at 15 30 (by decide)
  have hc16 : cnt 16 = 30 := hFx.at 16 30 (by decide)
  have hc17 : cnt 17 = 30 := hFx.at 17 30 (by decide)
  have hc21 : cnt 21 = cnt 19 := hFx.2.1 21 (by decide)
  have hc27 : cnt 27 = cnt 26 := hFx.2.2
  have hl : lv_has ls 10 [(0, .ref (ad 0 0)), (1, .ref (ad 15 x)), (2, .ref (ad 7 g)), (3, .int (jI slot)), (4, .int (jI f)), (5, .int (jI rule))] := hl
  have ftc : 0 ≤ X 0 0 3 ∧ X 0 0 3 ≤ 30 := hR 0 0 3
  have fty : 0 ≤ X 0 0 1 ∧ X 0 0 1 ≤ 8 := hR 0 0 1
  have hct : cnt 19 = X 0 0 1 := hCI.2.2.2.1.1
  have hfj : 0 ≤ X 29 0 3 ∧ X 29 0 3 ≤ 4 := hR 29 0 3
  have hfn : 0 ≤ X 29 0 1 ∧ X 29 0 1 ≤ 80 := hR 29 0 1
  refine lv_aload_n hx hb dX8_fillField_0 rfl (lv_at hl 1 rfl) ?_
  refine x_getr (jz := 0) hx hb hf6 hw (by omega) (by omega) sl_15_0 rfl lk97 dX8_fillField_1 (fun y1 => ?_) (fun r2 y1 gr2 lr2 => ?_)
  · exfalso
    exact absurd y1 (hCI.2.2.2.2.1 x (by omega) (by omega))
  · refine lv_aload_n hx hb dX8_fillField_4 rfl (lv_at hl 2 rfl) ?_
    refine x_geto hx hb hf4 hw (by omega) (by omega) sl_7_3 lk224 dX8_fillField_5 ?_
    refine lv_iload_n hx hb dX8_fillField_8 rfl (lv_at hl 3 rfl) ?_
    refine x_iald hx hb hK.1 hw (by omega) (by omega) ar_10 (len_E ar_10 (by first | exact Nat.ne_of_beq_eq_false rfl | decide)) (by omega) (by omega) (by omega) dX8_fillField_9 ?_
    have f3 : 0 ≤ X 10 g slot ∧ X 10 g slot ≤ 19 := hR 10 g slot
    refine gos_i (run_V (As := [.int (jI (X 10 g slot))]) (rest := []) hx hb hml hown hts (c_X7_fieldNamed l D tc base ad cnt X Y ln hR hFx hLn r2 (X 10 g slot) (by omega) (by omega)) (cwV 1 hts gX8_fillField_X7_fieldNamed rfl rfl rfl (by first | exact hd_X7_fieldNamed | decide +kernel) ⟨Nat.le_of_ble_eq_true rfl, Nat.le_of_ble_eq_true rfl⟩) hK hw (by first | exact Int.le_refl 0 | omega) (by first | exact zlt hc19 | omega) sl_19_0 rfl rfl hl.1 rfl (Nat.le_of_ble_eq_true rfl) dX8_fillField_10 ⟨(by show _ ≤ (2 : Nat); omega), (by show _ ≤ (14 : Nat); omega)⟩) hS (fun z4 u5 H locs p6 hw hS => ?_)
    obtain ⟨eu5, p6⟩ := p6
    subst eu5
    refine lv_istore (lv' := [(6, .int (jI z4)), (0, .ref (ad 0 0)), (1, .ref (ad 15 x)), (2, .ref (ad 7 g)), (3, .int (jI slot)), (4, .int (jI f)), (5, .int (jI rule))]) hx hb dX8_fillField_13 hl (by decide) rfl (fun ls hl => ?_)
    refine lv_iload hx hb dX8_fillField_15 (lv_at hl 0 rfl) ?_
    refine lv_iconst (v := jI (-1)) hx hb dX8_fillField_17 rfl ?_
    refine x_icmp_ne (tgt := 35) hx hb (by omega) (by omega) dX8_fillField_18 (by decide) (fun c7 => ?_) (fun c7 => ?_)
    · refine lv_aload_n hx hb dX8_fillField_35 rfl (lv_at hl 2 rfl) ?_
      refine x_getr (jz := 0) hx hb hf6 hw (by omega) (by omega) sl_15_0 rfl lk97 dX8_fillField_36 (fun y8 => ?_) (fun r9 y8 gr9 lr9 => ?_)
      · exfalso
        rw [y1] at y8; cases y8
      · have er9 : r9 = r2 := by rw [y1] at y8; cases y8; rfl
        rw [er9]
        refine x_geto hx hb hf7 hw (by omega) (by omega) sl_19_3 lk135 dX8_fillField_39 ?_
        refine lv_iload hx hb dX8_fillField_42 (lv_at hl 0 rfl) ?_
        refine x_iald hx hb hK.1 hw (by omega) (by omega) ar_21 (len_E ar_21 (by first | exact Nat.ne_of_beq_eq_false rfl | decide)) (by omega) (by omega) (by omega) dX8_fillField_44 ?_
        have f10 : 0 ≤ X 21 r2 z4 ∧ X 21 r2 z4 ≤ 5 := hR 21 r2 z4
        refine lv_istore (lv' := [(7, .int (jI (X 21 r2 z4))), (6, .int (jI z4)), (0, .ref (ad 0 0)), (1, .ref (ad 15 x)), (2, .ref (ad 7 g)), (3, .int (jI slot)), (4, .int (jI f)), (5, .int (jI rule))]) hx hb dX8_fillField_45 hl (by decide) rfl (fun ls hl => ?_)
        refine lv_aload_n hx hb dX8_fillField_47 rfl (lv_at hl 4 rfl) ?_
        refine x_geto hx hb hf4 hw (by omega) (by omega) sl_7_4 lk341 dX8_fillField_48 ?_
        refine lv_iload_n hx hb dX8_fillField_51 rfl (lv_at hl 5 rfl) ?_
        refine x_iald hx hb hK.1 hw (by omega) (by omega) ar_11 (len_E ar_11 (by first | exact Nat.ne_of_beq_eq_false rfl | decide)) (by omega) (by omega) (by omega) dX8_fillField_52 ?_
        have f11 : 0 ≤ X 11 g slot ∧ X 11 g slot ≤ 5 := hR 11 g slot
        refine lv_iload hx hb dX8_fillField_53 (lv_at hl 0 rfl) ?_
        refine gos_i (run_S (As := [.int (jI (X 11 g slot)), .int (jI (X 21 r2 z4))]) (rest := []) hx hb hml hown hts (c_X8_mayCome2 l D tc base ad cnt X Y ln (X 11 g slot) (X 21 r2 z4) (by omega) (by omega)) (cwS 2 hts gX8_fillField_X8_mayCome rfl rfl rfl (by first | exact hd_X8_mayCome | decide +kernel) ⟨Nat.le_of_ble_eq_true rfl, Nat.le_of_ble_eq_true rfl⟩) hK hw rfl hl.1 rfl (Nat.le_of_ble_eq_true rfl) dX8_fillField_55 ⟨(by show _ ≤ (2 : Nat); omega), (by show _ ≤ (14 : Nat); omega)⟩) hS (fun z12 u13 H locs p14 hw hS => ?_)
        obtain ⟨eu13, p14⟩ := p14
        subst eu13
        rcases p14 with ⟨ez12, p14⟩ | ⟨ez12, p14⟩
        · subst ez12
          refine x_if_neT (tgt := 64) hx hb (by omega) (by decide) dX8_fillField_58 (by decide) ?_
          refine lv_aload_n hx hb dX8_fillField_64 rfl (lv_at hl 4 rfl) ?_
          refine x_geto hx hb hf4 hw (by omega) (by omega) sl_7_5 lk342 dX8_fillField_65 ?_
          refine lv_iload_n hx hb dX8_fillField_68 rfl (lv_at hl 5 rfl) ?_
          refine x_lald hx hb hK.1 hw (by omega) (by omega) ar_12 (len_E ar_12 (by first | exact Nat.ne_of_beq_eq_false rfl | decide)) (by omega) (by omega) (by omega) dX8_fillField_69 ?_
          have f15 : (-9223372036854775808) ≤ X 12 g slot ∧ X 12 g slot ≤ 9223372036854775807 := hR 12 g slot
          refine lv_lstore (lv' := [(8, .long (jL (X 12 g slot))), (7, .int (jI (X 21 r2 z4))), (6, .int (jI z4)), (0, .ref (ad 0 0)), (1, .ref (ad 15 x)), (2, .ref (ad 7 g)), (3, .int (jI slot)), (4, .int (jI f)), (5, .int (jI rule))]) hx hb dX8_fillField_70 hl (by decide) rfl (fun ls hl => ?_)
          refine lv_iload hx hb dX8_fillField_72 (lv_at hl 1 rfl) ?_
          refine lv_iconst (v := jI 1) hx hb dX8_fillField_74 rfl ?_
          refine x_icmp_ne (tgt := 111) hx hb (by omega) (by omega) dX8_fillField_75 (by decide) (fun c16 => ?_) (fun c16 => ?_)
          · refine lv_iload hx hb dX8_fillField_111 (lv_at hl 1 rfl) ?_
            refine gos_i (run_S (As := [.int (jI (X 21 r2 z4))]) (rest := []) hx hb hml hown hts (c_X8_isRowLane l D tc base ad cnt X Y ln (X 21 r2 z4) (by omega)) (cwS 1 hts gX8_fillField_X8_isRowLane rfl rfl rfl (by first | exact hd_X8_isRowLane | decide +kernel) ⟨Nat.le_of_ble_eq_true rfl, Nat.le_of_ble_eq_true rfl⟩) hK hw rfl hl.1 rfl (Nat.le_of_ble_eq_true rfl) dX8_fillField_113 ⟨(by show _ ≤ (2 : Nat); omega), (by show _ ≤ (14 : Nat); omega)⟩) hS (fun z17 u18 H locs p19 hw hS => ?_)
            obtain ⟨eu18, p19⟩ := p19
            subst eu18
            rcases p19 with ⟨ez17, p19⟩ | ⟨ez17, p19⟩
            · subst ez17
              refine x_if_eqF (tgt := 152) hx hb (by omega) (by decide) dX8_fillField_116 (by decide) ?_
              refine lv_aload_n hx hb dX8_fillField_119 rfl (lv_at hl 4 rfl) ?_
              refine x_geto hx hb hf6 hw (by omega) (by omega) sl_15_2 lk158 dX8_fillField_120 ?_
              refine lv_iload hx hb dX8_fillField_123 (lv_at hl 2 rfl) ?_
              refine lv_lload hx hb dX8_fillField_125 (lv_at hl 0 rfl) ?_
              refine lv_ldc2 (v := jL (-1)) hx hb hown (hts (.constantLong RX8 88 (-1)) (by first | exact gj_X8_fillField_0 _ (gp_4 (gp_1 gp_h)) | decide +kernel)) dX8_fillField_127 ?_
              refine x_lcmp hx hb (by omega) (by omega) dX8_fillField_130 ?_
              obtain ⟨z20, ez20⟩ : ∃ y : Int, y = cmpZ (X 12 g slot) (-1) := ⟨_, rfl⟩
              rw [← ez20]
              have gz20 : (z20 < 0 ↔ ((X 12 g slot) : Int) < (-1)) ∧ (z20 = 0 ↔ ((X 12 g slot) : Int) = (-1)) ∧ -1 ≤ z20 ∧ z20 ≤ 1 := by rw [ez20]; exact ⟨cmpZ_lt, cmpZ_eq, (cmpZ_r _ _).1, (cmpZ_r _ _).2⟩
              clear ez20
              refine x_if_ne (tgt := 138) hx hb (by omega) dX8_fillField_131 (by decide) (fun c21 => ?_) (fun c21 => ?_)
              · replace c21 := cz_neT gz20 c21
                clear gz20
                have hv9 := hv (by omega)
                refine lv_aload_n hx hb dX8_fillField_138 rfl (lv_at hl 3 rfl) ?_
                refine lv_aload_n hx hb dX8_fillField_139 rfl (lv_at hl 5 rfl) ?_
                refine lv_lload hx hb dX8_fillField_140 (lv_at hl 0 rfl) ?_
                refine x_l2i hx hb dX8_fillField_142 ?_
                refine lv_iload hx hb dX8_fillField_143 (lv_at hl 1 rfl) ?_
                refine gos_r (run_V (As := [.ref (ad 7 g), .int (jI (X 12 g slot)), .int (jI (X 21 r2 z4))]) (rest := [.int (jI z4), .ref (ad 17 x)]) hx hb hml hown hts (c_X8_rowPutBack l D tc base ad cnt X Y ln hR hFx hLn hCI hOw hN g (X 12 g slot) (X 21 r2 z4) (by omega) (by omega) (by omega)) (cwV 3 hts gX8_fillField_X8_rowPutBack rfl rfl rfl (by first | exact hd_X8_rowPutBack | decide +kernel) ⟨Nat.le_of_ble_eq_true rfl, Nat.le_of_ble_eq_true rfl⟩) hK hw (by first | exact Int.le_refl 0 | omega) (by first | exact zlt hc0 | omega) sl_0_0 rfl rfl hl.1 rfl (Nat.le_of_ble_eq_true rfl) dX8_fillField_145 ⟨(by show _ ≤ (2 : Nat); omega), (by show _ ≤ (14 : Nat); omega)⟩) hS (fun u23 H locs p24 hw hS => ?_) (fun z22 u23 H locs p24 hw hS => ?_)
                · obtain ⟨ad, cnt, X25, Y26, ln, eu23, hE27, hFx, hOw, hLn, hRX25, hG28, hJ29, hCIX25, p24, hrpX25⟩ := p24
                  subst eu23
                  obtain ⟨r9, e9, -⟩ := p24
                  cases e9
                · obtain ⟨ad, cnt, X30, Y31, ln, eu23, hE32, hFx, hOw, hLn, hRX30, hG33, hJ34, hCIX30, p24, hrpX30⟩ := p24
                  subst eu23
                  have hFX30 : Frm [1600, 2602, 2700] X X30 := Frm.tr Frm.rf (Frm.mono hG33 (by first | exact nls_of rfl | decide))
                  have hHY31 : Frm [1700, 600] Y Y31 := Frm.tr Frm.rf (Frm.mono hJ34 (by first | exact nls_of rfl | decide))
                  have hz22 : 0 ≤ z22 ∧ z22 < cnt 26 := by obtain ⟨r9, e9, h1, h2⟩ := p24; cases e9; exact ⟨h1, h2⟩
                  have hE := Ext.tr hE hE32
                  have hm35 := hE32.2.1 19
                  have hm36 := hE32.2.1 25
                  have hm37 := hE32.2.1 26
                  have hN : 0 ≤ cnt 25 ∧ 0 ≤ cnt 26 := by omega
                  have ha38 := hE32.1 0 0 (by omega) (by omega)
                  have ha39 := hE32.1 15 x (by omega) (by omega)
                  have ha40 := hE32.1 7 g (by omega) (by omega)
                  have ha41 := hE32.1 17 x (by omega) (by omega)
                  have hc0 : cnt 0 = 1 := hFx.at 0 1 (by decide)
                  have hc6 : cnt 6 = 1 := hFx.at 6 1 (by decide)
                  have hc7 : cnt 7 = 6 := hFx.at 7 6 (by decide)
                  have hc10 : cnt 10 = 6 := hFx.at 10 6 (by decide)
                  have hc11 : cnt 11 = 6 := hFx.at 11 6 (by decide)
                  have hc12 : cnt 12 = 6 := hFx.at 12 6 (by decide)
                  have hc15 : cnt 15 = 30 := hFx.at 15 30 (by decide)
                  have hc16 : cnt 16 = 30 := hFx.at 16 30 (by decide)
                  have hc17 : cnt 17 = 30 := hFx.at 17 30 (by decide)
                  have hc21 : cnt 21 = cnt 19 := hFx.2.1 21 (by decide)
                  have hc27 : cnt 27 = cnt 26 := hFx.2.2
                  have hl : lv_has ls 10 [(8, .long (jL (X 12 g slot))), (7, .int (jI (X 21 r2 z4))), (6, .int (jI z4)), (0, .ref (ad 0 0)), (1, .ref (ad 15 x)), (2, .ref (ad 7 g)), (3, .int (jI slot)), (4, .int (jI f)), (5, .int (jI rule))] := by rw [ha38, ha39, ha40]; exact hl
                  refine W.eq (g2 := F0 m 148 ls [.ref (ad 26 z22), .int (jI z4), .ref (ad 17 x)]) (by first | rfl | (rw [ha41]; done) | (rw [ha41]; rfl)) ?_
                  refine x_aast hx hb hK.1 hw hS (by omega) (by omega) ar_17 rfl rfl sl_26_0 (len_E ar_17 (by first | exact Nat.ne_of_beq_eq_false rfl | decide)) (by omega) (by omega) (by omega) (by omega) (by omega) dX8_fillField_148 (fun H locs hw hS => ?_)
                  obtain ⟨Y42, hY42⟩ : ∃ Yq, Yq = u3 Y31 17 x z4 (some z22) := ⟨_, rfl⟩
                  rw [← hY42] at hw
                  have hVY42 : Y42 17 x z4 = (some z22) := by rw [hY42]; exact u3_s _ _ _ _ _
                  have hHY42 : Frm [1700, 600] Y Y42 := by rw [hY42]; exact Frm.set hHY31 (show 1700 ∈ [1700, 600] by first | exact nlm_in rfl | decide)
                  refine lv_goto (tgt := 192) hx hb dX8_fillField_149 (by decide) ?_
                  refine lv_iconst (v := jI 0) hx hb dX8_fillField_192 rfl ?_
                  rw [hQ9]
                  refine ret_i (mc := 2) (ms := 14) hx hb hr hlocks hw hS (by first | exact Nat.le_of_ble_eq_true rfl | omega) (by first | exact Nat.le_of_ble_eq_true rfl | omega) dX8_fillField_193 ?_
                  have q43 : Frm [1700] Y31 Y42 := by rw [hY42]; exact Frm.set Frm.rf (show 1700 ∈ [1700] by first | exact nlm_in rfl | decide)
                  have hCq44 : CInv cnt X30 Y42 ln := cinv_frm (M := []) (N := [1700]) hCIX30 Frm.rf q43 (by decide) (by decide)
                  have ht45o : toC X Y x g slot = z4 := by unfold toC; rw [tyo_some y1]; exact (p6.2.2.2).symm
                  have ht45l : tlC X Y x g slot = X 21 r2 z4 := by unfold tlC; rw [ht45o, tyo_some y1]
                  have htw46 : twC X Y x g slot = X 12 g slot := (by unfold twC bdC; rw [ht45l]; (try delta Hid at *); (repeat' split) <;> omega)
                  exact ⟨ad, cnt, X30, Y42, ln, rfl, hE9 _ _ _ hE, hFx, hOw, hLn, hRX30, hFX30, hHY42, hCq44, by omega, (by unfold fvC; rw [ht45o, ht45l]; exact (fvF_0 (by omega) (by (try delta Hid at *); omega) (by unfold bdC andZ; (try delta Hid at *); split <;> omega)).symm), fun q => (by exfalso; omega), fun _ => Or.inr (Or.inr (Or.inr ⟨(by rw [ht45o]; omega), (by rw [ht45l]; (try delta Hid at *); omega), (by rw [htw46]; omega), (by obtain ⟨q9, q8, q7⟩ := hrpX30; exact ⟨Y31, q9, (by first | (rw [htw46, ht45l]; exact q7) | (exfalso; (try delta Hid at *); omega)), (by rw [ht45o, ← q8]; exact hY42)⟩)⟩))⟩
              · replace c21 := cz_neF gz20 c21
                clear gz20
                refine lv_null hx hb dX8_fillField_134 ?_
                refine lv_goto (tgt := 148) hx hb dX8_fillField_135 (by decide) ?_
                refine x_aastn hx hb hK.1 hw hS (by omega) (by omega) ar_17 rfl (len_E ar_17 (by first | exact Nat.ne_of_beq_eq_false rfl | decide)) (by omega) (by omega) (by omega) dX8_fillField_148 (fun H locs hw hS => ?_)
                obtain ⟨Y47, hY47⟩ : ∃ Yq, Yq = u3 Y 17 x z4 none := ⟨_, rfl⟩
                rw [← hY47] at hw
                have hVY47 : Y47 17 x z4 = none := by rw [hY47]; exact u3_s _ _ _ _ _
                have hHY47 : Frm [1700, 600] Y Y47 := by rw [hY47]; exact Frm.set Frm.rf (show 1700 ∈ [1700, 600] by first | exact nlm_in rfl | decide)
                refine lv_goto (tgt := 192) hx hb dX8_fillField_149 (by decide) ?_
                refine lv_iconst (v := jI 0) hx hb dX8_fillField_192 rfl ?_
                rw [hQ9]
                refine ret_i (mc := 2) (ms := 14) hx hb hr hlocks hw hS (by first | exact Nat.le_of_ble_eq_true rfl | omega) (by first | exact Nat.le_of_ble_eq_true rfl | omega) dX8_fillField_193 ?_
                have q48 : Frm [1700] Y Y47 := by rw [hY47]; exact Frm.set Frm.rf (show 1700 ∈ [1700] by first | exact nlm_in rfl | decide)
                have hCq49 : CInv cnt X Y47 ln := cinv_frm (M := []) (N := [1700]) hCI Frm.rf q48 (by decide) (by decide)
                have ht50o : toC X Y x g slot = z4 := by unfold toC; rw [tyo_some y1]; exact (p6.2.2.2).symm
                have ht50l : tlC X Y x g slot = X 21 r2 z4 := by unfold tlC; rw [ht50o, tyo_some y1]
                have htw51 : twC X Y x g slot = -1 := (by unfold twC bdC; rw [ht50l]; (try delta Hid at *); (repeat' split) <;> omega)
                exact ⟨ad, cnt, X, Y47, ln, rfl, hE9 _ _ _ hE, hFx, hOw, hLn, hR, Frm.rf, hHY47, hCq49, by omega, (by unfold fvC; rw [ht50o, ht50l]; exact (fvF_0 (by omega) (by (try delta Hid at *); omega) (by unfold bdC andZ; (try delta Hid at *); split <;> omega)).symm), fun q => (by exfalso; omega), fun _ => Or.inr (Or.inr (Or.inl ⟨(by rw [ht50o]; omega), (by rw [ht50l]; (try delta Hid at *); omega), htw51, rfl, rfl, (by rw [ht50o]; exact hY47), rfl⟩))⟩
            · subst ez17
              refine x_if_eqT (tgt := 152) hx hb (by omega) (by decide) dX8_fillField_116 (by decide) ?_
              refine lv_iload hx hb dX8_fillField_152 (lv_at hl 1 rfl) ?_
              refine lv_iconst (v := jI 2) hx hb dX8_fillField_154 rfl ?_
              refine x_icmp_ne (tgt := 183) hx hb (by omega) (by omega) dX8_fillField_155 (by decide) (fun c52 => ?_) (fun c52 => ?_)
              · refine lv_aload_n hx hb dX8_fillField_183 rfl (lv_at hl 4 rfl) ?_
                refine x_geto hx hb hf6 hw (by omega) (by omega) sl_15_1 lk193 dX8_fillField_184 ?_
                refine lv_iload hx hb dX8_fillField_187 (lv_at hl 2 rfl) ?_
                refine lv_lload hx hb dX8_fillField_189 (lv_at hl 0 rfl) ?_
                refine x_last hx hb hK.1 hw hS (by omega) (by omega) ar_16 (len_E ar_16 (by first | exact Nat.ne_of_beq_eq_false rfl | decide)) (by omega) (by omega) (by omega) dX8_fillField_191 (fun H locs hw hS => ?_)
                obtain ⟨X53, hX53⟩ : ∃ Xq, Xq = u3 X 16 x z4 (X 12 g slot) := ⟨_, rfl⟩
                rw [← hX53] at hw
                have hRX53 : Rng X53 := by rw [hX53]; exact rng_set hR (show (-9223372036854775808) ≤ (X 12 g slot) ∧ (X 12 g slot) ≤ 9223372036854775807 by omega)
                have hVX53 : X53 16 x z4 = (X 12 g slot) := by rw [hX53]; exact u3_s _ _ _ _ _
                have hFX53 : Frm [1600, 2602, 2700] X X53 := by rw [hX53]; exact Frm.set Frm.rf (show 1600 ∈ [1600, 2602, 2700] by first | exact nlm_in rfl | decide)
                refine lv_iconst (v := jI 0) hx hb dX8_fillField_192 rfl ?_
                rw [hQ9]
                refine ret_i (mc := 2) (ms := 14) hx hb hr hlocks hw hS (by first | exact Nat.le_of_ble_eq_true rfl | omega) (by first | exact Nat.le_of_ble_eq_true rfl | omega) dX8_fillField_193 ?_
                have q54 : Frm [1600] X X53 := by rw [hX53]; exact Frm.set Frm.rf (show 1600 ∈ [1600] by first | exact nlm_in rfl | decide)
                have hCq55 : CInv cnt X53 Y ln := cinv_frm (M := [1600]) (N := []) hCI q54 Frm.rf (by decide) (by decide)
                have ht56o : toC X Y x g slot = z4 := by unfold toC; rw [tyo_some y1]; exact (p6.2.2.2).symm
                have ht56l : tlC X Y x g slot = X 21 r2 z4 := by unfold tlC; rw [ht56o, tyo_some y1]
                have htw57 : twC X Y x g slot = (X 12 g slot) := (by unfold twC bdC; rw [ht56l]; (try delta Hid at *); (repeat' split) <;> omega)
                exact ⟨ad, cnt, X53, Y, ln, rfl, hE9 _ _ _ hE, hFx, hOw, hLn, hRX53, hFX53, Frm.rf, hCq55, by omega, (by unfold fvC; rw [ht56o, ht56l]; exact (fvF_0 (by omega) (by (try delta Hid at *); omega) (by unfold bdC andZ; (try delta Hid at *); split <;> omega)).symm), fun q => (by exfalso; omega), fun _ => Or.inr (Or.inl ⟨(by rw [ht56o]; omega), (by rw [ht56l]; (try delta Hid at *); omega), rfl, (by rw [ht56o, ht56l, htw57, if_neg (fun q9 => by omega)]; exact hX53), rfl, rfl⟩)⟩
              · refine lv_lload hx hb dX8_fillField_158 (lv_at hl 0 rfl) ?_
                refine lv_ldc2 (v := jL (-1)) hx hb hown (hts (.constantLong RX8 88 (-1)) (by first | exact gj_X8_fillField_0 _ (gp_4 (gp_1 gp_h)) | decide +kernel)) dX8_fillField_160 ?_
                refine x_lcmp hx hb (by omega) (by omega) dX8_fillField_163 ?_
                obtain ⟨z58, ez58⟩ : ∃ y : Int, y = cmpZ (X 12 g slot) (-1) := ⟨_, rfl⟩
                rw [← ez58]
                have gz58 : (z58 < 0 ↔ ((X 12 g slot) : Int) < (-1)) ∧ (z58 = 0 ↔ ((X 12 g slot) : Int) = (-1)) ∧ -1 ≤ z58 ∧ z58 ≤ 1 := by rw [ez58]; exact ⟨cmpZ_lt, cmpZ_eq, (cmpZ_r _ _).1, (cmpZ_r _ _).2⟩
                clear ez58
                refine x_if_eq (tgt := 183) hx hb (by omega) dX8_fillField_164 (by decide) (fun c59 => ?_) (fun c59 => ?_)
                · replace c59 := cz_eqT gz58 c59
                  clear gz58
                  refine lv_aload_n hx hb dX8_fillField_183 rfl (lv_at hl 4 rfl) ?_
                  refine x_geto hx hb hf6 hw (by omega) (by omega) sl_15_1 lk193 dX8_fillField_184 ?_
                  refine lv_iload hx hb dX8_fillField_187 (lv_at hl 2 rfl) ?_
                  refine lv_lload hx hb dX8_fillField_189 (lv_at hl 0 rfl) ?_
                  refine x_last hx hb hK.1 hw hS (by omega) (by omega) ar_16 (len_E ar_16 (by first | exact Nat.ne_of_beq_eq_false rfl | decide)) (by omega) (by omega) (by omega) dX8_fillField_191 (fun H locs hw hS => ?_)
                  obtain ⟨X60, hX60⟩ : ∃ Xq, Xq = u3 X 16 x z4 (X 12 g slot) := ⟨_, rfl⟩
                  rw [← hX60] at hw
                  have hRX60 : Rng X60 := by rw [hX60]; exact rng_set hR (show (-9223372036854775808) ≤ (X 12 g slot) ∧ (X 12 g slot) ≤ 9223372036854775807 by omega)
                  have hVX60 : X60 16 x z4 = (X 12 g slot) := by rw [hX60]; exact u3_s _ _ _ _ _
                  have hFX60 : Frm [1600, 2602, 2700] X X60 := by rw [hX60]; exact Frm.set Frm.rf (show 1600 ∈ [1600, 2602, 2700] by first | exact nlm_in rfl | decide)
                  refine lv_iconst (v := jI 0) hx hb dX8_fillField_192 rfl ?_
                  rw [hQ9]
                  refine ret_i (mc := 2) (ms := 14) hx hb hr hlocks hw hS (by first | exact Nat.le_of_ble_eq_true rfl | omega) (by first | exact Nat.le_of_ble_eq_true rfl | omega) dX8_fillField_193 ?_
                  have q61 : Frm [1600] X X60 := by rw [hX60]; exact Frm.set Frm.rf (show 1600 ∈ [1600] by first | exact nlm_in rfl | decide)
                  have hCq62 : CInv cnt X60 Y ln := cinv_frm (M := [1600]) (N := []) hCI q61 Frm.rf (by decide) (by decide)
                  have ht63o : toC X Y x g slot = z4 := by unfold toC; rw [tyo_some y1]; exact (p6.2.2.2).symm
                  have ht63l : tlC X Y x g slot = X 21 r2 z4 := by unfold tlC; rw [ht63o, tyo_some y1]
                  have htw64 : twC X Y x g slot = (X 12 g slot) := (by unfold twC bdC; rw [ht63l]; (try delta Hid at *); (repeat' split) <;> omega)
                  exact ⟨ad, cnt, X60, Y, ln, rfl, hE9 _ _ _ hE, hFx, hOw, hLn, hRX60, hFX60, Frm.rf, hCq62, by omega, (by unfold fvC; rw [ht63o, ht63l]; exact (fvF_0 (by omega) (by (try delta Hid at *); omega) (by unfold bdC andZ; (try delta Hid at *); split <;> omega)).symm), fun q => (by exfalso; omega), fun _ => Or.inr (Or.inl ⟨(by rw [ht63o]; omega), (by rw [ht63l]; (try delta Hid at *); omega), rfl, (by rw [ht63o, ht63l, htw64, if_neg (fun q9 => by omega)]; exact hX60), rfl, rfl⟩)⟩
                · replace c59 := cz_eqF gz58 c59
                  clear gz58
                  have hv9 := hv (by omega)
                  refine lv_aload_n hx hb dX8_fillField_167 rfl (lv_at hl 4 rfl) ?_
                  refine x_geto hx hb hf6 hw (by omega) (by omega) sl_15_1 lk193 dX8_fillField_168 ?_
                  refine lv_iload hx hb dX8_fillField_171 (lv_at hl 2 rfl) ?_
                  refine lv_iload hx hb dX8_fillField_173 (lv_at hl 7 rfl) ?_
                  refine x_i2l hx hb (by omega) dX8_fillField_175 ?_
                  refine lv_lload hx hb dX8_fillField_176 (lv_at hl 0 rfl) ?_
                  refine x_ladd hx hb dX8_fillField_178 ?_
                  refine x_last hx hb hK.1 hw hS (by omega) (by omega) ar_16 (len_E ar_16 (by first | exact Nat.ne_of_beq_eq_false rfl | decide)) (by omega) (by omega) (by omega) dX8_fillField_179 (fun H locs hw hS => ?_)
                  obtain ⟨X65, hX65⟩ : ∃ Xq, Xq = u3 X 16 x z4 (f + (X 12 g slot)) := ⟨_, rfl⟩
                  rw [← hX65] at hw
                  have hRX65 : Rng X65 := by rw [hX65]; exact rng_set hR (show (-9223372036854775808) ≤ (f + (X 12 g slot)) ∧ (f + (X 12 g slot)) ≤ 9223372036854775807 by omega)
                  have hVX65 : X65 16 x z4 = (f + (X 12 g slot)) := by rw [hX65]; exact u3_s _ _ _ _ _
                  have hFX65 : Frm [1600, 2602, 2700] X X65 := by rw [hX65]; exact Frm.set Frm.rf (show 1600 ∈ [1600, 2602, 2700] by first | exact nlm_in rfl | decide)
                  refine lv_goto (tgt := 192) hx hb dX8_fillField_180 (by decide) ?_
                  refine lv_iconst (v := jI 0) hx hb dX8_fillField_192 rfl ?_
                  rw [hQ9]
                  refine ret_i (mc := 2) (ms := 14) hx hb hr hlocks hw hS (by first | exact Nat.le_of_ble_eq_true rfl | omega) (by first | exact Nat.le_of_ble_eq_true rfl | omega) dX8_fillField_193 ?_
                  have q66 : Frm [1600] X X65 := by rw [hX65]; exact Frm.set Frm.rf (show 1600 ∈ [1600] by first | exact nlm_in rfl | decide)
                  have hCq67 : CInv cnt X65 Y ln := cinv_frm (M := [1600]) (N := []) hCI q66 Frm.rf (by decide) (by decide)
                  have ht68o : toC X Y x g slot = z4 := by unfold toC; rw [tyo_some y1]; exact (p6.2.2.2).symm
                  have ht68l : tlC X Y x g slot = X 21 r2 z4 := by unfold tlC; rw [ht68o, tyo_some y1]
                  have htw69 : twC X Y x g slot = X 12 g slot := (by unfold twC bdC; rw [ht68l]; (try delta Hid at *); (repeat' split) <;> omega)
                  exact ⟨ad, cnt, X65, Y, ln, rfl, hE9 _ _ _ hE, hFx, hOw, hLn, hRX65, hFX65, Frm.rf, hCq67, by omega, (by unfold fvC; rw [ht68o, ht68l]; exact (fvF_0 (by omega) (by (try delta Hid at *); omega) (by unfold bdC andZ; (try delta Hid at *); split <;> omega)).symm), fun q => (by exfalso; omega), fun _ => Or.inr (Or.inl ⟨(by rw [ht68o]; omega), (by rw [ht68l]; (try delta Hid at *); omega), rfl, (by first | (rw [ht68o, ht68l, htw69, if_pos ⟨by omega, by omega⟩]; exact hX65) | (exfalso; (try delta Hid at *); omega)), rfl, rfl⟩)⟩
          · refine lv_lload hx hb dX8_fillField_78 (lv_at hl 0 rfl) ?_
            refine lv_ldc2 (v := jL (-1)) hx hb hown (hts (.constantLong RX8 88 (-1)) (by first | exact gj_X8_fillField_0 _ (gp_4 (gp_1 gp_h)) | decide +kernel)) dX8_fillField_80 ?_
            refine x_lcmp hx hb (by omega) (by omega) dX8_fillField_83 ?_
            obtain ⟨z70, ez70⟩ : ∃ y : Int, y = cmpZ (X 12 g slot) (-1) := ⟨_, rfl⟩
            rw [← ez70]
            have gz70 : (z70 < 0 ↔ ((X 12 g slot) : Int) < (-1)) ∧ (z70 = 0 ↔ ((X 12 g slot) : Int) = (-1)) ∧ -1 ≤ z70 ∧ z70 ≤ 1 := by rw [ez70]; exact ⟨cmpZ_lt, cmpZ_eq, (cmpZ_r _ _).1, (cmpZ_r _ _).2⟩
            clear ez70
            refine x_if_eq (tgt := 111) hx hb (by omega) dX8_fillField_84 (by decide) (fun c71 => ?_) (fun c71 => ?_)
            · replace c71 := cz_eqT gz70 c71
              clear gz70
              refine lv_iload hx hb dX8_fillField_111 (lv_at hl 1 rfl) ?_
              refine gos_i (run_S (As := [.int (jI (X 21 r2 z4))]) (rest := []) hx hb hml hown hts (c_X8_isRowLane l D tc base ad cnt X Y ln (X 21 r2 z4) (by omega)) (cwS 1 hts gX8_fillField_X8_isRowLane rfl rfl rfl (by first | exact hd_X8_isRowLane | decide +kernel) ⟨Nat.le_of_ble_eq_true rfl, Nat.le_of_ble_eq_true rfl⟩) hK hw rfl hl.1 rfl (Nat.le_of_ble_eq_true rfl) dX8_fillField_113 ⟨(by show _ ≤ (2 : Nat); omega), (by show _ ≤ (14 : Nat); omega)⟩) hS (fun z72 u73 H locs p74 hw hS => ?_)
              obtain ⟨eu73, p74⟩ := p74
              subst eu73
              rcases p74 with ⟨ez72, p74⟩ | ⟨ez72, p74⟩
              · subst ez72
                refine x_if_eqF (tgt := 152) hx hb (by omega) (by decide) dX8_fillField_116 (by decide) ?_
                refine lv_aload_n hx hb dX8_fillField_119 rfl (lv_at hl 4 rfl) ?_
                refine x_geto hx hb hf6 hw (by omega) (by omega) sl_15_2 lk158 dX8_fillField_120 ?_
                refine lv_iload hx hb dX8_fillField_123 (lv_at hl 2 rfl) ?_
                refine lv_lload hx hb dX8_fillField_125 (lv_at hl 0 rfl) ?_
                refine lv_ldc2 (v := jL (-1)) hx hb hown (hts (.constantLong RX8 88 (-1)) (by first | exact gj_X8_fillField_0 _ (gp_4 (gp_1 gp_h)) | decide +kernel)) dX8_fillField_127 ?_
                refine x_lcmp hx hb (by omega) (by omega) dX8_fillField_130 ?_
                obtain ⟨z75, ez75⟩ : ∃ y : Int, y = cmpZ (X 12 g slot) (-1) := ⟨_, rfl⟩
                rw [← ez75]
                have gz75 : (z75 < 0 ↔ ((X 12 g slot) : Int) < (-1)) ∧ (z75 = 0 ↔ ((X 12 g slot) : Int) = (-1)) ∧ -1 ≤ z75 ∧ z75 ≤ 1 := by rw [ez75]; exact ⟨cmpZ_lt, cmpZ_eq, (cmpZ_r _ _).1, (cmpZ_r _ _).2⟩
                clear ez75
                refine x_if_ne (tgt := 138) hx hb (by omega) dX8_fillField_131 (by decide) (fun c76 => ?_) (fun c76 => ?_)
                · replace c76 := cz_neT gz75 c76
                  clear gz75
                  have hv9 := hv (by omega)
                  refine lv_aload_n hx hb dX8_fillField_138 rfl (lv_at hl 3 rfl) ?_
                  refine lv_aload_n hx hb dX8_fillField_139 rfl (lv_at hl 5 rfl) ?_
                  refine lv_lload hx hb dX8_fillField_140 (lv_at hl 0 rfl) ?_
                  refine x_l2i hx hb dX8_fillField_142 ?_
                  refine lv_iload hx hb dX8_fillField_143 (lv_at hl 1 rfl) ?_
                  refine gos_r (run_V (As := [.ref (ad 7 g), .int (jI (X 12 g slot)), .int (jI (X 21 r2 z4))]) (rest := [.int (jI z4), .ref (ad 17 x)]) hx hb hml hown hts (c_X8_rowPutBack l D tc base ad cnt X Y ln hR hFx hLn hCI hOw hN g (X 12 g slot) (X 21 r2 z4) (by omega) (by omega) (by omega)) (cwV 3 hts gX8_fillField_X8_rowPutBack rfl rfl rfl (by first | exact hd_X8_rowPutBack | decide +kernel) ⟨Nat.le_of_ble_eq_true rfl, Nat.le_of_ble_eq_true rfl⟩) hK hw (by first | exact Int.le_refl 0 | omega) (by first | exact zlt hc0 | omega) sl_0_0 rfl rfl hl.1 rfl (Nat.le_of_ble_eq_true rfl) dX8_fillField_145 ⟨(by show _ ≤ (2 : Nat); omega), (by show _ ≤ (14 : Nat); omega)⟩) hS (fun u78 H locs p79 hw hS => ?_) (fun z77 u78 H locs p79 hw hS => ?_)
                  · obtain ⟨ad, cnt, X80, Y81, ln, eu78, hE82, hFx, hOw, hLn, hRX80, hG83, hJ84, hCIX80, p79, hrpX80⟩ := p79
                    subst eu78
                    obtain ⟨r9, e9, -⟩ := p79
                    cases e9
                  · obtain ⟨ad, cnt, X85, Y86, ln, eu78, hE87, hFx, hOw, hLn, hRX85, hG88, hJ89, hCIX85, p79, hrpX85⟩ := p79
                    subst eu78
                    have hFX85 : Frm [1600, 2602, 2700] X X85 := Frm.tr Frm.rf (Frm.mono hG88 (by first | exact nls_of rfl | decide))
                    have hHY86 : Frm [1700, 600] Y Y86 := Frm.tr Frm.rf (Frm.mono hJ89 (by first | exact nls_of rfl | decide))
                    have hz77 : 0 ≤ z77 ∧ z77 < cnt 26 := by obtain ⟨r9, e9, h1, h2⟩ := p79; cases e9; exact ⟨h1, h2⟩
                    have hE := Ext.tr hE hE87
                    have hm90 := hE87.2.1 19
                    have hm91 := hE87.2.1 25
                    have hm92 := hE87.2.1 26
                    have hN : 0 ≤ cnt 25 ∧ 0 ≤ cnt 26 := by omega
                    have ha93 := hE87.1 0 0 (by omega) (by omega)
                    have ha94 := hE87.1 15 x (by omega) (by omega)
                    have ha95 := hE87.1 7 g (by omega) (by omega)
                    have ha96 := hE87.1 17 x (by omega) (by omega)
                    have hc0 : cnt 0 = 1 := hFx.at 0 1 (by decide)
                    have hc6 : cnt 6 = 1 := hFx.at 6 1 (by decide)
                    have hc7 : cnt 7 = 6 := hFx.at 7 6 (by decide)
                    have hc10 : cnt 10 = 6 := hFx.at 10 6 (by decide)
                    have hc11 : cnt 11 = 6 := hFx.at 11 6 (by decide)
                    have hc12 : cnt 12 = 6 := hFx.at 12 6 (by decide)
                    have hc15 : cnt 15 = 30 := hFx.at 15 30 (by decide)
                    have hc16 : cnt 16 = 30 := hFx.at 16 30 (by decide)
                    have hc17 : cnt 17 = 30 := hFx.at 17 30 (by decide)
                    have hc21 : cnt 21 = cnt 19 := hFx.2.1 21 (by decide)
                    have hc27 : cnt 27 = cnt 26 := hFx.2.2
                    have hl : lv_has ls 10 [(8, .long (jL (X 12 g slot))), (7, .int (jI (X 21 r2 z4))), (6, .int (jI z4)), (0, .ref (ad 0 0)), (1, .ref (ad 15 x)), (2, .ref (ad 7 g)), (3, .int (jI slot)), (4, .int (jI f)), (5, .int (jI rule))] := by rw [ha93, ha94, ha95]; exact hl
                    refine W.eq (g2 := F0 m 148 ls [.ref (ad 26 z77), .int (jI z4), .ref (ad 17 x)]) (by first | rfl | (rw [ha96]; done) | (rw [ha96]; rfl)) ?_
                    refine x_aast hx hb hK.1 hw hS (by omega) (by omega) ar_17 rfl rfl sl_26_0 (len_E ar_17 (by first | exact Nat.ne_of_beq_eq_false rfl | decide)) (by omega) (by omega) (by omega) (by omega) (by omega) dX8_fillField_148 (fun H locs hw hS => ?_)
                    obtain ⟨Y97, hY97⟩ : ∃ Yq, Yq = u3 Y86 17 x z4 (some z77) := ⟨_, rfl⟩
                    rw [← hY97] at hw
                    have hVY97 : Y97 17 x z4 = (some z77) := by rw [hY97]; exact u3_s _ _ _ _ _
                    have hHY97 : Frm [1700, 600] Y Y97 := by rw [hY97]; exact Frm.set hHY86 (show 1700 ∈ [1700, 600] by first | exact nlm_in rfl | decide)
                    refine lv_goto (tgt := 192) hx hb dX8_fillField_149 (by decide) ?_
                    refine lv_iconst (v := jI 0) hx hb dX8_fillField_192 rfl ?_
                    rw [hQ9]
                    refine ret_i (mc := 2) (ms := 14) hx hb hr hlocks hw hS (by first | exact Nat.le_of_ble_eq_true rfl | omega) (by first | exact Nat.le_of_ble_eq_true rfl | omega) dX8_fillField_193 ?_
                    have q98 : Frm [1700] Y86 Y97 := by rw [hY97]; exact Frm.set Frm.rf (show 1700 ∈ [1700] by first | exact nlm_in rfl | decide)
                    have hCq99 : CInv cnt X85 Y97 ln := cinv_frm (M := []) (N := [1700]) hCIX85 Frm.rf q98 (by decide) (by decide)
                    have ht100o : toC X Y x g slot = z4 := by unfold toC; rw [tyo_some y1]; exact (p6.2.2.2).symm
                    have ht100l : tlC X Y x g slot = X 21 r2 z4 := by unfold tlC; rw [ht100o, tyo_some y1]
                    have htw101 : twC X Y x g slot = X 12 g slot := (by unfold twC bdC; rw [ht100l]; (try delta Hid at *); (repeat' split) <;> omega)
                    exact ⟨ad, cnt, X85, Y97, ln, rfl, hE9 _ _ _ hE, hFx, hOw, hLn, hRX85, hFX85, hHY97, hCq99, by omega, (by unfold fvC; rw [ht100o, ht100l]; exact (fvF_0 (by omega) (by (try delta Hid at *); omega) (by unfold bdC andZ; (try delta Hid at *); split <;> omega)).symm), fun q => (by exfalso; omega), fun _ => Or.inr (Or.inr (Or.inr ⟨(by rw [ht100o]; omega), (by rw [ht100l]; (try delta Hid at *); omega), (by rw [htw101]; omega), (by obtain ⟨q9, q8, q7⟩ := hrpX85; exact ⟨Y86, q9, (by first | (rw [htw101, ht100l]; exact q7) | (exfalso; (try delta Hid at *); omega)), (by rw [ht100o, ← q8]; exact hY97)⟩)⟩))⟩
                · replace c76 := cz_neF gz75 c76
                  clear gz75
                  refine lv_null hx hb dX8_fillField_134 ?_
                  refine lv_goto (tgt := 148) hx hb dX8_fillField_135 (by decide) ?_
                  refine x_aastn hx hb hK.1 hw hS (by omega) (by omega) ar_17 rfl (len_E ar_17 (by first | exact Nat.ne_of_beq_eq_false rfl | decide)) (by omega) (by omega) (by omega) dX8_fillField_148 (fun H locs hw hS => ?_)
                  obtain ⟨Y102, hY102⟩ : ∃ Yq, Yq = u3 Y 17 x z4 none := ⟨_, rfl⟩
                  rw [← hY102] at hw
                  have hVY102 : Y102 17 x z4 = none := by rw [hY102]; exact u3_s _ _ _ _ _
                  have hHY102 : Frm [1700, 600] Y Y102 := by rw [hY102]; exact Frm.set Frm.rf (show 1700 ∈ [1700, 600] by first | exact nlm_in rfl | decide)
                  refine lv_goto (tgt := 192) hx hb dX8_fillField_149 (by decide) ?_
                  refine lv_iconst (v := jI 0) hx hb dX8_fillField_192 rfl ?_
                  rw [hQ9]
                  refine ret_i (mc := 2) (ms := 14) hx hb hr hlocks hw hS (by first | exact Nat.le_of_ble_eq_true rfl | omega) (by first | exact Nat.le_of_ble_eq_true rfl | omega) dX8_fillField_193 ?_
                  have q103 : Frm [1700] Y Y102 := by rw [hY102]; exact Frm.set Frm.rf (show 1700 ∈ [1700] by first | exact nlm_in rfl | decide)
                  have hCq104 : CInv cnt X Y102 ln := cinv_frm (M := []) (N := [1700]) hCI Frm.rf q103 (by decide) (by decide)
                  have ht105o : toC X Y x g slot = z4 := by unfold toC; rw [tyo_some y1]; exact (p6.2.2.2).symm
                  have ht105l : tlC X Y x g slot = X 21 r2 z4 := by unfold tlC; rw [ht105o, tyo_some y1]
                  have htw106 : twC X Y x g slot = -1 := (by unfold twC bdC; rw [ht105l]; (try delta Hid at *); (repeat' split) <;> omega)
                  exact ⟨ad, cnt, X, Y102, ln, rfl, hE9 _ _ _ hE, hFx, hOw, hLn, hR, Frm.rf, hHY102, hCq104, by omega, (by unfold fvC; rw [ht105o, ht105l]; exact (fvF_0 (by omega) (by (try delta Hid at *); omega) (by unfold bdC andZ; (try delta Hid at *); split <;> omega)).symm), fun q => (by exfalso; omega), fun _ => Or.inr (Or.inr (Or.inl ⟨(by rw [ht105o]; omega), (by rw [ht105l]; (try delta Hid at *); omega), htw106, rfl, rfl, (by rw [ht105o]; exact hY102), rfl⟩))⟩
              · subst ez72
                refine x_if_eqT (tgt := 152) hx hb (by omega) (by decide) dX8_fillField_116 (by decide) ?_
                refine lv_iload hx hb dX8_fillField_152 (lv_at hl 1 rfl) ?_
                refine lv_iconst (v := jI 2) hx hb dX8_fillField_154 rfl ?_
                refine x_icmp_ne (tgt := 183) hx hb (by omega) (by omega) dX8_fillField_155 (by decide) (fun c107 => ?_) (fun c107 => ?_)
                · refine lv_aload_n hx hb dX8_fillField_183 rfl (lv_at hl 4 rfl) ?_
                  refine x_geto hx hb hf6 hw (by omega) (by omega) sl_15_1 lk193 dX8_fillField_184 ?_
                  refine lv_iload hx hb dX8_fillField_187 (lv_at hl 2 rfl) ?_
                  refine lv_lload hx hb dX8_fillField_189 (lv_at hl 0 rfl) ?_
                  refine x_last hx hb hK.1 hw hS (by omega) (by omega) ar_16 (len_E ar_16 (by first | exact Nat.ne_of_beq_eq_false rfl | decide)) (by omega) (by omega) (by omega) dX8_fillField_191 (fun H locs hw hS => ?_)
                  obtain ⟨X108, hX108⟩ : ∃ Xq, Xq = u3 X 16 x z4 (X 12 g slot) := ⟨_, rfl⟩
                  rw [← hX108] at hw
                  have hRX108 : Rng X108 := by rw [hX108]; exact rng_set hR (show (-9223372036854775808) ≤ (X 12 g slot) ∧ (X 12 g slot) ≤ 9223372036854775807 by omega)
                  have hVX108 : X108 16 x z4 = (X 12 g slot) := by rw [hX108]; exact u3_s _ _ _ _ _
                  have hFX108 : Frm [1600, 2602, 2700] X X108 := by rw [hX108]; exact Frm.set Frm.rf (show 1600 ∈ [1600, 2602, 2700] by first | exact nlm_in rfl | decide)
                  refine lv_iconst (v := jI 0) hx hb dX8_fillField_192 rfl ?_
                  rw [hQ9]
                  refine ret_i (mc := 2) (ms := 14) hx hb hr hlocks hw hS (by first | exact Nat.le_of_ble_eq_true rfl | omega) (by first | exact Nat.le_of_ble_eq_true rfl | omega) dX8_fillField_193 ?_
                  have q109 : Frm [1600] X X108 := by rw [hX108]; exact Frm.set Frm.rf (show 1600 ∈ [1600] by first | exact nlm_in rfl | decide)
                  have hCq110 : CInv cnt X108 Y ln := cinv_frm (M := [1600]) (N := []) hCI q109 Frm.rf (by decide) (by decide)
                  have ht111o : toC X Y x g slot = z4 := by unfold toC; rw [tyo_some y1]; exact (p6.2.2.2).symm
                  have ht111l : tlC X Y x g slot = X 21 r2 z4 := by unfold tlC; rw [ht111o, tyo_some y1]
                  have htw112 : twC X Y x g slot = (X 12 g slot) := (by unfold twC bdC; rw [ht111l]; (try delta Hid at *); (repeat' split) <;> omega)
                  exact ⟨ad, cnt, X108, Y, ln, rfl, hE9 _ _ _ hE, hFx, hOw, hLn, hRX108, hFX108, Frm.rf, hCq110, by omega, (by unfold fvC; rw [ht111o, ht111l]; exact (fvF_0 (by omega) (by (try delta Hid at *); omega) (by unfold bdC andZ; (try delta Hid at *); split <;> omega)).symm), fun q => (by exfalso; omega), fun _ => Or.inr (Or.inl ⟨(by rw [ht111o]; omega), (by rw [ht111l]; (try delta Hid at *); omega), rfl, (by rw [ht111o, ht111l, htw112, if_neg (fun q9 => by omega)]; exact hX108), rfl, rfl⟩)⟩
                · refine lv_lload hx hb dX8_fillField_158 (lv_at hl 0 rfl) ?_
                  refine lv_ldc2 (v := jL (-1)) hx hb hown (hts (.constantLong RX8 88 (-1)) (by first | exact gj_X8_fillField_0 _ (gp_4 (gp_1 gp_h)) | decide +kernel)) dX8_fillField_160 ?_
                  refine x_lcmp hx hb (by omega) (by omega) dX8_fillField_163 ?_
                  obtain ⟨z113, ez113⟩ : ∃ y : Int, y = cmpZ (X 12 g slot) (-1) := ⟨_, rfl⟩
                  rw [← ez113]
                  have gz113 : (z113 < 0 ↔ ((X 12 g slot) : Int) < (-1)) ∧ (z113 = 0 ↔ ((X 12 g slot) : Int) = (-1)) ∧ -1 ≤ z113 ∧ z113 ≤ 1 := by rw [ez113]; exact ⟨cmpZ_lt, cmpZ_eq, (cmpZ_r _ _).1, (cmpZ_r _ _).2⟩
                  clear ez113
                  refine x_if_eq (tgt := 183) hx hb (by omega) dX8_fillField_164 (by decide) (fun c114 => ?_) (fun c114 => ?_)
                  · replace c114 := cz_eqT gz113 c114
                    clear gz113
                    refine lv_aload_n hx hb dX8_fillField_183 rfl (lv_at hl 4 rfl) ?_
                    refine x_geto hx hb hf6 hw (by omega) (by omega) sl_15_1 lk193 dX8_fillField_184 ?_
                    refine lv_iload hx hb dX8_fillField_187 (lv_at hl 2 rfl) ?_
                    refine lv_lload hx hb dX8_fillField_189 (lv_at hl 0 rfl) ?_
                    refine x_last hx hb hK.1 hw hS (by omega) (by omega) ar_16 (len_E ar_16 (by first | exact Nat.ne_of_beq_eq_false rfl | decide)) (by omega) (by omega) (by omega) dX8_fillField_191 (fun H locs hw hS => ?_)
                    obtain ⟨X115, hX115⟩ : ∃ Xq, Xq = u3 X 16 x z4 (X 12 g slot) := ⟨_, rfl⟩
                    rw [← hX115] at hw
                    have hRX115 : Rng X115 := by rw [hX115]; exact rng_set hR (show (-9223372036854775808) ≤ (X 12 g slot) ∧ (X 12 g slot) ≤ 9223372036854775807 by omega)
                    have hVX115 : X115 16 x z4 = (X 12 g slot) := by rw [hX115]; exact u3_s _ _ _ _ _
                    have hFX115 : Frm [1600, 2602, 2700] X X115 := by rw [hX115]; exact Frm.set Frm.rf (show 1600 ∈ [1600, 2602, 2700] by first | exact nlm_in rfl | decide)
                    refine lv_iconst (v := jI 0) hx hb dX8_fillField_192 rfl ?_
                    rw [hQ9]
                    refine ret_i (mc := 2) (ms := 14) hx hb hr hlocks hw hS (by first | exact Nat.le_of_ble_eq_true rfl | omega) (by first | exact Nat.le_of_ble_eq_true rfl | omega) dX8_fillField_193 ?_
                    have q116 : Frm [1600] X X115 := by rw [hX115]; exact Frm.set Frm.rf (show 1600 ∈ [1600] by first | exact nlm_in rfl | decide)
                    have hCq117 : CInv cnt X115 Y ln := cinv_frm (M := [1600]) (N := []) hCI q116 Frm.rf (by decide) (by decide)
                    have ht118o : toC X Y x g slot = z4 := by unfold toC; rw [tyo_some y1]; exact (p6.2.2.2).symm
                    have ht118l : tlC X Y x g slot = X 21 r2 z4 := by unfold tlC; rw [ht118o, tyo_some y1]
                    have htw119 : twC X Y x g slot = (X 12 g slot) := (by unfold twC bdC; rw [ht118l]; (try delta Hid at *); (repeat' split) <;> omega)
                    exact ⟨ad, cnt, X115, Y, ln, rfl, hE9 _ _ _ hE, hFx, hOw, hLn, hRX115, hFX115, Frm.rf, hCq117, by omega, (by unfold fvC; rw [ht118o, ht118l]; exact (fvF_0 (by omega) (by (try delta Hid at *); omega) (by unfold bdC andZ; (try delta Hid at *); split <;> omega)).symm), fun q => (by exfalso; omega), fun _ => Or.inr (Or.inl ⟨(by rw [ht118o]; omega), (by rw [ht118l]; (try delta Hid at *); omega), rfl, (by rw [ht118o, ht118l, htw119, if_neg (fun q9 => by omega)]; exact hX115), rfl, rfl⟩)⟩
                  · replace c114 := cz_eqF gz113 c114
                    clear gz113
                    have hv9 := hv (by omega)
                    refine lv_aload_n hx hb dX8_fillField_167 rfl (lv_at hl 4 rfl) ?_
                    refine x_geto hx hb hf6 hw (by omega) (by omega) sl_15_1 lk193 dX8_fillField_168 ?_
                    refine lv_iload hx hb dX8_fillField_171 (lv_at hl 2 rfl) ?_
                    refine lv_iload hx hb dX8_fillField_173 (lv_at hl 7 rfl) ?_
                    refine x_i2l hx hb (by omega) dX8_fillField_175 ?_
                    refine lv_lload hx hb dX8_fillField_176 (lv_at hl 0 rfl) ?_
                    refine x_ladd hx hb dX8_fillField_178 ?_
                    refine x_last hx hb hK.1 hw hS (by omega) (by omega) ar_16 (len_E ar_16 (by first | exact Nat.ne_of_beq_eq_false rfl | decide)) (by omega) (by omega) (by omega) dX8_fillField_179 (fun H locs hw hS => ?_)
                    obtain ⟨X120, hX120⟩ : ∃ Xq, Xq = u3 X 16 x z4 (f + (X 12 g slot)) := ⟨_, rfl⟩
                    rw [← hX120] at hw
                    have hRX120 : Rng X120 := by rw [hX120]; exact rng_set hR (show (-9223372036854775808) ≤ (f + (X 12 g slot)) ∧ (f + (X 12 g slot)) ≤ 9223372036854775807 by omega)
                    have hVX120 : X120 16 x z4 = (f + (X 12 g slot)) := by rw [hX120]; exact u3_s _ _ _ _ _
                    have hFX120 : Frm [1600, 2602, 2700] X X120 := by rw [hX120]; exact Frm.set Frm.rf (show 1600 ∈ [1600, 2602, 2700] by first | exact nlm_in rfl | decide)
                    refine lv_goto (tgt := 192) hx hb dX8_fillField_180 (by decide) ?_
                    refine lv_iconst (v := jI 0) hx hb dX8_fillField_192 rfl ?_
                    rw [hQ9]
                    refine ret_i (mc := 2) (ms := 14) hx hb hr hlocks hw hS (by first | exact Nat.le_of_ble_eq_true rfl | omega) (by first | exact Nat.le_of_ble_eq_true rfl | omega) dX8_fillField_193 ?_
                    have q121 : Frm [1600] X X120 := by rw [hX120]; exact Frm.set Frm.rf (show 1600 ∈ [1600] by first | exact nlm_in rfl | decide)
                    have hCq122 : CInv cnt X120 Y ln := cinv_frm (M := [1600]) (N := []) hCI q121 Frm.rf (by decide) (by decide)
                    have ht123o : toC X Y x g slot = z4 := by unfold toC; rw [tyo_some y1]; exact (p6.2.2.2).symm
                    have ht123l : tlC X Y x g slot = X 21 r2 z4 := by unfold tlC; rw [ht123o, tyo_some y1]
                    have htw124 : twC X Y x g slot = X 12 g slot := (by unfold twC bdC; rw [ht123l]; (try delta Hid at *); (repeat' split) <;> omega)
                    exact ⟨ad, cnt, X120, Y, ln, rfl, hE9 _ _ _ hE, hFx, hOw, hLn, hRX120, hFX120, Frm.rf, hCq122, by omega, (by unfold fvC; rw [ht123o, ht123l]; exact (fvF_0 (by omega) (by (try delta Hid at *); omega) (by unfold bdC andZ; (try delta Hid at *); split <;> omega)).symm), fun q => (by exfalso; omega), fun _ => Or.inr (Or.inl ⟨(by rw [ht123o]; omega), (by rw [ht123l]; (try delta Hid at *); omega), rfl, (by first | (rw [ht123o, ht123l, htw124, if_pos ⟨by omega, by omega⟩]; exact hX120) | (exfalso; (try delta Hid at *); omega)), rfl, rfl⟩)⟩
            · replace c71 := cz_eqF gz70 c71
              clear gz70
              refine lv_aload_n hx hb dX8_fillField_87 rfl (lv_at hl 3 rfl) ?_
              refine lv_lload hx hb dX8_fillField_88 (lv_at hl 0 rfl) ?_
              refine gos_i (run_V (As := [.long (jL (X 12 g slot))]) (rest := []) hx hb hml hown hts (c_X8_isWordInUse l D tc base ad cnt X Y ln hR hFx hLn (X 12 g slot) (by omega)) (cwV 1 hts gX8_fillField_X8_isWordInUse rfl rfl rfl (by first | exact hd_X8_isWordInUse | decide +kernel) ⟨Nat.le_of_ble_eq_true rfl, Nat.le_of_ble_eq_true rfl⟩) hK hw (by first | exact Int.le_refl 0 | omega) (by first | exact zlt hc0 | omega) sl_0_0 rfl rfl hl.1 rfl (Nat.le_of_ble_eq_true rfl) dX8_fillField_90 ⟨(by show _ ≤ (2 : Nat); omega), (by show _ ≤ (14 : Nat); omega)⟩) hS (fun z125 u126 H locs p127 hw hS => ?_)
              obtain ⟨eu126, p127⟩ := p127
              subst eu126
              rcases p127 with ⟨ez125, p127⟩ | ⟨ez125, p127⟩
              · subst ez125
                refine x_if_neT (tgt := 111) hx hb (by omega) (by decide) dX8_fillField_93 (by decide) ?_
                refine lv_iload hx hb dX8_fillField_111 (lv_at hl 1 rfl) ?_
                refine gos_i (run_S (As := [.int (jI (X 21 r2 z4))]) (rest := []) hx hb hml hown hts (c_X8_isRowLane l D tc base ad cnt X Y ln (X 21 r2 z4) (by omega)) (cwS 1 hts gX8_fillField_X8_isRowLane rfl rfl rfl (by first | exact hd_X8_isRowLane | decide +kernel) ⟨Nat.le_of_ble_eq_true rfl, Nat.le_of_ble_eq_true rfl⟩) hK hw rfl hl.1 rfl (Nat.le_of_ble_eq_true rfl) dX8_fillField_113 ⟨(by show _ ≤ (2 : Nat); omega), (by show _ ≤ (14 : Nat); omega)⟩) hS (fun z128 u129 H locs p130 hw hS => ?_)
                obtain ⟨eu129, p130⟩ := p130
                subst eu129
                rcases p130 with ⟨ez128, p130⟩ | ⟨ez128, p130⟩
                · subst ez128
                  refine x_if_eqF (tgt := 152) hx hb (by omega) (by decide) dX8_fillField_116 (by decide) ?_
                  refine lv_aload_n hx hb dX8_fillField_119 rfl (lv_at hl 4 rfl) ?_
                  refine x_geto hx hb hf6 hw (by omega) (by omega) sl_15_2 lk158 dX8_fillField_120 ?_
                  refine lv_iload hx hb dX8_fillField_123 (lv_at hl 2 rfl) ?_
                  refine lv_lload hx hb dX8_fillField_125 (lv_at hl 0 rfl) ?_
                  refine lv_ldc2 (v := jL (-1)) hx hb hown (hts (.constantLong RX8 88 (-1)) (by first | exact gj_X8_fillField_0 _ (gp_4 (gp_1 gp_h)) | decide +kernel)) dX8_fillField_127 ?_
                  refine x_lcmp hx hb (by omega) (by omega) dX8_fillField_130 ?_
                  obtain ⟨z131, ez131⟩ : ∃ y : Int, y = cmpZ (X 12 g slot) (-1) := ⟨_, rfl⟩
                  rw [← ez131]
                  have gz131 : (z131 < 0 ↔ ((X 12 g slot) : Int) < (-1)) ∧ (z131 = 0 ↔ ((X 12 g slot) : Int) = (-1)) ∧ -1 ≤ z131 ∧ z131 ≤ 1 := by rw [ez131]; exact ⟨cmpZ_lt, cmpZ_eq, (cmpZ_r _ _).1, (cmpZ_r _ _).2⟩
                  clear ez131
                  refine x_if_ne (tgt := 138) hx hb (by omega) dX8_fillField_131 (by decide) (fun c132 => ?_) (fun c132 => ?_)
                  · replace c132 := cz_neT gz131 c132
                    clear gz131
                    have hv9 := hv (by omega)
                    refine lv_aload_n hx hb dX8_fillField_138 rfl (lv_at hl 3 rfl) ?_
                    refine lv_aload_n hx hb dX8_fillField_139 rfl (lv_at hl 5 rfl) ?_
                    refine lv_lload hx hb dX8_fillField_140 (lv_at hl 0 rfl) ?_
                    refine x_l2i hx hb dX8_fillField_142 ?_
                    refine lv_iload hx hb dX8_fillField_143 (lv_at hl 1 rfl) ?_
                    refine gos_r (run_V (As := [.ref (ad 7 g), .int (jI (X 12 g slot)), .int (jI (X 21 r2 z4))]) (rest := [.int (jI z4), .ref (ad 17 x)]) hx hb hml hown hts (c_X8_rowPutBack l D tc base ad cnt X Y ln hR hFx hLn hCI hOw hN g (X 12 g slot) (X 21 r2 z4) (by omega) (by omega) (by omega)) (cwV 3 hts gX8_fillField_X8_rowPutBack rfl rfl rfl (by first | exact hd_X8_rowPutBack | decide +kernel) ⟨Nat.le_of_ble_eq_true rfl, Nat.le_of_ble_eq_true rfl⟩) hK hw (by first | exact Int.le_refl 0 | omega) (by first | exact zlt hc0 | omega) sl_0_0 rfl rfl hl.1 rfl (Nat.le_of_ble_eq_true rfl) dX8_fillField_145 ⟨(by show _ ≤ (2 : Nat); omega), (by show _ ≤ (14 : Nat); omega)⟩) hS (fun u134 H locs p135 hw hS => ?_) (fun z133 u134 H locs p135 hw hS => ?_)
                    · obtain ⟨ad, cnt, X136, Y137, ln, eu134, hE138, hFx, hOw, hLn, hRX136, hG139, hJ140, hCIX136, p135, hrpX136⟩ := p135
                      subst eu134
                      obtain ⟨r9, e9, -⟩ := p135
                      cases e9
                    · obtain ⟨ad, cnt, X141, Y142, ln, eu134, hE143, hFx, hOw, hLn, hRX141, hG144, hJ145, hCIX141, p135, hrpX141⟩ := p135
                      subst eu134
                      have hFX141 : Frm [1600, 2602, 2700] X X141 := Frm.tr Frm.rf (Frm.mono hG144 (by first | exact nls_of rfl | decide))
                      have hHY142 : Frm [1700, 600] Y Y142 := Frm.tr Frm.rf (Frm.mono hJ145 (by first | exact nls_of rfl | decide))
                      have hz133 : 0 ≤ z133 ∧ z133 < cnt 26 := by obtain ⟨r9, e9, h1, h2⟩ := p135; cases e9; exact ⟨h1, h2⟩
                      have hE := Ext.tr hE hE143
                      have hm146 := hE143.2.1 19
                      have hm147 := hE143.2.1 25
                      have hm148 := hE143.2.1 26
                      have hN : 0 ≤ cnt 25 ∧ 0 ≤ cnt 26 := by omega
                      have ha149 := hE143.1 0 0 (by omega) (by omega)
                      have ha150 := hE143.1 15 x (by omega) (by omega)
                      have ha151 := hE143.1 7 g (by omega) (by omega)
                      have ha152 := hE143.1 17 x (by omega) (by omega)
                      have hc0 : cnt 0 = 1 := hFx.at 0 1 (by decide)
                      have hc6 : cnt 6 = 1 := hFx.at 6 1 (by decide)
                      have hc7 : cnt 7 = 6 := hFx.at 7 6 (by decide)
                      have hc10 : cnt 10 = 6 := hFx.at 10 6 (by decide)
                      have hc11 : cnt 11 = 6 := hFx.at 11 6 (by decide)
                      have hc12 : cnt 12 = 6 := hFx.at 12 6 (by decide)
                      have hc15 : cnt 15 = 30 := hFx.at 15 30 (by decide)
                      have hc16 : cnt 16 = 30 := hFx.at 16 30 (by decide)
                      have hc17 : cnt 17 = 30 := hFx.at 17 30 (by decide)
                      have hc21 : cnt 21 = cnt 19 := hFx.2.1 21 (by decide)
                      have hc27 : cnt 27 = cnt 26 := hFx.2.2
                      have hl : lv_has ls 10 [(8, .long (jL (X 12 g slot))), (7, .int (jI (X 21 r2 z4))), (6, .int (jI z4)), (0, .ref (ad 0 0)), (1, .ref (ad 15 x)), (2, .ref (ad 7 g)), (3, .int (jI slot)), (4, .int (jI f)), (5, .int (jI rule))] := by rw [ha149, ha150, ha151]; exact hl
                      refine W.eq (g2 := F0 m 148 ls [.ref (ad 26 z133), .int (jI z4), .ref (ad 17 x)]) (by first | rfl | (rw [ha152]; done) | (rw [ha152]; rfl)) ?_
                      refine x_aast hx hb hK.1 hw hS (by omega) (by omega) ar_17 rfl rfl sl_26_0 (len_E ar_17 (by first | exact Nat.ne_of_beq_eq_false rfl | decide)) (by omega) (by omega) (by omega) (by omega) (by omega) dX8_fillField_148 (fun H locs hw hS => ?_)
                      obtain ⟨Y153, hY153⟩ : ∃ Yq, Yq = u3 Y142 17 x z4 (some z133) := ⟨_, rfl⟩
                      rw [← hY153] at hw
                      have hVY153 : Y153 17 x z4 = (some z133) := by rw [hY153]; exact u3_s _ _ _ _ _
                      have hHY153 : Frm [1700, 600] Y Y153 := by rw [hY153]; exact Frm.set hHY142 (show 1700 ∈ [1700, 600] by first | exact nlm_in rfl | decide)
                      refine lv_goto (tgt := 192) hx hb dX8_fillField_149 (by decide) ?_
                      refine lv_iconst (v := jI 0) hx hb dX8_fillField_192 rfl ?_
                      rw [hQ9]
                      refine ret_i (mc := 2) (ms := 14) hx hb hr hlocks hw hS (by first | exact Nat.le_of_ble_eq_true rfl | omega) (by first | exact Nat.le_of_ble_eq_true rfl | omega) dX8_fillField_193 ?_
                      have q154 : Frm [1700] Y142 Y153 := by rw [hY153]; exact Frm.set Frm.rf (show 1700 ∈ [1700] by first | exact nlm_in rfl | decide)
                      have hCq155 : CInv cnt X141 Y153 ln := cinv_frm (M := []) (N := [1700]) hCIX141 Frm.rf q154 (by decide) (by decide)
                      have ht156o : toC X Y x g slot = z4 := by unfold toC; rw [tyo_some y1]; exact (p6.2.2.2).symm
                      have ht156l : tlC X Y x g slot = X 21 r2 z4 := by unfold tlC; rw [ht156o, tyo_some y1]
                      have htw157 : twC X Y x g slot = X 12 g slot := (by unfold twC bdC; rw [ht156l]; (try delta Hid at *); (repeat' split) <;> omega)
                      exact ⟨ad, cnt, X141, Y153, ln, rfl, hE9 _ _ _ hE, hFx, hOw, hLn, hRX141, hFX141, hHY153, hCq155, by omega, (by unfold fvC; rw [ht156o, ht156l]; exact (fvF_0 (by omega) (by (try delta Hid at *); omega) (by unfold bdC andZ; (try delta Hid at *); split <;> omega)).symm), fun q => (by exfalso; omega), fun _ => Or.inr (Or.inr (Or.inr ⟨(by rw [ht156o]; omega), (by rw [ht156l]; (try delta Hid at *); omega), (by rw [htw157]; omega), (by obtain ⟨q9, q8, q7⟩ := hrpX141; exact ⟨Y142, q9, (by first | (rw [htw157, ht156l]; exact q7) | (exfalso; (try delta Hid at *); omega)), (by rw [ht156o, ← q8]; exact hY153)⟩)⟩))⟩
                  · replace c132 := cz_neF gz131 c132
                    clear gz131
                    refine lv_null hx hb dX8_fillField_134 ?_
                    refine lv_goto (tgt := 148) hx hb dX8_fillField_135 (by decide) ?_
                    refine x_aastn hx hb hK.1 hw hS (by omega) (by omega) ar_17 rfl (len_E ar_17 (by first | exact Nat.ne_of_beq_eq_false rfl | decide)) (by omega) (by omega) (by omega) dX8_fillField_148 (fun H locs hw hS => ?_)
                    obtain ⟨Y158, hY158⟩ : ∃ Yq, Yq = u3 Y 17 x z4 none := ⟨_, rfl⟩
                    rw [← hY158] at hw
                    have hVY158 : Y158 17 x z4 = none := by rw [hY158]; exact u3_s _ _ _ _ _
                    have hHY158 : Frm [1700, 600] Y Y158 := by rw [hY158]; exact Frm.set Frm.rf (show 1700 ∈ [1700, 600] by first | exact nlm_in rfl | decide)
                    refine lv_goto (tgt := 192) hx hb dX8_fillField_149 (by decide) ?_
                    refine lv_iconst (v := jI 0) hx hb dX8_fillField_192 rfl ?_
                    rw [hQ9]
                    refine ret_i (mc := 2) (ms := 14) hx hb hr hlocks hw hS (by first | exact Nat.le_of_ble_eq_true rfl | omega) (by first | exact Nat.le_of_ble_eq_true rfl | omega) dX8_fillField_193 ?_
                    have q159 : Frm [1700] Y Y158 := by rw [hY158]; exact Frm.set Frm.rf (show 1700 ∈ [1700] by first | exact nlm_in rfl | decide)
                    have hCq160 : CInv cnt X Y158 ln := cinv_frm (M := []) (N := [1700]) hCI Frm.rf q159 (by decide) (by decide)
                    have ht161o : toC X Y x g slot = z4 := by unfold toC; rw [tyo_some y1]; exact (p6.2.2.2).symm
                    have ht161l : tlC X Y x g slot = X 21 r2 z4 := by unfold tlC; rw [ht161o, tyo_some y1]
                    have htw162 : twC X Y x g slot = -1 := (by unfold twC bdC; rw [ht161l]; (try delta Hid at *); (repeat' split) <;> omega)
                    exact ⟨ad, cnt, X, Y158, ln, rfl, hE9 _ _ _ hE, hFx, hOw, hLn, hR, Frm.rf, hHY158, hCq160, by omega, (by unfold fvC; rw [ht161o, ht161l]; exact (fvF_0 (by omega) (by (try delta Hid at *); omega) (by unfold bdC andZ; (try delta Hid at *); split <;> omega)).symm), fun q => (by exfalso; omega), fun _ => Or.inr (Or.inr (Or.inl ⟨(by rw [ht161o]; omega), (by rw [ht161l]; (try delta Hid at *); omega), htw162, rfl, rfl, (by rw [ht161o]; exact hY158), rfl⟩))⟩
                · subst ez128
                  refine x_if_eqT (tgt := 152) hx hb (by omega) (by decide) dX8_fillField_116 (by decide) ?_
                  refine lv_iload hx hb dX8_fillField_152 (lv_at hl 1 rfl) ?_
                  refine lv_iconst (v := jI 2) hx hb dX8_fillField_154 rfl ?_
                  refine x_icmp_ne (tgt := 183) hx hb (by omega) (by omega) dX8_fillField_155 (by decide) (fun c163 => ?_) (fun c163 => ?_)
                  · refine lv_aload_n hx hb dX8_fillField_183 rfl (lv_at hl 4 rfl) ?_
                    refine x_geto hx hb hf6 hw (by omega) (by omega) sl_15_1 lk193 dX8_fillField_184 ?_
                    refine lv_iload hx hb dX8_fillField_187 (lv_at hl 2 rfl) ?_
                    refine lv_lload hx hb dX8_fillField_189 (lv_at hl 0 rfl) ?_
                    refine x_last hx hb hK.1 hw hS (by omega) (by omega) ar_16 (len_E ar_16 (by first | exact Nat.ne_of_beq_eq_false rfl | decide)) (by omega) (by omega) (by omega) dX8_fillField_191 (fun H locs hw hS => ?_)
                    obtain ⟨X164, hX164⟩ : ∃ Xq, Xq = u3 X 16 x z4 (X 12 g slot) := ⟨_, rfl⟩
                    rw [← hX164] at hw
                    have hRX164 : Rng X164 := by rw [hX164]; exact rng_set hR (show (-9223372036854775808) ≤ (X 12 g slot) ∧ (X 12 g slot) ≤ 9223372036854775807 by omega)
                    have hVX164 : X164 16 x z4 = (X 12 g slot) := by rw [hX164]; exact u3_s _ _ _ _ _
                    have hFX164 : Frm [1600, 2602, 2700] X X164 := by rw [hX164]; exact Frm.set Frm.rf (show 1600 ∈ [1600, 2602, 2700] by first | exact nlm_in rfl | decide)
                    refine lv_iconst (v := jI 0) hx hb dX8_fillField_192 rfl ?_
                    rw [hQ9]
                    refine ret_i (mc := 2) (ms := 14) hx hb hr hlocks hw hS (by first | exact Nat.le_of_ble_eq_true rfl | omega) (by first | exact Nat.le_of_ble_eq_true rfl | omega) dX8_fillField_193 ?_
                    have q165 : Frm [1600] X X164 := by rw [hX164]; exact Frm.set Frm.rf (show 1600 ∈ [1600] by first | exact nlm_in rfl | decide)
                    have hCq166 : CInv cnt X164 Y ln := cinv_frm (M := [1600]) (N := []) hCI q165 Frm.rf (by decide) (by decide)
                    have ht167o : toC X Y x g slot = z4 := by unfold toC; rw [tyo_some y1]; exact (p6.2.2.2).symm
                    have ht167l : tlC X Y x g slot = X 21 r2 z4 := by unfold tlC; rw [ht167o, tyo_some y1]
                    have htw168 : twC X Y x g slot = (X 12 g slot) := (by unfold twC bdC; rw [ht167l]; (try delta Hid at *); (repeat' split) <;> omega)
                    exact ⟨ad, cnt, X164, Y, ln, rfl, hE9 _ _ _ hE, hFx, hOw, hLn, hRX164, hFX164, Frm.rf, hCq166, by omega, (by unfold fvC; rw [ht167o, ht167l]; exact (fvF_0 (by omega) (by (try delta Hid at *); omega) (by unfold bdC andZ; (try delta Hid at *); split <;> omega)).symm), fun q => (by exfalso; omega), fun _ => Or.inr (Or.inl ⟨(by rw [ht167o]; omega), (by rw [ht167l]; (try delta Hid at *); omega), rfl, (by rw [ht167o, ht167l, htw168, if_neg (fun q9 => by omega)]; exact hX164), rfl, rfl⟩)⟩
                  · refine lv_lload hx hb dX8_fillField_158 (lv_at hl 0 rfl) ?_
                    refine lv_ldc2 (v := jL (-1)) hx hb hown (hts (.constantLong RX8 88 (-1)) (by first | exact gj_X8_fillField_0 _ (gp_4 (gp_1 gp_h)) | decide +kernel)) dX8_fillField_160 ?_
                    refine x_lcmp hx hb (by omega) (by omega) dX8_fillField_163 ?_
                    obtain ⟨z169, ez169⟩ : ∃ y : Int, y = cmpZ (X 12 g slot) (-1) := ⟨_, rfl⟩
                    rw [← ez169]
                    have gz169 : (z169 < 0 ↔ ((X 12 g slot) : Int) < (-1)) ∧ (z169 = 0 ↔ ((X 12 g slot) : Int) = (-1)) ∧ -1 ≤ z169 ∧ z169 ≤ 1 := by rw [ez169]; exact ⟨cmpZ_lt, cmpZ_eq, (cmpZ_r _ _).1, (cmpZ_r _ _).2⟩
                    clear ez169
                    refine x_if_eq (tgt := 183) hx hb (by omega) dX8_fillField_164 (by decide) (fun c170 => ?_) (fun c170 => ?_)
                    · replace c170 := cz_eqT gz169 c170
                      clear gz169
                      refine lv_aload_n hx hb dX8_fillField_183 rfl (lv_at hl 4 rfl) ?_
                      refine x_geto hx hb hf6 hw (by omega) (by omega) sl_15_1 lk193 dX8_fillField_184 ?_
                      refine lv_iload hx hb dX8_fillField_187 (lv_at hl 2 rfl) ?_
                      refine lv_lload hx hb dX8_fillField_189 (lv_at hl 0 rfl) ?_
                      refine x_last hx hb hK.1 hw hS (by omega) (by omega) ar_16 (len_E ar_16 (by first | exact Nat.ne_of_beq_eq_false rfl | decide)) (by omega) (by omega) (by omega) dX8_fillField_191 (fun H locs hw hS => ?_)
                      obtain ⟨X171, hX171⟩ : ∃ Xq, Xq = u3 X 16 x z4 (X 12 g slot) := ⟨_, rfl⟩
                      rw [← hX171] at hw
                      have hRX171 : Rng X171 := by rw [hX171]; exact rng_set hR (show (-9223372036854775808) ≤ (X 12 g slot) ∧ (X 12 g slot) ≤ 9223372036854775807 by omega)
                      have hVX171 : X171 16 x z4 = (X 12 g slot) := by rw [hX171]; exact u3_s _ _ _ _ _
                      have hFX171 : Frm [1600, 2602, 2700] X X171 := by rw [hX171]; exact Frm.set Frm.rf (show 1600 ∈ [1600, 2602, 2700] by first | exact nlm_in rfl | decide)
                      refine lv_iconst (v := jI 0) hx hb dX8_fillField_192 rfl ?_
                      rw [hQ9]
                      refine ret_i (mc := 2) (ms := 14) hx hb hr hlocks hw hS (by first | exact Nat.le_of_ble_eq_true rfl | omega) (by first | exact Nat.le_of_ble_eq_true rfl | omega) dX8_fillField_193 ?_
                      have q172 : Frm [1600] X X171 := by rw [hX171]; exact Frm.set Frm.rf (show 1600 ∈ [1600] by first | exact nlm_in rfl | decide)
                      have hCq173 : CInv cnt X171 Y ln := cinv_frm (M := [1600]) (N := []) hCI q172 Frm.rf (by decide) (by decide)
                      have ht174o : toC X Y x g slot = z4 := by unfold toC; rw [tyo_some y1]; exact (p6.2.2.2).symm
                      have ht174l : tlC X Y x g slot = X 21 r2 z4 := by unfold tlC; rw [ht174o, tyo_some y1]
                      have htw175 : twC X Y x g slot = (X 12 g slot) := (by unfold twC bdC; rw [ht174l]; (try delta Hid at *); (repeat' split) <;> omega)
                      exact ⟨ad, cnt, X171, Y, ln, rfl, hE9 _ _ _ hE, hFx, hOw, hLn, hRX171, hFX171, Frm.rf, hCq173, by omega, (by unfold fvC; rw [ht174o, ht174l]; exact (fvF_0 (by omega) (by (try delta Hid at *); omega) (by unfold bdC andZ; (try delta Hid at *); split <;> omega)).symm), fun q => (by exfalso; omega), fun _ => Or.inr (Or.inl ⟨(by rw [ht174o]; omega), (by rw [ht174l]; (try delta Hid at *); omega), rfl, (by rw [ht174o, ht174l, htw175, if_neg (fun q9 => by omega)]; exact hX171), rfl, rfl⟩)⟩
                    · replace c170 := cz_eqF gz169 c170
                      clear gz169
                      have hv9 := hv (by omega)
                      refine lv_aload_n hx hb dX8_fillField_167 rfl (lv_at hl 4 rfl) ?_
                      refine x_geto hx hb hf6 hw (by omega) (by omega) sl_15_1 lk193 dX8_fillField_168 ?_
                      refine lv_iload hx hb dX8_fillField_171 (lv_at hl 2 rfl) ?_
                      refine lv_iload hx hb dX8_fillField_173 (lv_at hl 7 rfl) ?_
                      refine x_i2l hx hb (by omega) dX8_fillField_175 ?_
                      refine lv_lload hx hb dX8_fillField_176 (lv_at hl 0 rfl) ?_
                      refine x_ladd hx hb dX8_fillField_178 ?_
                      refine x_last hx hb hK.1 hw hS (by omega) (by omega) ar_16 (len_E ar_16 (by first | exact Nat.ne_of_beq_eq_false rfl | decide)) (by omega) (by omega) (by omega) dX8_fillField_179 (fun H locs hw hS => ?_)
                      obtain ⟨X176, hX176⟩ : ∃ Xq, Xq = u3 X 16 x z4 (f + (X 12 g slot)) := ⟨_, rfl⟩
                      rw [← hX176] at hw
                      have hRX176 : Rng X176 := by rw [hX176]; exact rng_set hR (show (-9223372036854775808) ≤ (f + (X 12 g slot)) ∧ (f + (X 12 g slot)) ≤ 9223372036854775807 by omega)
                      have hVX176 : X176 16 x z4 = (f + (X 12 g slot)) := by rw [hX176]; exact u3_s _ _ _ _ _
                      have hFX176 : Frm [1600, 2602, 2700] X X176 := by rw [hX176]; exact Frm.set Frm.rf (show 1600 ∈ [1600, 2602, 2700] by first | exact nlm_in rfl | decide)
                      refine lv_goto (tgt := 192) hx hb dX8_fillField_180 (by decide) ?_
                      refine lv_iconst (v := jI 0) hx hb dX8_fillField_192 rfl ?_
                      rw [hQ9]
                      refine ret_i (mc := 2) (ms := 14) hx hb hr hlocks hw hS (by first | exact Nat.le_of_ble_eq_true rfl | omega) (by first | exact Nat.le_of_ble_eq_true rfl | omega) dX8_fillField_193 ?_
                      have q177 : Frm [1600] X X176 := by rw [hX176]; exact Frm.set Frm.rf (show 1600 ∈ [1600] by first | exact nlm_in rfl | decide)
                      have hCq178 : CInv cnt X176 Y ln := cinv_frm (M := [1600]) (N := []) hCI q177 Frm.rf (by decide) (by decide)
                      have ht179o : toC X Y x g slot = z4 := by unfold toC; rw [tyo_some y1]; exact (p6.2.2.2).symm
                      have ht179l : tlC X Y x g slot = X 21 r2 z4 := by unfold tlC; rw [ht179o, tyo_some y1]
                      have htw180 : twC X Y x g slot = X 12 g slot := (by unfold twC bdC; rw [ht179l]; (try delta Hid at *); (repeat' split) <;> omega)
                      exact ⟨ad, cnt, X176, Y, ln, rfl, hE9 _ _ _ hE, hFx, hOw, hLn, hRX176, hFX176, Frm.rf, hCq178, by omega, (by unfold fvC; rw [ht179o, ht179l]; exact (fvF_0 (by omega) (by (try delta Hid at *); omega) (by unfold bdC andZ; (try delta Hid at *); split <;> omega)).symm), fun q => (by exfalso; omega), fun _ => Or.inr (Or.inl ⟨(by rw [ht179o]; omega), (by rw [ht179l]; (try delta Hid at *); omega), rfl, (by first | (rw [ht179o, ht179l, htw180, if_pos ⟨by omega, by omega⟩]; exact hX176) | (exfalso; (try delta Hid at *); omega)), rfl, rfl⟩)⟩
              · subst ez125
                refine x_if_neF (tgt := 111) hx hb (by omega) (by decide) dX8_fillField_93 (by decide) ?_
                refine lv_iload hx hb dX8_fillField_96 (lv_at hl 8 rfl) ?_
                refine lv_iconst (v := jI 2) hx hb dX8_fillField_98 rfl ?_
                refine lv_iand hx hb dX8_fillField_99 ?_
                refine x_eqi (fun z181 hz181 ez181 => ?_)
                refine x_if_ne (tgt := 106) hx hb (by omega) dX8_fillField_100 (by decide) (fun c182 => ?_) (fun c182 => ?_)
                · refine lv_ldc2 (v := jL (-1)) hx hb hown (hts (.constantLong RX8 88 (-1)) (by first | exact gj_X8_fillField_0 _ (gp_4 (gp_1 gp_h)) | decide +kernel)) dX8_fillField_106 ?_
                  refine lv_lstore (lv' := [(8, .long (jL (-1))), (7, .int (jI (X 21 r2 z4))), (6, .int (jI z4)), (0, .ref (ad 0 0)), (1, .ref (ad 15 x)), (2, .ref (ad 7 g)), (3, .int (jI slot)), (4, .int (jI f)), (5, .int (jI rule))]) hx hb dX8_fillField_109 hl (by decide) rfl (fun ls hl => ?_)
                  refine lv_iload hx hb dX8_fillField_111 (lv_at hl 1 rfl) ?_
                  refine gos_i (run_S (As := [.int (jI (X 21 r2 z4))]) (rest := []) hx hb hml hown hts (c_X8_isRowLane l D tc base ad cnt X Y ln (X 21 r2 z4) (by omega)) (cwS 1 hts gX8_fillField_X8_isRowLane rfl rfl rfl (by first | exact hd_X8_isRowLane | decide +kernel) ⟨Nat.le_of_ble_eq_true rfl, Nat.le_of_ble_eq_true rfl⟩) hK hw rfl hl.1 rfl (Nat.le_of_ble_eq_true rfl) dX8_fillField_113 ⟨(by show _ ≤ (2 : Nat); omega), (by show _ ≤ (14 : Nat); omega)⟩) hS (fun z183 u184 H locs p185 hw hS => ?_)
                  obtain ⟨eu184, p185⟩ := p185
                  subst eu184
                  rcases p185 with ⟨ez183, p185⟩ | ⟨ez183, p185⟩
                  · subst ez183
                    refine x_if_eqF (tgt := 152) hx hb (by omega) (by decide) dX8_fillField_116 (by decide) ?_
                    refine lv_aload_n hx hb dX8_fillField_119 rfl (lv_at hl 4 rfl) ?_
                    refine x_geto hx hb hf6 hw (by omega) (by omega) sl_15_2 lk158 dX8_fillField_120 ?_
                    refine lv_iload hx hb dX8_fillField_123 (lv_at hl 2 rfl) ?_
                    refine lv_lload hx hb dX8_fillField_125 (lv_at hl 0 rfl) ?_
                    refine lv_ldc2 (v := jL (-1)) hx hb hown (hts (.constantLong RX8 88 (-1)) (by first | exact gj_X8_fillField_0 _ (gp_4 (gp_1 gp_h)) | decide +kernel)) dX8_fillField_127 ?_
                    refine x_lcmp hx hb (by omega) (by omega) dX8_fillField_130 ?_
                    obtain ⟨z186, ez186⟩ : ∃ y : Int, y = cmpZ (-1) (-1) := ⟨_, rfl⟩
                    rw [← ez186]
                    have gz186 : (z186 < 0 ↔ ((-1) : Int) < (-1)) ∧ (z186 = 0 ↔ ((-1) : Int) = (-1)) ∧ -1 ≤ z186 ∧ z186 ≤ 1 := by rw [ez186]; exact ⟨cmpZ_lt, cmpZ_eq, (cmpZ_r _ _).1, (cmpZ_r _ _).2⟩
                    clear ez186
                    refine x_if_ne (tgt := 138) hx hb (by omega) dX8_fillField_131 (by decide) (fun c187 => ?_) (fun c187 => ?_)
                    · replace c187 := cz_neT gz186 c187
                      clear gz186
                      have hv9 := hv (by omega)
                      refine lv_aload_n hx hb dX8_fillField_138 rfl (lv_at hl 3 rfl) ?_
                      refine lv_aload_n hx hb dX8_fillField_139 rfl (lv_at hl 5 rfl) ?_
                      refine lv_lload hx hb dX8_fillField_140 (lv_at hl 0 rfl) ?_
                      refine x_l2i hx hb dX8_fillField_142 ?_
                      refine lv_iload hx hb dX8_fillField_143 (lv_at hl 1 rfl) ?_
                      refine gos_r (run_V (As := [.ref (ad 7 g), .int (jI (-1)), .int (jI (X 21 r2 z4))]) (rest := [.int (jI z4), .ref (ad 17 x)]) hx hb hml hown hts (c_X8_rowPutBack l D tc base ad cnt X Y ln hR hFx hLn hCI hOw hN g (-1) (X 21 r2 z4) (by omega) (by omega) (by omega)) (cwV 3 hts gX8_fillField_X8_rowPutBack rfl rfl rfl (by first | exact hd_X8_rowPutBack | decide +kernel) ⟨Nat.le_of_ble_eq_true rfl, Nat.le_of_ble_eq_true rfl⟩) hK hw (by first | exact Int.le_refl 0 | omega) (by first | exact zlt hc0 | omega) sl_0_0 rfl rfl hl.1 rfl (Nat.le_of_ble_eq_true rfl) dX8_fillField_145 ⟨(by show _ ≤ (2 : Nat); omega), (by show _ ≤ (14 : Nat); omega)⟩) hS (fun u189 H locs p190 hw hS => ?_) (fun z188 u189 H locs p190 hw hS => ?_)
                      · obtain ⟨ad, cnt, X191, Y192, ln, eu189, hE193, hFx, hOw, hLn, hRX191, hG194, hJ195, hCIX191, p190, hrpX191⟩ := p190
                        subst eu189
                        obtain ⟨r9, e9, -⟩ := p190
                        cases e9
                      · obtain ⟨ad, cnt, X196, Y197, ln, eu189, hE198, hFx, hOw, hLn, hRX196, hG199, hJ200, hCIX196, p190, hrpX196⟩ := p190
                        subst eu189
                        have hFX196 : Frm [1600, 2602, 2700] X X196 := Frm.tr Frm.rf (Frm.mono hG199 (by first | exact nls_of rfl | decide))
                        have hHY197 : Frm [1700, 600] Y Y197 := Frm.tr Frm.rf (Frm.mono hJ200 (by first | exact nls_of rfl | decide))
                        have hz188 : 0 ≤ z188 ∧ z188 < cnt 26 := by obtain ⟨r9, e9, h1, h2⟩ := p190; cases e9; exact ⟨h1, h2⟩
                        have hE := Ext.tr hE hE198
                        have hm201 := hE198.2.1 19
                        have hm202 := hE198.2.1 25
                        have hm203 := hE198.2.1 26
                        have hN : 0 ≤ cnt 25 ∧ 0 ≤ cnt 26 := by omega
                        have ha204 := hE198.1 0 0 (by omega) (by omega)
                        have ha205 := hE198.1 15 x (by omega) (by omega)
                        have ha206 := hE198.1 7 g (by omega) (by omega)
                        have ha207 := hE198.1 17 x (by omega) (by omega)
                        have hc0 : cnt 0 = 1 := hFx.at 0 1 (by decide)
                        have hc6 : cnt 6 = 1 := hFx.at 6 1 (by decide)
                        have hc7 : cnt 7 = 6 := hFx.at 7 6 (by decide)
                        have hc10 : cnt 10 = 6 := hFx.at 10 6 (by decide)
                        have hc11 : cnt 11 = 6 := hFx.at 11 6 (by decide)
                        have hc12 : cnt 12 = 6 := hFx.at 12 6 (by decide)
                        have hc15 : cnt 15 = 30 := hFx.at 15 30 (by decide)
                        have hc16 : cnt 16 = 30 := hFx.at 16 30 (by decide)
                        have hc17 : cnt 17 = 30 := hFx.at 17 30 (by decide)
                        have hc21 : cnt 21 = cnt 19 := hFx.2.1 21 (by decide)
                        have hc27 : cnt 27 = cnt 26 := hFx.2.2
                        have hl : lv_has ls 10 [(8, .long (jL (-1))), (7, .int (jI (X 21 r2 z4))), (6, .int (jI z4)), (0, .ref (ad 0 0)), (1, .ref (ad 15 x)), (2, .ref (ad 7 g)), (3, .int (jI slot)), (4, .int (jI f)), (5, .int (jI rule))] := by rw [ha204, ha205, ha206]; exact hl
                        refine W.eq (g2 := F0 m 148 ls [.ref (ad 26 z188), .int (jI z4), .ref (ad 17 x)]) (by first | rfl | (rw [ha207]; done) | (rw [ha207]; rfl)) ?_
                        refine x_aast hx hb hK.1 hw hS (by omega) (by omega) ar_17 rfl rfl sl_26_0 (len_E ar_17 (by first | exact Nat.ne_of_beq_eq_false rfl | decide)) (by omega) (by omega) (by omega) (by omega) (by omega) dX8_fillField_148 (fun H locs hw hS => ?_)
                        obtain ⟨Y208, hY208⟩ : ∃ Yq, Yq = u3 Y197 17 x z4 (some z188) := ⟨_, rfl⟩
                        rw [← hY208] at hw
                        have hVY208 : Y208 17 x z4 = (some z188) := by rw [hY208]; exact u3_s _ _ _ _ _
                        have hHY208 : Frm [1700, 600] Y Y208 := by rw [hY208]; exact Frm.set hHY197 (show 1700 ∈ [1700, 600] by first | exact nlm_in rfl | decide)
                        refine lv_goto (tgt := 192) hx hb dX8_fillField_149 (by decide) ?_
                        refine lv_iconst (v := jI 0) hx hb dX8_fillField_192 rfl ?_
                        rw [hQ9]
                        refine ret_i (mc := 2) (ms := 14) hx hb hr hlocks hw hS (by first | exact Nat.le_of_ble_eq_true rfl | omega) (by first | exact Nat.le_of_ble_eq_true rfl | omega) dX8_fillField_193 ?_
                        have q209 : Frm [1700] Y197 Y208 := by rw [hY208]; exact Frm.set Frm.rf (show 1700 ∈ [1700] by first | exact nlm_in rfl | decide)
                        have hCq210 : CInv cnt X196 Y208 ln := cinv_frm (M := []) (N := [1700]) hCIX196 Frm.rf q209 (by decide) (by decide)
                        have ht211o : toC X Y x g slot = z4 := by unfold toC; rw [tyo_some y1]; exact (p6.2.2.2).symm
                        have ht211l : tlC X Y x g slot = X 21 r2 z4 := by unfold tlC; rw [ht211o, tyo_some y1]
                        have htw212 : twC X Y x g slot = X 12 g slot := (by unfold twC bdC; rw [ht211l]; (try delta Hid at *); (repeat' split) <;> omega)
                        exact ⟨ad, cnt, X196, Y208, ln, rfl, hE9 _ _ _ hE, hFx, hOw, hLn, hRX196, hFX196, hHY208, hCq210, by omega, (by unfold fvC; rw [ht211o, ht211l]; exact (fvF_0 (by omega) (by (try delta Hid at *); omega) (by unfold bdC andZ; (try delta Hid at *); split <;> omega)).symm), fun q => (by exfalso; omega), fun _ => Or.inr (Or.inr (Or.inr ⟨(by rw [ht211o]; omega), (by rw [ht211l]; (try delta Hid at *); omega), (by rw [htw212]; omega), (by obtain ⟨q9, q8, q7⟩ := hrpX196; exact ⟨Y197, q9, (by first | (rw [htw212, ht211l]; exact q7) | (exfalso; (try delta Hid at *); omega)), (by rw [ht211o, ← q8]; exact hY208)⟩)⟩))⟩
                    · replace c187 := cz_neF gz186 c187
                      clear gz186
                      refine lv_null hx hb dX8_fillField_134 ?_
                      refine lv_goto (tgt := 148) hx hb dX8_fillField_135 (by decide) ?_
                      refine x_aastn hx hb hK.1 hw hS (by omega) (by omega) ar_17 rfl (len_E ar_17 (by first | exact Nat.ne_of_beq_eq_false rfl | decide)) (by omega) (by omega) (by omega) dX8_fillField_148 (fun H locs hw hS => ?_)
                      obtain ⟨Y213, hY213⟩ : ∃ Yq, Yq = u3 Y 17 x z4 none := ⟨_, rfl⟩
                      rw [← hY213] at hw
                      have hVY213 : Y213 17 x z4 = none := by rw [hY213]; exact u3_s _ _ _ _ _
                      have hHY213 : Frm [1700, 600] Y Y213 := by rw [hY213]; exact Frm.set Frm.rf (show 1700 ∈ [1700, 600] by first | exact nlm_in rfl | decide)
                      refine lv_goto (tgt := 192) hx hb dX8_fillField_149 (by decide) ?_
                      refine lv_iconst (v := jI 0) hx hb dX8_fillField_192 rfl ?_
                      rw [hQ9]
                      refine ret_i (mc := 2) (ms := 14) hx hb hr hlocks hw hS (by first | exact Nat.le_of_ble_eq_true rfl | omega) (by first | exact Nat.le_of_ble_eq_true rfl | omega) dX8_fillField_193 ?_
                      have q214 : Frm [1700] Y Y213 := by rw [hY213]; exact Frm.set Frm.rf (show 1700 ∈ [1700] by first | exact nlm_in rfl | decide)
                      have hCq215 : CInv cnt X Y213 ln := cinv_frm (M := []) (N := [1700]) hCI Frm.rf q214 (by decide) (by decide)
                      have ht216o : toC X Y x g slot = z4 := by unfold toC; rw [tyo_some y1]; exact (p6.2.2.2).symm
                      have ht216l : tlC X Y x g slot = X 21 r2 z4 := by unfold tlC; rw [ht216o, tyo_some y1]
                      have htw217 : twC X Y x g slot = -1 := (by unfold twC bdC; rw [ht216l]; (try delta Hid at *); (repeat' split) <;> omega)
                      exact ⟨ad, cnt, X, Y213, ln, rfl, hE9 _ _ _ hE, hFx, hOw, hLn, hR, Frm.rf, hHY213, hCq215, by omega, (by unfold fvC; rw [ht216o, ht216l]; exact (fvF_0 (by omega) (by (try delta Hid at *); omega) (by unfold bdC andZ; (try delta Hid at *); split <;> omega)).symm), fun q => (by exfalso; omega), fun _ => Or.inr (Or.inr (Or.inl ⟨(by rw [ht216o]; omega), (by rw [ht216l]; (try delta Hid at *); omega), htw217, rfl, rfl, (by rw [ht216o]; exact hY213), rfl⟩))⟩
                  · subst ez183
                    refine x_if_eqT (tgt := 152) hx hb (by omega) (by decide) dX8_fillField_116 (by decide) ?_
                    refine lv_iload hx hb dX8_fillField_152 (lv_at hl 1 rfl) ?_
                    refine lv_iconst (v := jI 2) hx hb dX8_fillField_154 rfl ?_
                    refine x_icmp_ne (tgt := 183) hx hb (by omega) (by omega) dX8_fillField_155 (by decide) (fun c218 => ?_) (fun c218 => ?_)
                    · refine lv_aload_n hx hb dX8_fillField_183 rfl (lv_at hl 4 rfl) ?_
                      refine x_geto hx hb hf6 hw (by omega) (by omega) sl_15_1 lk193 dX8_fillField_184 ?_
                      refine lv_iload hx hb dX8_fillField_187 (lv_at hl 2 rfl) ?_
                      refine lv_lload hx hb dX8_fillField_189 (lv_at hl 0 rfl) ?_
                      refine x_last hx hb hK.1 hw hS (by omega) (by omega) ar_16 (len_E ar_16 (by first | exact Nat.ne_of_beq_eq_false rfl | decide)) (by omega) (by omega) (by omega) dX8_fillField_191 (fun H locs hw hS => ?_)
                      obtain ⟨X219, hX219⟩ : ∃ Xq, Xq = u3 X 16 x z4 (-1) := ⟨_, rfl⟩
                      rw [← hX219] at hw
                      have hRX219 : Rng X219 := by rw [hX219]; exact rng_set hR (show (-9223372036854775808) ≤ (-1) ∧ (-1) ≤ 9223372036854775807 by omega)
                      have hVX219 : X219 16 x z4 = (-1) := by rw [hX219]; exact u3_s _ _ _ _ _
                      have hFX219 : Frm [1600, 2602, 2700] X X219 := by rw [hX219]; exact Frm.set Frm.rf (show 1600 ∈ [1600, 2602, 2700] by first | exact nlm_in rfl | decide)
                      refine lv_iconst (v := jI 0) hx hb dX8_fillField_192 rfl ?_
                      rw [hQ9]
                      refine ret_i (mc := 2) (ms := 14) hx hb hr hlocks hw hS (by first | exact Nat.le_of_ble_eq_true rfl | omega) (by first | exact Nat.le_of_ble_eq_true rfl | omega) dX8_fillField_193 ?_
                      have q220 : Frm [1600] X X219 := by rw [hX219]; exact Frm.set Frm.rf (show 1600 ∈ [1600] by first | exact nlm_in rfl | decide)
                      have hCq221 : CInv cnt X219 Y ln := cinv_frm (M := [1600]) (N := []) hCI q220 Frm.rf (by decide) (by decide)
                      have ht222o : toC X Y x g slot = z4 := by unfold toC; rw [tyo_some y1]; exact (p6.2.2.2).symm
                      have ht222l : tlC X Y x g slot = X 21 r2 z4 := by unfold tlC; rw [ht222o, tyo_some y1]
                      have htw223 : twC X Y x g slot = (-1) := (by unfold twC bdC; rw [ht222l]; (try delta Hid at *); (repeat' split) <;> omega)
                      exact ⟨ad, cnt, X219, Y, ln, rfl, hE9 _ _ _ hE, hFx, hOw, hLn, hRX219, hFX219, Frm.rf, hCq221, by omega, (by unfold fvC; rw [ht222o, ht222l]; exact (fvF_0 (by omega) (by (try delta Hid at *); omega) (by unfold bdC andZ; (try delta Hid at *); split <;> omega)).symm), fun q => (by exfalso; omega), fun _ => Or.inr (Or.inl ⟨(by rw [ht222o]; omega), (by rw [ht222l]; (try delta Hid at *); omega), rfl, (by rw [ht222o, ht222l, htw223, if_neg (fun q9 => by omega)]; exact hX219), rfl, rfl⟩)⟩
                    · refine lv_lload hx hb dX8_fillField_158 (lv_at hl 0 rfl) ?_
                      refine lv_ldc2 (v := jL (-1)) hx hb hown (hts (.constantLong RX8 88 (-1)) (by first | exact gj_X8_fillField_0 _ (gp_4 (gp_1 gp_h)) | decide +kernel)) dX8_fillField_160 ?_
                      refine x_lcmp hx hb (by omega) (by omega) dX8_fillField_163 ?_
                      obtain ⟨z224, ez224⟩ : ∃ y : Int, y = cmpZ (-1) (-1) := ⟨_, rfl⟩
                      rw [← ez224]
                      have gz224 : (z224 < 0 ↔ ((-1) : Int) < (-1)) ∧ (z224 = 0 ↔ ((-1) : Int) = (-1)) ∧ -1 ≤ z224 ∧ z224 ≤ 1 := by rw [ez224]; exact ⟨cmpZ_lt, cmpZ_eq, (cmpZ_r _ _).1, (cmpZ_r _ _).2⟩
                      clear ez224
                      refine x_if_eq (tgt := 183) hx hb (by omega) dX8_fillField_164 (by decide) (fun c225 => ?_) (fun c225 => ?_)
                      · replace c225 := cz_eqT gz224 c225
                        clear gz224
                        refine lv_aload_n hx hb dX8_fillField_183 rfl (lv_at hl 4 rfl) ?_
                        refine x_geto hx hb hf6 hw (by omega) (by omega) sl_15_1 lk193 dX8_fillField_184 ?_
                        refine lv_iload hx hb dX8_fillField_187 (lv_at hl 2 rfl) ?_
                        refine lv_lload hx hb dX8_fillField_189 (lv_at hl 0 rfl) ?_
                        refine x_last hx hb hK.1 hw hS (by omega) (by omega) ar_16 (len_E ar_16 (by first | exact Nat.ne_of_beq_eq_false rfl | decide)) (by omega) (by omega) (by omega) dX8_fillField_191 (fun H locs hw hS => ?_)
                        obtain ⟨X226, hX226⟩ : ∃ Xq, Xq = u3 X 16 x z4 (-1) := ⟨_, rfl⟩
                        rw [← hX226] at hw
                        have hRX226 : Rng X226 := by rw [hX226]; exact rng_set hR (show (-9223372036854775808) ≤ (-1) ∧ (-1) ≤ 9223372036854775807 by omega)
                        have hVX226 : X226 16 x z4 = (-1) := by rw [hX226]; exact u3_s _ _ _ _ _
                        have hFX226 : Frm [1600, 2602, 2700] X X226 := by rw [hX226]; exact Frm.set Frm.rf (show 1600 ∈ [1600, 2602, 2700] by first | exact nlm_in rfl | decide)
                        refine lv_iconst (v := jI 0) hx hb dX8_fillField_192 rfl ?_
                        rw [hQ9]
                        refine ret_i (mc := 2) (ms := 14) hx hb hr hlocks hw hS (by first | exact Nat.le_of_ble_eq_true rfl | omega) (by first | exact Nat.le_of_ble_eq_true rfl | omega) dX8_fillField_193 ?_
                        have q227 : Frm [1600] X X226 := by rw [hX226]; exact Frm.set Frm.rf (show 1600 ∈ [1600] by first | exact nlm_in rfl | decide)
                        have hCq228 : CInv cnt X226 Y ln := cinv_frm (M := [1600]) (N := []) hCI q227 Frm.rf (by decide) (by decide)
                        have ht229o : toC X Y x g slot = z4 := by unfold toC; rw [tyo_some y1]; exact (p6.2.2.2).symm
                        have ht229l : tlC X Y x g slot = X 21 r2 z4 := by unfold tlC; rw [ht229o, tyo_some y1]
                        have htw230 : twC X Y x g slot = (-1) := (by unfold twC bdC; rw [ht229l]; (try delta Hid at *); (repeat' split) <;> omega)
                        exact ⟨ad, cnt, X226, Y, ln, rfl, hE9 _ _ _ hE, hFx, hOw, hLn, hRX226, hFX226, Frm.rf, hCq228, by omega, (by unfold fvC; rw [ht229o, ht229l]; exact (fvF_0 (by omega) (by (try delta Hid at *); omega) (by unfold bdC andZ; (try delta Hid at *); split <;> omega)).symm), fun q => (by exfalso; omega), fun _ => Or.inr (Or.inl ⟨(by rw [ht229o]; omega), (by rw [ht229l]; (try delta Hid at *); omega), rfl, (by rw [ht229o, ht229l, htw230, if_neg (fun q9 => by omega)]; exact hX226), rfl, rfl⟩)⟩
                      · replace c225 := cz_eqF gz224 c225
                        clear gz224
                        have hv9 := hv (by omega)
                        refine lv_aload_n hx hb dX8_fillField_167 rfl (lv_at hl 4 rfl) ?_
                        refine x_geto hx hb hf6 hw (by omega) (by omega) sl_15_1 lk193 dX8_fillField_168 ?_
                        refine lv_iload hx hb dX8_fillField_171 (lv_at hl 2 rfl) ?_
                        refine lv_iload hx hb dX8_fillField_173 (lv_at hl 7 rfl) ?_
                        refine x_i2l hx hb (by omega) dX8_fillField_175 ?_
                        refine lv_lload hx hb dX8_fillField_176 (lv_at hl 0 rfl) ?_
                        refine x_ladd hx hb dX8_fillField_178 ?_
                        refine x_last hx hb hK.1 hw hS (by omega) (by omega) ar_16 (len_E ar_16 (by first | exact Nat.ne_of_beq_eq_false rfl | decide)) (by omega) (by omega) (by omega) dX8_fillField_179 (fun H locs hw hS => ?_)
                        obtain ⟨X231, hX231⟩ : ∃ Xq, Xq = u3 X 16 x z4 (f + (-1)) := ⟨_, rfl⟩
                        rw [← hX231] at hw
                        have hRX231 : Rng X231 := by rw [hX231]; exact rng_set hR (show (-9223372036854775808) ≤ (f + (-1)) ∧ (f + (-1)) ≤ 9223372036854775807 by omega)
                        have hVX231 : X231 16 x z4 = (f + (-1)) := by rw [hX231]; exact u3_s _ _ _ _ _
                        have hFX231 : Frm [1600, 2602, 2700] X X231 := by rw [hX231]; exact Frm.set Frm.rf (show 1600 ∈ [1600, 2602, 2700] by first | exact nlm_in rfl | decide)
                        refine lv_goto (tgt := 192) hx hb dX8_fillField_180 (by decide) ?_
                        refine lv_iconst (v := jI 0) hx hb dX8_fillField_192 rfl ?_
                        rw [hQ9]
                        refine ret_i (mc := 2) (ms := 14) hx hb hr hlocks hw hS (by first | exact Nat.le_of_ble_eq_true rfl | omega) (by first | exact Nat.le_of_ble_eq_true rfl | omega) dX8_fillField_193 ?_
                        have q232 : Frm [1600] X X231 := by rw [hX231]; exact Frm.set Frm.rf (show 1600 ∈ [1600] by first | exact nlm_in rfl | decide)
                        have hCq233 : CInv cnt X231 Y ln := cinv_frm (M := [1600]) (N := []) hCI q232 Frm.rf (by decide) (by decide)
                        have ht234o : toC X Y x g slot = z4 := by unfold toC; rw [tyo_some y1]; exact (p6.2.2.2).symm
                        have ht234l : tlC X Y x g slot = X 21 r2 z4 := by unfold tlC; rw [ht234o, tyo_some y1]
                        have htw235 : twC X Y x g slot = X 12 g slot := (by unfold twC bdC; rw [ht234l]; (try delta Hid at *); (repeat' split) <;> omega)
                        exact ⟨ad, cnt, X231, Y, ln, rfl, hE9 _ _ _ hE, hFx, hOw, hLn, hRX231, hFX231, Frm.rf, hCq233, by omega, (by unfold fvC; rw [ht234o, ht234l]; exact (fvF_0 (by omega) (by (try delta Hid at *); omega) (by unfold bdC andZ; (try delta Hid at *); split <;> omega)).symm), fun q => (by exfalso; omega), fun _ => Or.inr (Or.inl ⟨(by rw [ht234o]; omega), (by rw [ht234l]; (try delta Hid at *); omega), rfl, (by first | (rw [ht234o, ht234l, htw235, if_pos ⟨by omega, by omega⟩]; exact hX231) | (exfalso; (try delta Hid at *); omega)), rfl, rfl⟩)⟩
                · refine lv_bipush (v := jI 7) hx hb dX8_fillField_103 (by decide) ?_
                  rw [hQ9]
                  refine ret_i (mc := 2) (ms := 14) hx hb hr hlocks hw hS (by first | exact Nat.le_of_ble_eq_true rfl | omega) (by first | exact Nat.le_of_ble_eq_true rfl | omega) dX8_fillField_105 ?_
                  have ht236o : toC X Y x g slot = z4 := by unfold toC; rw [tyo_some y1]; exact (p6.2.2.2).symm
                  have ht236l : tlC X Y x g slot = X 21 r2 z4 := by unfold tlC; rw [ht236o, tyo_some y1]
                  exact ⟨ad, cnt, X, Y, ln, rfl, hE9 _ _ _ hE, hFx, hOw, hLn, hR, Frm.rf, Frm.rf, hCI, by omega, (by unfold fvC; rw [ht236o, ht236l]; exact (fvF_w (by omega) (by (try delta Hid at *); omega) ⟨by omega, by omega, (by unfold bdC; (try delta Hid at *); split <;> omega), (by unfold andZ; omega)⟩).symm), fun _ => ⟨rfl, rfl, rfl, rfl⟩, fun q => (by exfalso; omega)⟩
        · subst ez12
          refine x_if_neF (tgt := 64) hx hb (by omega) (by decide) dX8_fillField_58 (by decide) ?_
          refine lv_bipush (v := jI 9) hx hb dX8_fillField_61 (by decide) ?_
          rw [hQ9]
          refine ret_i (mc := 2) (ms := 14) hx hb hr hlocks hw hS (by first | exact Nat.le_of_ble_eq_true rfl | omega) (by first | exact Nat.le_of_ble_eq_true rfl | omega) dX8_fillField_63 ?_
          have ht237o : toC X Y x g slot = z4 := by unfold toC; rw [tyo_some y1]; exact (p6.2.2.2).symm
          have ht237l : tlC X Y x g slot = X 21 r2 z4 := by unfold tlC; rw [ht237o, tyo_some y1]
          exact ⟨ad, cnt, X, Y, ln, rfl, hE9 _ _ _ hE, hFx, hOw, hLn, hR, Frm.rf, Frm.rf, hCI, by omega, (by unfold fvC; rw [ht237o, ht237l]; exact (fvF_l (by omega) (by (try delta Hid at *); omega)).symm), fun _ => ⟨rfl, rfl, rfl, rfl⟩, fun q => (by exfalso; omega)⟩
    · refine lv_iload hx hb dX8_fillField_21 (lv_at hl 6 rfl) ?_
      refine lv_iconst (v := jI 1) hx hb dX8_fillField_23 rfl ?_
      refine lv_iand hx hb dX8_fillField_24 ?_
      refine x_eqi (fun z238 hz238 ez238 => ?_)
      refine x_if_eq (tgt := 32) hx hb (by omega) dX8_fillField_25 (by decide) (fun c239 => ?_) (fun c239 => ?_)
      · refine lv_bipush (v := jI 8) hx hb dX8_fillField_32 (by decide) ?_
        rw [hQ9]
        refine ret_i (mc := 2) (ms := 14) hx hb hr hlocks hw hS (by first | exact Nat.le_of_ble_eq_true rfl | omega) (by first | exact Nat.le_of_ble_eq_true rfl | omega) dX8_fillField_34 ?_
        have ht240o : toC X Y x g slot = z4 := by unfold toC; rw [tyo_some y1]; exact (p6.2.2.2).symm
        have ht240l : tlC X Y x g slot = X 21 r2 z4 := by unfold tlC; rw [ht240o, tyo_some y1]
        exact ⟨ad, cnt, X, Y, ln, rfl, hE9 _ _ _ hE, hFx, hOw, hLn, hR, Frm.rf, Frm.rf, hCI, by omega, (by unfold fvC; rw [ht240o, ht240l]; exact (fvF_g (by omega) (by unfold andZ; omega)).symm), fun _ => ⟨rfl, rfl, rfl, rfl⟩, fun q => (by exfalso; omega)⟩
      · refine lv_iconst (v := jI 0) hx hb dX8_fillField_28 rfl ?_
        refine lv_goto (tgt := 34) hx hb dX8_fillField_29 (by decide) ?_
        rw [hQ9]
        refine ret_i (mc := 2) (ms := 14) hx hb hr hlocks hw hS (by first | exact Nat.le_of_ble_eq_true rfl | omega) (by first | exact Nat.le_of_ble_eq_true rfl | omega) dX8_fillField_34 ?_
        have ht241o : toC X Y x g slot = z4 := by unfold toC; rw [tyo_some y1]; exact (p6.2.2.2).symm
        have ht241l : tlC X Y x g slot = X 21 r2 z4 := by unfold tlC; rw [ht241o, tyo_some y1]
        exact ⟨ad, cnt, X, Y, ln, rfl, hE9 _ _ _ hE, hFx, hOw, hLn, hR, Frm.rf, Frm.rf, hCI, by omega, (by unfold fvC; rw [ht241o, ht241l]; exact (fvF_g0 (by omega) (by unfold andZ; omega)).symm), fun q => (by exfalso; omega), fun _ => Or.inl ⟨(by rw [ht241o]; omega), rfl, rfl, rfl, rfl⟩⟩
end
section
set_option maxHeartbeats 4000000 in
set_option maxRecDepth 100000 in
theorem c_X8_fillThings (l : Launch) (D : va_G) (tc : Nat → ClassId) (base : Nat) (ad : Nat → Int → Nat) (cnt : Nat → Int) (X : Nat → Int → Int → Int) (Y : Nat → Int → Int → Option Int) (ln : Int → Int) (hR : Rng X) (hFx : Fx cnt) (hLn : LnOK ln) (hCI : CInv cnt X Y ln) (hOw : Own cnt) (hN : 0 ≤ cnt 25 ∧ 0 ≤ cnt 26) (g f rule : Int) (hg : 0 ≤ g ∧ g < 6) (hf : 0 ≤ f ∧ f + X 7 g 0 ≤ X 0 0 3) (hrule : -2147483648 ≤ rule ∧ rule ≤ 2147483647) (hRv : cRv X) : KI l D tc base yX8_fillThings wsX8_fillThings ({ frames := 5, cells := 300, slots := 2100, locals := 109 } : Room) [.ref (ad 0 0), .ref (ad 7 g), .int (jI f), .int (jI rule)] (ad, cnt, X, Y, ln) 300 2100 (fun z u => ∃ (ad1 : Nat → Int → Nat) (cnt1 : Nat → Int) (X1 : Nat → Int → Int → Int) (Y1 : Nat → Int → Int → Option Int) (ln1 : Int → Int), u = (ad1, cnt1, X1, Y1, ln1) ∧ Ext ad cnt ln ad1 cnt1 ln1 ∧ Fx cnt1 ∧ Own cnt1 ∧ LnOK ln1 ∧ Rng X1 ∧ Frm [1600, 2602, 2700, 3201, 3202, 3203, 3204] X X1 ∧ Frm [1700, 600] Y Y1 ∧ CInv cnt1 X1 Y1 ln1 ∧ (0 ≤ z ∧ z ≤ 10) ∧ ∃ Yz : Nat → Int → Int → Option Int, Frm [600] Y Yz ∧ (∀ j, 0 ≤ j → j < 3 * X 7 g 6 → Yz 6 0 j = none) ∧ ((z = 0 ∧ rTrC g f rule (X 7 g 0).toNat (cnt 26) X Yz ln (cnt1 26) X1 Y1 ln1) ∨ (z ≠ 0 ∧ ∃ (r k cA cP : Int) (XA XP : Nat → Int → Int → Int) (YA YP : Nat → Int → Int → Option Int) (lA lP : Int → Int), 0 ≤ r ∧ r < X 7 g 0 ∧ 0 ≤ k ∧ k < X 9 g r ∧ rTrC g f rule r.toNat (cnt 26) X Yz ln cA XA YA lA ∧ fTrC g r f rule k.toNat cA XA YA lA cP XP YP lP ∧ fvC XP YP (f + r) g (5 * r + k) rule = z ∧ cnt1 26 = cP ∧ Y1 = YP ∧ ln1 = lP ∧ Frm [3201, 3202, 3203, 3204] XP X1))) := by
  refine K_of (cc := cX8_fillThings) (maxL := 8) (ret := (some .int)) (by decide) rfl (Nat.le_of_ble_eq_true rfl) ?_
  intro p e s m below meth c ls hx hb hr hml hown hts hlocks hl hK hw hS
  have hown : s.vm.findClass RX8 = some m.cls := hown
  have hbs : base ≤ s.heap.size := wd_size hw
  obtain ⟨av9, hav9⟩ : ∃ a9 : Array Value, a9 = ([.ref (ad 0 0), .ref (ad 7 g), .int (jI f), .int (jI rule)] : List Value).toArray := ⟨_, rfl⟩
  rw [← hav9] at hts ⊢
  obtain ⟨Q9, hQ9⟩ : ∃ q9Q : State → Prop, q9Q = MQ below (QI D tc base (fun z u => ∃ (ad1 : Nat → Int → Nat) (cnt1 : Nat → Int) (X1 : Nat → Int → Int → Int) (Y1 : Nat → Int → Int → Option Int) (ln1 : Int → Int), u = (ad1, cnt1, X1, Y1, ln1) ∧ Ext ad cnt ln ad1 cnt1 ln1 ∧ Fx cnt1 ∧ Own cnt1 ∧ LnOK ln1 ∧ Rng X1 ∧ Frm [1600, 2602, 2700, 3201, 3202, 3203, 3204] X X1 ∧ Frm [1700, 600] Y Y1 ∧ CInv cnt1 X1 Y1 ln1 ∧ (0 ≤ z ∧ z ≤ 10) ∧ ∃ Yz : Nat → Int → Int → Option Int, Frm [600] Y Yz ∧ (∀ j, 0 ≤ j → j < 3 * X 7 g 6 → Yz 6 0 j = none) ∧ ((z = 0 ∧ rTrC g f rule (X 7 g 0).toNat (cnt 26) X Yz ln (cnt1 26) X1 Y1 ln1) ∨ (z ≠ 0 ∧ ∃ (r k cA cP : Int) (XA XP : Nat → Int → Int → Int) (YA YP : Nat → Int → Int → Option Int) (lA lP : Int → Int), 0 ≤ r ∧ r < X 7 g 0 ∧ 0 ≤ k ∧ k < X 9 g r ∧ rTrC g f rule r.toNat (cnt 26) X Yz ln cA XA YA lA ∧ fTrC g r f rule k.toNat cA XA YA lA cP XP YP lP ∧ fvC XP YP (f + r) g (5 * r + k) rule = z ∧ cnt1 26 = cP ∧ Y1 = YP ∧ ln1 = lP ∧ Frm [3201, 3202, 3203, 3204] XP X1)))) av9 s 300 2100 (frA base) := ⟨_, rfl⟩
  rw [← hQ9]
  obtain ⟨ad0, ha0⟩ : ∃ a, a = ad := ⟨_, rfl⟩
  obtain ⟨cnt0, hc0⟩ : ∃ a, a = cnt := ⟨_, rfl⟩
  obtain ⟨ln0, hl0⟩ : ∃ a, a = ln := ⟨_, rfl⟩
  have hE9 : ∀ a c n, Ext ad0 cnt0 ln0 a c n → Ext ad cnt ln a c n := by rw [ha0, hc0, hl0]; exact fun _ _ _ h => h
  have hE : Ext ad0 cnt0 ln0 ad cnt ln := by rw [ha0, hc0, hl0]; exact Ext.rf
  clear ha0 hc0 hl0
  have hi4 : ∀ w ∈ wsX40, w ∈ wsX8_fillThings := fun w h => List.mem_cons_of_mem _ (List.mem_append_left _ (List.mem_append_left _ (List.mem_append_left _ (List.mem_append_left _ (List.mem_append_left _ (List.mem_append_right _ h))))))
  have hf4 : fctx s m _ RX8 wsX8_fillThings D tc RX4 TX4 9 4 := ⟨hts, hi4, hown, hK.1, rfl⟩
  have hi8 : ∀ w ∈ wsX80, w ∈ wsX8_fillThings := fun w h => List.mem_cons_of_mem _ (List.mem_append_left _ (List.mem_append_left _ (List.mem_append_left _ (List.mem_append_left _ (List.mem_append_right _ h)))))
  have hf8 : fctx s m _ RX8 wsX8_fillThings D tc RX8 TX8 12 8 := ⟨hts, hi8, hown, hK.1, rfl⟩
  have lk17 := hts (.fieldLink RX8 17 (TX8 2).1 (TX8 2).2.1 (TX8 2).2.2.1) (gj_X8_fillThings_0 _ (gp_4 gp_h))
  have lk44 := hts (.fieldLink RX8 44 (TX8 9).1 (TX8 9).2.1 (TX8 9).2.2.1) (gj_X8_fillThings_0 _ (gp_1 gp_h))
  have lk58 := hts (.fieldLink RX8 58 (TX8 11).1 (TX8 11).2.1 (TX8 11).2.2.1) (gj_X8_fillThings_0 _ (gp_4 (gp_1 gp_h)))
  have lk224 := hts (.fieldLink RX8 224 (TX4 3).1 (TX4 3).2.1 (TX4 3).2.2.1) (gj_X8_fillThings_0 _ (gp_4 (gp_1 (gp_1 gp_h))))
  have lk231 := hts (.fieldLink RX8 231 (TX4 0).1 (TX4 0).2.1 (TX4 0).2.2.1) (gj_X8_fillThings_0 _ (gp_1 (gp_1 gp_h)))
  have lk234 := hts (.fieldLink RX8 234 (TX4 6).1 (TX4 6).2.1 (TX4 6).2.2.1) (gj_X8_fillThings_0 _ (gp_h))
  have lk338 := hts (.fieldLink RX8 338 (TX4 2).1 (TX4 2).2.1 (TX4 2).2.2.1) (gj_X8_fillThings_0 _ (gp_1 (gp_1 (gp_1 gp_h))))
  have hc0 : cnt 0 = 1 := hFx.at 0 1 (by decide)
  have hc2 : cnt 2 = 1 := hFx.at 2 1 (by decide)
  have hc6 : cnt 6 = 1 := hFx.at 6 1 (by decide)
  have hc7 : cnt 7 = 6 := hFx.at 7 6 (by decide)
  have hc9 : cnt 9 = 6 := hFx.at 9 6 (by decide)
  have hc10 : cnt 10 = 6 := hFx.at 10 6 (by decide)
  have hc15 : cnt 15 = 30 := hFx.at 15 30 (by decide)
  have hc16 : cnt 16 = 30 := hFx.at 16 30 (by decide)
  have hc17 : cnt 17 = 30 := hFx.at 17 30 (by decide)
  have hc27 : cnt 27 = cnt 26 := hFx.2.2
  have hc32 : cnt 32 = 1 := hFx.at 32 1 (by decide)
  have hl : lv_has ls 8 [(0, .ref (ad 0 0)), (1, .ref (ad 7 g)), (2, .int (jI f)), (3, .int (jI rule))] := hl
  have ftc : 0 ≤ X 0 0 3 ∧ X 0 0 3 ≤ 30 := hR 0 0 3
  have fty : 0 ≤ X 0 0 1 ∧ X 0 0 1 ≤ 8 := hR 0 0 1
  have hct : cnt 19 = X 0 0 1 := hCI.2.2.2.1.1
  have hfj : 0 ≤ X 29 0 3 ∧ X 29 0 3 ≤ 4 := hR 29 0 3
  have hfn : 0 ≤ X 29 0 1 ∧ X 29 0 1 ≤ 80 := hR 29 0 1
  have frc : 0 ≤ X 7 g 0 ∧ X 7 g 0 ≤ 30 := hR 7 g 0
  have frw : 0 ≤ X 7 g 6 ∧ X 7 g 6 ≤ 150 := hR 7 g 6
  refine lv_iconst (v := jI 0) hx hb dX8_fillThings_0 rfl ?_
  refine lv_istore (lv' := [(4, .int (jI 0)), (0, .ref (ad 0 0)), (1, .ref (ad 7 g)), (2, .int (jI f)), (3, .int (jI rule))]) hx hb dX8_fillThings_1 hl (by decide) rfl (fun ls hl => ?_)
  have lp3 : ∀ (nn : Nat) (j : Int) (Yz : Nat → Int → Int → Option Int) (H : Heap) (locs : List Loc) (ls : Array Slot), (450 - j) < (nn : Int) → (Frm [600] Y Yz) → (0 ≤ j ∧ j ≤ 450) → (∀ j9, 0 ≤ j9 → j9 < j → Yz 6 0 j9 = none) → wd D tc base (ad, cnt, X, Yz, ln) H → va_S (frA base) s.heap H locs → lv_has ls 8 [(0, .ref (ad 0 0)), (1, .ref (ad 7 g)), (2, .int (jI f)), (3, .int (jI rule)), (4, .int (jI j))] → W p l e ({ frames := 5, cells := 300, slots := 2100, locals := 109 } : Room) s m av9 below meth c H locs 0 0 Q9 (F0 m 3 ls []) := by
    intro nn
    induction nn with
    | zero => intro j Yz H locs ls hm hGYz hj hnul hw hS hl; exfalso; omega
    | succ nn ih3 =>
      intro j Yz H locs ls hm hGYz hj hnul hw hS hl
      have hHYz : Frm [1700, 600] Y Yz := Frm.tr Frm.rf (Frm.mono hGYz (by first | exact nls_of rfl | decide))
      refine lv_iload hx hb dX8_fillThings_3 (lv_at hl 4 rfl) ?_
      refine lv_aload_n hx hb dX8_fillThings_5 rfl (lv_at hl 1 rfl) ?_
      refine x_geti (jz := 6) hx hb hf4 hw (by omega) (by omega) sl_7_6 rfl lk234 dX8_fillThings_6 ?_
      have f1 : 0 ≤ X 7 g 6 ∧ X 7 g 6 ≤ 150 := hR 7 g 6
      refine lv_iconst (v := jI 3) hx hb dX8_fillThings_9 rfl ?_
      refine x_imul hx hb dX8_fillThings_10 ?_
      refine x_icmp_ge (tgt := 28) hx hb (by omega) (by omega) dX8_fillThings_11 (by decide) (fun c2 => ?_) (fun c2 => ?_)
      · obtain ⟨cB, hcB⟩ : ∃ q : Int, q = cnt 26 := ⟨_, rfl⟩
        obtain ⟨lnB, hlB⟩ : ∃ q : Int → Int, q = ln := ⟨_, rfl⟩
        refine lv_iconst (v := jI 0) hx hb dX8_fillThings_28 rfl ?_
        refine lv_istore (lv' := [(4, .int (jI 0)), (0, .ref (ad 0 0)), (1, .ref (ad 7 g)), (2, .int (jI f)), (3, .int (jI rule))]) hx hb dX8_fillThings_29 hl (by decide) rfl (fun ls hl => ?_)
        have lp31 : ∀ (nn : Nat) (r : Int) (Xa : Nat → Int → Int → Int) (Ya : Nat → Int → Int → Option Int) (ad : Nat → Int → Nat) (cnt : Nat → Int) (ln : Int → Int) (cl sl : Nat) (H : Heap) (locs : List Loc) (ls : Array Slot), (30 - r) < (nn : Int) → (Rng Xa) → (Frm [1600, 2602, 2700] X Xa) → (Frm [1700, 600] Yz Ya) → (Ext ad0 cnt0 ln0 ad cnt ln) → (Fx cnt) → (Own cnt) → (LnOK ln) → (0 ≤ cnt 25 ∧ 0 ≤ cnt 26) → (0 ≤ r ∧ r ≤ 30) → ((cl : Int) ≤ 10 * r ∧ (sl : Int) ≤ 70 * r) → (CInv cnt Xa Ya ln) → (r ≤ X 7 g 0) → (rTrC g f rule r.toNat cB X Yz lnB (cnt 26) Xa Ya ln) → wd D tc base (ad, cnt, Xa, Ya, ln) H → va_S (frA base) s.heap H locs → lv_has ls 8 [(0, .ref (ad 0 0)), (1, .ref (ad 7 g)), (2, .int (jI f)), (3, .int (jI rule)), (4, .int (jI r))] → W p l e ({ frames := 5, cells := 300, slots := 2100, locals := 109 } : Room) s m av9 below meth c H locs cl sl Q9 (F0 m 31 ls []) := by
          intro nn
          induction nn with
          | zero => intro r Xa Ya ad cnt ln cl sl H locs ls hm hRXa hGXa hGYa hE hFx hOw hLn hN hr0 hcl hCIXa hrf hTr hw hS hl; exfalso; omega
          | succ nn ih31 =>
            intro r Xa Ya ad cnt ln cl sl H locs ls hm hRXa hGXa hGYa hE hFx hOw hLn hN hr0 hcl hCIXa hrf hTr hw hS hl
            have hc0 : cnt 0 = 1 := hFx.at 0 1 (by decide)
            have hc2 : cnt 2 = 1 := hFx.at 2 1 (by decide)
            have hc6 : cnt 6 = 1 := hFx.at 6 1 (by decide)
            have hc7 : cnt 7 = 6 := hFx.at 7 6 (by decide)
            have hc9 : cnt 9 = 6 := hFx.at 9 6 (by decide)
            have hc10 : cnt 10 = 6 := hFx.at 10 6 (by decide)
            have hc15 : cnt 15 = 30 := hFx.at 15 30 (by decide)
            have hc16 : cnt 16 = 30 := hFx.at 16 30 (by decide)
            have hc17 : cnt 17 = 30 := hFx.at 17 30 (by decide)
            have hc27 : cnt 27 = cnt 26 := hFx.2.2
            have hc32 : cnt 32 = 1 := hFx.at 32 1 (by decide)
            have hHYa : Frm [1700, 600] Y Ya := Frm.tr hHYz (Frm.mono hGYa (by first | exact nls_of rfl | decide))
            have hFXa : Frm [1600, 2602, 2700, 3201, 3202, 3203, 3204] X Xa := Frm.tr Frm.rf (Frm.mono hGXa (by first | exact nls_of rfl | decide))
            obtain ⟨cA, hcA⟩ : ∃ q : Int, q = cnt 26 := ⟨_, rfl⟩
            obtain ⟨lnA, hlA⟩ : ∃ q : Int → Int, q = ln := ⟨_, rfl⟩
            have hTr9 : rTrC g f rule r.toNat cB X Yz lnB cA Xa Ya lnA := by rw [hcA, hlA]; exact hTr
            refine lv_iload hx hb dX8_fillThings_31 (lv_at hl 4 rfl) ?_
            refine lv_aload_n hx hb dX8_fillThings_33 rfl (lv_at hl 1 rfl) ?_
            refine x_geti (jz := 0) hx hb hf4 hw (by omega) (by omega) sl_7_0 rfl lk231 dX8_fillThings_34 ?_
            have e3 : Xa 7 g 0 = X 7 g 0 := by rw [hGXa 7 g 0 (show 701 ∉ [1600, 2602, 2700] by first | exact nlm_ni rfl | decide)]
            rw [e3]
            have f4 : 0 ≤ X 7 g 0 ∧ X 7 g 0 ≤ 30 := hR 7 g 0
            refine x_icmp_ge (tgt := 121) hx hb (by omega) (by omega) dX8_fillThings_37 (by decide) (fun c5 => ?_) (fun c5 => ?_)
            · refine lv_iconst (v := jI 0) hx hb dX8_fillThings_121 rfl ?_
              rw [hQ9]
              refine ret_i (mc := 300) (ms := 2100) hx hb hr hlocks hw hS (by first | exact Nat.le_of_ble_eq_true rfl | omega) (by first | exact Nat.le_of_ble_eq_true rfl | omega) dX8_fillThings_122 ?_
              exact ⟨ad, cnt, Xa, Ya, ln, rfl, hE9 _ _ _ hE, hFx, hOw, hLn, hRXa, hFXa, hHYa, hCIXa, by omega, ⟨Yz, hGYz, (fun j9 a b => hnul j9 a (by omega)), Or.inl ⟨rfl, (by rw [← hcB, ← hlB, show X 7 g 0 = r by omega]; exact hTr)⟩⟩⟩
            · refine lv_iconst (v := jI 0) hx hb dX8_fillThings_40 rfl ?_
              refine lv_istore (lv' := [(5, .int (jI 0)), (0, .ref (ad 0 0)), (1, .ref (ad 7 g)), (2, .int (jI f)), (3, .int (jI rule)), (4, .int (jI r))]) hx hb dX8_fillThings_41 hl (by decide) rfl (fun ls hl => ?_)
              have lp43 : ∀ (nn : Nat) (k : Int) (Xb : Nat → Int → Int → Int) (Yb : Nat → Int → Int → Option Int) (ad : Nat → Int → Nat) (cnt : Nat → Int) (ln : Int → Int) (cl sl : Nat) (H : Heap) (locs : List Loc) (ls : Array Slot), (5 - k) < (nn : Int) → (Rng Xb) → (Frm [1600, 2602, 2700] Xa Xb) → (Frm [1700, 600] Ya Yb) → (Ext ad0 cnt0 ln0 ad cnt ln) → (Fx cnt) → (Own cnt) → (LnOK ln) → (0 ≤ cnt 25 ∧ 0 ≤ cnt 26) → (0 ≤ k ∧ k ≤ 5) → ((cl : Int) ≤ 10 * r + 2 * k ∧ (sl : Int) ≤ 70 * r + 14 * k) → (CInv cnt Xb Yb ln) → (k ≤ X 9 g r) → (fTrC g r f rule k.toNat cA Xa Ya lnA (cnt 26) Xb Yb ln) → wd D tc base (ad, cnt, Xb, Yb, ln) H → va_S (frA base) s.heap H locs → lv_has ls 8 [(0, .ref (ad 0 0)), (1, .ref (ad 7 g)), (2, .int (jI f)), (3, .int (jI rule)), (4, .int (jI r)), (5, .int (jI k))] → W p l e ({ frames := 5, cells := 300, slots := 2100, locals := 109 } : Room) s m av9 below meth c H locs cl sl Q9 (F0 m 43 ls []) := by
                intro nn
                induction nn with
                | zero => intro k Xb Yb ad cnt ln cl sl H locs ls hm hRXb hGXb hGYb hE hFx hOw hLn hN hk hcl hCIXb hkf hTk hw hS hl; exfalso; omega
                | succ nn ih43 =>
                  intro k Xb Yb ad cnt ln cl sl H locs ls hm hRXb hGXb hGYb hE hFx hOw hLn hN hk hcl hCIXb hkf hTk hw hS hl
                  have hc0 : cnt 0 = 1 := hFx.at 0 1 (by decide)
                  have hc2 : cnt 2 = 1 := hFx.at 2 1 (by decide)
                  have hc6 : cnt 6 = 1 := hFx.at 6 1 (by decide)
                  have hc7 : cnt 7 = 6 := hFx.at 7 6 (by decide)
                  have hc9 : cnt 9 = 6 := hFx.at 9 6 (by decide)
                  have hc10 : cnt 10 = 6 := hFx.at 10 6 (by decide)
                  have hc15 : cnt 15 = 30 := hFx.at 15 30 (by decide)
                  have hc16 : cnt 16 = 30 := hFx.at 16 30 (by decide)
                  have hc17 : cnt 17 = 30 := hFx.at 17 30 (by decide)
                  have hc27 : cnt 27 = cnt 26 := hFx.2.2
                  have hc32 : cnt 32 = 1 := hFx.at 32 1 (by decide)
                  have hHYb : Frm [1700, 600] Y Yb := Frm.tr hHYa (Frm.mono hGYb (by first | exact nls_of rfl | decide))
                  have hFXb : Frm [1600, 2602, 2700, 3201, 3202, 3203, 3204] X Xb := Frm.tr hFXa (Frm.mono hGXb (by first | exact nls_of rfl | decide))
                  refine lv_iload hx hb dX8_fillThings_43 (lv_at hl 5 rfl) ?_
                  refine lv_aload_n hx hb dX8_fillThings_45 rfl (lv_at hl 1 rfl) ?_
                  refine x_geto hx hb hf4 hw (by omega) (by omega) sl_7_2 lk338 dX8_fillThings_46 ?_
                  refine lv_iload hx hb dX8_fillThings_49 (lv_at hl 4 rfl) ?_
                  refine x_iald hx hb hK.1 hw (by omega) (by omega) ar_9 (len_E ar_9 (by first | exact Nat.ne_of_beq_eq_false rfl | decide)) (by omega) (by omega) (by omega) dX8_fillThings_51 ?_
                  have e6 : ∀ p9 q9 : Int, Xb 9 p9 q9 = X 9 p9 q9 := fun p9 q9 => by rw [hGXb 9 p9 q9 (show 900 ∉ [1600, 2602, 2700] by first | exact nlm_ni rfl | decide), hGXa 9 p9 q9 (show 900 ∉ [1600, 2602, 2700] by first | exact nlm_ni rfl | decide)]
                  rw [e6 g r]
                  have f7 : 0 ≤ X 9 g r ∧ X 9 g r ≤ 5 := hR 9 g r
                  refine x_icmp_ge (tgt := 115) hx hb (by omega) (by omega) dX8_fillThings_52 (by decide) (fun c8 => ?_) (fun c8 => ?_)
                  · refine lv_iinc (v := jI (r + 1)) (lv' := [(4, .int (jI (r + 1))), (0, .ref (ad 0 0)), (1, .ref (ad 7 g)), (2, .int (jI f)), (3, .int (jI rule)), (5, .int (jI k))]) hx hb dX8_fillThings_115 hl (k := 4) rfl (jI_add _ _) (by decide) rfl (fun ls hl => ?_)
                    refine lv_goto (tgt := 31) hx hb dX8_fillThings_118 (by decide) ?_
                    have q9 : Frm [1600, 2602, 2700] X Xa := Frm.tr Frm.rf (Frm.mono hGXa (by first | exact nls_of rfl | decide))
                    have q10 : Frm [1600, 2602, 2700] X Xb := Frm.tr q9 (Frm.mono hGXb (by first | exact nls_of rfl | decide))
                    have q11 : Frm [1700, 600] Yz Ya := Frm.tr Frm.rf (Frm.mono hGYa (by first | exact nls_of rfl | decide))
                    have q12 : Frm [1700, 600] Yz Yb := Frm.tr q11 (Frm.mono hGYb (by first | exact nls_of rfl | decide))
                    exact ih31 (r + 1) Xb Yb ad cnt ln _ _ _ _ _ (by omega) hRXb q10 q12 (hE) (hFx) (hOw) (hLn) (hN) (by omega) (by omega) (hCIXb) (by omega) ((rTrC.push (c1 := cA) (ln1 := lnA) hTr9 (by omega) (by rw [show Xa 9 g r = X 9 g r from (by rw [hGXa 9 g r (show 900 ∉ [1600, 2602, 2700] by first | exact nlm_ni rfl | decide)]), show X 9 g r = k by omega]; exact hTk))) hw hS (lv_sub hl [1, 2, 3, 4, 0] rfl)
                  · refine lv_iload hx hb dX8_fillThings_55 (lv_at hl 4 rfl) ?_
                    refine lv_iconst (v := jI 5) hx hb dX8_fillThings_57 rfl ?_
                    refine x_imul hx hb dX8_fillThings_58 ?_
                    refine lv_iload hx hb dX8_fillThings_59 (lv_at hl 5 rfl) ?_
                    refine x_iadd hx hb dX8_fillThings_61 ?_
                    refine lv_istore (lv' := [(6, .int (jI ((r * 5) + k))), (0, .ref (ad 0 0)), (1, .ref (ad 7 g)), (2, .int (jI f)), (3, .int (jI rule)), (4, .int (jI r)), (5, .int (jI k))]) hx hb dX8_fillThings_62 hl (by decide) rfl (fun ls hl => ?_)
                    have hv9 := hRv g ((r * 5) + k) (by omega) (by omega) (by omega) (by omega)
                    refine lv_aload_n hx hb dX8_fillThings_64 rfl (lv_at hl 1 rfl) ?_
                    refine lv_aload_n hx hb dX8_fillThings_65 rfl (lv_at hl 1 rfl) ?_
                    refine x_geto hx hb hf8 hw (by first | exact Int.le_refl 0 | omega) (by first | exact zlt hc0 | omega) sl_0_2 lk17 dX8_fillThings_66 ?_
                    refine lv_iload_n hx hb dX8_fillThings_69 rfl (lv_at hl 3 rfl) ?_
                    refine lv_iload hx hb dX8_fillThings_70 (lv_at hl 5 rfl) ?_
                    refine x_iadd hx hb dX8_fillThings_72 ?_
                    refine x_aald hx hb hK.1 hw (by first | exact Int.le_refl 0 | omega) (by first | exact zlt hc2 | omega) ar_2 rfl (len_E ar_2 (by first | exact Nat.ne_of_beq_eq_false rfl | decide)) (by omega) (by omega) (by omega) dX8_fillThings_73 (fun y13 => ?_) (fun r14 y13 gr14 lr14 => ?_)
                    · exfalso
                      have e15 : ∀ p9 q9 : Int, Yb 2 p9 q9 = Y 2 p9 q9 := fun p9 q9 => by rw [hGYb 2 p9 q9 (show 200 ∉ [1700, 600] by first | exact nlm_ni rfl | decide), hGYa 2 p9 q9 (show 200 ∉ [1700, 600] by first | exact nlm_ni rfl | decide), hGYz 2 p9 q9 (show 200 ∉ [600] by first | exact nlm_ni rfl | decide)]
                      rw [e15] at y13
                      have h9 := hCI.1 (f + r) (by omega) (by omega); rw [h9] at y13; cases y13
                    · have e16 : ∀ p9 q9 : Int, Yb 2 p9 q9 = Y 2 p9 q9 := fun p9 q9 => by rw [hGYb 2 p9 q9 (show 200 ∉ [1700, 600] by first | exact nlm_ni rfl | decide), hGYa 2 p9 q9 (show 200 ∉ [1700, 600] by first | exact nlm_ni rfl | decide), hGYz 2 p9 q9 (show 200 ∉ [600] by first | exact nlm_ni rfl | decide)]
                      rw [e16] at y13
                      have er14 : r14 = (f + r) := by have h9 := hCI.1 (f + r) (by omega) (by omega); rw [h9] at y13; cases y13; rfl
                      rw [er14]
                      refine lv_aload_n hx hb dX8_fillThings_74 rfl (lv_at hl 2 rfl) ?_
                      refine lv_iload hx hb dX8_fillThings_75 (lv_at hl 0 rfl) ?_
                      refine lv_iload_n hx hb dX8_fillThings_77 rfl (lv_at hl 3 rfl) ?_
                      refine lv_iload_n hx hb dX8_fillThings_78 rfl (lv_at hl 4 rfl) ?_
                      have e17 : ∀ p9 q9 : Int, Xb 11 p9 q9 = X 11 p9 q9 := fun p9 q9 => by rw [hGXb 11 p9 q9 (show 1100 ∉ [1600, 2602, 2700] by first | exact nlm_ni rfl | decide), hGXa 11 p9 q9 (show 1100 ∉ [1600, 2602, 2700] by first | exact nlm_ni rfl | decide)]
                      have e18 : ∀ p9 q9 : Int, Xb 12 p9 q9 = X 12 p9 q9 := fun p9 q9 => by rw [hGXb 12 p9 q9 (show 1200 ∉ [1600, 2602, 2700] by first | exact nlm_ni rfl | decide), hGXa 12 p9 q9 (show 1200 ∉ [1600, 2602, 2700] by first | exact nlm_ni rfl | decide)]
                      have e19 : Xb 0 0 3 = X 0 0 3 := by rw [hGXb 0 0 3 (show 4 ∉ [1600, 2602, 2700] by first | exact nlm_ni rfl | decide), hGXa 0 0 3 (show 4 ∉ [1600, 2602, 2700] by first | exact nlm_ni rfl | decide)]
                      refine gos_i (run_V (As := [.ref (ad 15 (f + r)), .ref (ad 7 g), .int (jI ((r * 5) + k)), .int (jI f), .int (jI rule)]) (rest := []) hx hb hml hown hts (c_X8_fillField l D tc base ad cnt Xb Yb ln hRXb hFx hLn hCIXb hOw hN (f + r) g ((r * 5) + k) f rule (by omega) (by simp only [e19]; omega) (by omega) (by omega) (by omega) (by omega) (by rw [e17, e18]; exact hv9)) (cwV 5 hts gX8_fillThings_X8_fillField rfl rfl rfl (by first | exact hd_X8_fillField | decide +kernel) ⟨Nat.le_of_ble_eq_true rfl, Nat.le_of_ble_eq_true rfl⟩) hK hw (by first | exact Int.le_refl 0 | omega) (by first | exact zlt hc0 | omega) sl_0_0 rfl rfl hl.1 rfl (Nat.le_of_ble_eq_true rfl) dX8_fillThings_79 ⟨(by show _ ≤ (300 : Nat); omega), (by show _ ≤ (2100 : Nat); omega)⟩) hS (fun z20 u21 H locs p22 hw hS => ?_)
                      obtain ⟨ad, cnt, X23, Y24, ln, eu21, hE25, hFx, hOw, hLn, hRX23, hG26, hJ27, hCIX23, p22, hfzX23, hfnX23, hfsX23⟩ := p22
                      subst eu21
                      have hFX23 : Frm [1600, 2602, 2700, 3201, 3202, 3203, 3204] X X23 := Frm.tr hFXb (Frm.mono hG26 (by first | exact nls_of rfl | decide))
                      have hHY24 : Frm [1700, 600] Y Y24 := Frm.tr hHYb (Frm.mono hJ27 (by first | exact nls_of rfl | decide))
                      have hE := Ext.tr hE hE25
                      have hm28 := hE25.2.1 19
                      have hm29 := hE25.2.1 25
                      have hm30 := hE25.2.1 26
                      have hN : 0 ≤ cnt 25 ∧ 0 ≤ cnt 26 := by omega
                      have ha31 := hE25.1 0 0 (by omega) (by omega)
                      have ha32 := hE25.1 7 g (by omega) (by omega)
                      have hc0 : cnt 0 = 1 := hFx.at 0 1 (by decide)
                      have hc2 : cnt 2 = 1 := hFx.at 2 1 (by decide)
                      have hc6 : cnt 6 = 1 := hFx.at 6 1 (by decide)
                      have hc7 : cnt 7 = 6 := hFx.at 7 6 (by decide)
                      have hc9 : cnt 9 = 6 := hFx.at 9 6 (by decide)
                      have hc10 : cnt 10 = 6 := hFx.at 10 6 (by decide)
                      have hc15 : cnt 15 = 30 := hFx.at 15 30 (by decide)
                      have hc16 : cnt 16 = 30 := hFx.at 16 30 (by decide)
                      have hc17 : cnt 17 = 30 := hFx.at 17 30 (by decide)
                      have hc27 : cnt 27 = cnt 26 := hFx.2.2
                      have hc32 : cnt 32 = 1 := hFx.at 32 1 (by decide)
                      have hl : lv_has ls 8 [(6, .int (jI ((r * 5) + k))), (0, .ref (ad 0 0)), (1, .ref (ad 7 g)), (2, .int (jI f)), (3, .int (jI rule)), (4, .int (jI r)), (5, .int (jI k))] := by rw [ha31, ha32]; exact hl
                      refine W.eq (g2 := F0 m 82 ls [.int (jI z20)]) rfl ?_
                      refine lv_istore (lv' := [(7, .int (jI z20)), (6, .int (jI ((r * 5) + k))), (0, .ref (ad 0 0)), (1, .ref (ad 7 g)), (2, .int (jI f)), (3, .int (jI rule)), (4, .int (jI r)), (5, .int (jI k))]) hx hb dX8_fillThings_82 hl (by decide) rfl (fun ls hl => ?_)
                      refine lv_iload hx hb dX8_fillThings_84 (lv_at hl 0 rfl) ?_
                      refine x_if_eq (tgt := 109) hx hb (by omega) dX8_fillThings_86 (by decide) (fun c33 => ?_) (fun c33 => ?_)
                      · refine lv_iinc (v := jI (k + 1)) (lv' := [(5, .int (jI (k + 1))), (7, .int (jI z20)), (6, .int (jI ((r * 5) + k))), (0, .ref (ad 0 0)), (1, .ref (ad 7 g)), (2, .int (jI f)), (3, .int (jI rule)), (4, .int (jI r))]) hx hb dX8_fillThings_109 hl (k := 7) rfl (jI_add _ _) (by decide) rfl (fun ls hl => ?_)
                        refine lv_goto (tgt := 43) hx hb dX8_fillThings_112 (by decide) ?_
                        have q34 : Frm [1600, 2602, 2700] Xa Xb := Frm.tr Frm.rf (Frm.mono hGXb (by first | exact nls_of rfl | decide))
                        have q35 : Frm [1600, 2602, 2700] Xa X23 := Frm.tr q34 (Frm.mono hG26 (by first | exact nls_of rfl | decide))
                        have q36 : Frm [1700, 600] Ya Yb := Frm.tr Frm.rf (Frm.mono hGYb (by first | exact nls_of rfl | decide))
                        have q37 : Frm [1700, 600] Ya Y24 := Frm.tr q36 (Frm.mono hJ27 (by first | exact nls_of rfl | decide))
                        exact ih43 (k + 1) X23 Y24 ad cnt ln _ _ _ _ _ (by omega) hRX23 q35 q37 (hE) (hFx) (hOw) (hLn) (hN) (by omega) (by omega) (hCIX23) (by omega) ((by have h9 := hfzX23; have h8 := hfsX23 (by omega); rw [show r * 5 + k = 5 * r + k by omega] at h8 h9; exact fTrC.push hTk (by omega) (by omega) h8)) hw hS (lv_sub hl [3, 4, 5, 6, 7, 0] rfl)
                      · refine lv_aload_n hx hb dX8_fillThings_89 rfl (lv_at hl 2 rfl) ?_
                        refine x_geto hx hb hf8 hw (by first | exact Int.le_refl 0 | omega) (by first | exact zlt hc0 | omega) sl_0_11 lk58 dX8_fillThings_90 ?_
                        refine lv_iload hx hb dX8_fillThings_93 (lv_at hl 6 rfl) ?_
                        refine lv_aload_n hx hb dX8_fillThings_95 rfl (lv_at hl 3 rfl) ?_
                        refine x_geto hx hb hf4 hw (by omega) (by omega) sl_7_3 lk224 dX8_fillThings_96 ?_
                        refine lv_iload hx hb dX8_fillThings_99 (lv_at hl 1 rfl) ?_
                        refine x_iald hx hb hK.1 hw (by omega) (by omega) ar_10 (len_E ar_10 (by first | exact Nat.ne_of_beq_eq_false rfl | decide)) (by omega) (by omega) (by omega) dX8_fillThings_101 ?_
                        have e38 : ∀ p9 q9 : Int, X23 10 p9 q9 = X 10 p9 q9 := fun p9 q9 => by rw [hG26 10 p9 q9 (show 1000 ∉ [1600, 2602, 2700] by first | exact nlm_ni rfl | decide), hGXb 10 p9 q9 (show 1000 ∉ [1600, 2602, 2700] by first | exact nlm_ni rfl | decide), hGXa 10 p9 q9 (show 1000 ∉ [1600, 2602, 2700] by first | exact nlm_ni rfl | decide)]
                        rw [e38 g ((r * 5) + k)]
                        have f39 : 0 ≤ X 10 g ((r * 5) + k) ∧ X 10 g ((r * 5) + k) ≤ 19 := hR 10 g ((r * 5) + k)
                        refine lv_iconst (v := jI (-1)) hx hb dX8_fillThings_102 rfl ?_
                        refine gos_v (run_V (As := [.int (jI r), .int (jI (X 10 g ((r * 5) + k))), .int (jI (-1))]) (rest := []) hx hb hml hown hts (c_X1_tell l D tc base ad cnt X23 Y24 ln hRX23 hFx hLn hCIX23 r (X 10 g ((r * 5) + k)) (-1) (by omega) (by omega) (by omega)) (cwV 3 hts gX8_fillThings_X1_tell rfl rfl rfl (by first | exact hd_X1_tell | decide +kernel) ⟨Nat.le_of_ble_eq_true rfl, Nat.le_of_ble_eq_true rfl⟩) hK hw (by first | exact Int.le_refl 0 | omega) (by first | exact zlt hc32 | omega) sl_32_0 rfl rfl hl.1 rfl (Nat.le_of_ble_eq_true rfl) dX8_fillThings_103 ⟨(by show _ ≤ (300 : Nat); omega), (by show _ ≤ (2100 : Nat); omega)⟩) hS (fun u41 H locs p42 hw hS => ?_)
                        obtain ⟨X43, eu41, hRX43, hG44, hCIX43, p42⟩ := p42
                        subst eu41
                        have hFX43 : Frm [1600, 2602, 2700, 3201, 3202, 3203, 3204] X X43 := Frm.tr hFX23 (Frm.mono hG44 (by first | exact nls_of rfl | decide))
                        refine lv_iload hx hb dX8_fillThings_106 (lv_at hl 0 rfl) ?_
                        rw [hQ9]
                        refine ret_i (mc := 300) (ms := 2100) hx hb hr hlocks hw hS (by first | exact Nat.le_of_ble_eq_true rfl | omega) (by first | exact Nat.le_of_ble_eq_true rfl | omega) dX8_fillThings_108 ?_
                        have q45 : Frm [3201, 3202, 3203, 3204] X23 X43 := Frm.tr Frm.rf (Frm.mono hG44 (by first | exact nls_of rfl | decide))
                        exact ⟨ad, cnt, X43, Y24, ln, rfl, hE9 _ _ _ hE, hFx, hOw, hLn, hRX43, hFX43, hHY24, hCIX43, by omega, ⟨Yz, hGYz, (fun j9 a b => hnul j9 a (by omega)), Or.inr ⟨by omega, (by have h9 := hfzX23; obtain ⟨q1, q2, q3, q4⟩ := hfnX23 (by omega); rw [show r * 5 + k = 5 * r + k by omega] at h9; exact ⟨r, k, cA, _, Xa, Xb, Ya, Yb, lnA, _, by omega, by omega, by omega, by omega, (by rw [← hcB, ← hlB]; exact hTr9), hTk, h9.symm, q1, q3, q4, (by rw [← q2]; exact q45)⟩)⟩⟩⟩
              exact lp43 (5 - 0 : Int).toNat.succ 0 Xa Ya ad cnt ln _ _ _ _ _ (by omega) hRXa Frm.rf Frm.rf (hE) (hFx) (hOw) (hLn) (hN) (by omega) (by omega) (hCIXa) ((hR 9 g r).1) (⟨hcA.symm, rfl, rfl, hlA.symm⟩) hw hS (lv_sub hl [1, 2, 3, 4, 5, 0] rfl)
        have q46 : Frm [600] Y Yz := Frm.tr Frm.rf (Frm.mono hGYz (by first | exact nls_of rfl | decide))
        have hCq47 : CInv cnt X Yz ln := cinv_frm (M := []) (N := [600]) hCI Frm.rf q46 (by decide) (by decide)
        exact lp31 (30 - 0 : Int).toNat.succ 0 X Yz ad cnt ln _ _ _ _ _ (by omega) hR Frm.rf Frm.rf (hE) (hFx) (hOw) (hLn) (hN) (by omega) (by omega) (hCq47) (by omega) (⟨hcB.symm, rfl, rfl, hlB.symm⟩) hw hS (lv_sub hl [1, 2, 3, 4, 0] rfl)
      · refine lv_aload_n hx hb dX8_fillThings_14 rfl (lv_at hl 0 rfl) ?_
        refine x_geto hx hb hf8 hw (by first | exact Int.le_refl 0 | omega) (by first | exact zlt hc0 | omega) sl_0_9 lk44 dX8_fillThings_15 ?_
        refine lv_iload hx hb dX8_fillThings_18 (lv_at hl 4 rfl) ?_
        refine lv_null hx hb dX8_fillThings_20 ?_
        refine x_aastn hx hb hK.1 hw hS (by first | exact Int.le_refl 0 | omega) (by first | exact zlt hc6 | omega) ar_6 rfl (len_E ar_6 (by first | exact Nat.ne_of_beq_eq_false rfl | decide)) (by omega) (by omega) (by omega) dX8_fillThings_21 (fun H locs hw hS => ?_)
        obtain ⟨Y48, hY48⟩ : ∃ Yq, Yq = u3 Yz 6 0 j none := ⟨_, rfl⟩
        rw [← hY48] at hw
        have hVY48 : Y48 6 0 j = none := by rw [hY48]; exact u3_s _ _ _ _ _
        have hHY48 : Frm [1700, 600] Y Y48 := by rw [hY48]; exact Frm.set hHYz (show 600 ∈ [1700, 600] by first | exact nlm_in rfl | decide)
        refine lv_iinc (v := jI (j + 1)) (lv' := [(4, .int (jI (j + 1))), (0, .ref (ad 0 0)), (1, .ref (ad 7 g)), (2, .int (jI f)), (3, .int (jI rule))]) hx hb dX8_fillThings_22 hl (k := 4) rfl (jI_add _ _) (by decide) rfl (fun ls hl => ?_)
        refine lv_goto (tgt := 3) hx hb dX8_fillThings_25 (by decide) ?_
        have q49 : Frm [600] Y Yz := Frm.tr Frm.rf (Frm.mono hGYz (by first | exact nls_of rfl | decide))
        have q50 : Frm [600] Y Y48 := by rw [hY48]; exact Frm.set q49 (show 600 ∈ [600] by first | exact nlm_in rfl | decide)
        exact ih3 (j + 1) Y48 _ _ _ (by omega) q50 (by omega) (fun j9 a b => if hj9 : j9 = j then (by rw [hj9]; exact hVY48) else (by rw [hY48, u3_ij (fun q9 => hj9 q9.2)]; exact hnul j9 a (by omega))) hw hS (lv_sub hl [1, 2, 3, 4, 0] rfl)
  exact lp3 (450 - 0 : Int).toNat.succ 0 Y _ _ _ (by omega) Frm.rf (by omega) (fun j9 a b => by omega) hw hS (lv_sub hl [1, 2, 3, 4, 0] rfl)

set_option maxHeartbeats 4000000 in
set_option maxRecDepth 100000 in
theorem c_X8_restore (l : Launch) (D : va_G) (tc : Nat → ClassId) (base : Nat) (ad : Nat → Int → Nat) (cnt : Nat → Int) (X : Nat → Int → Int → Int) (Y : Nat → Int → Int → Option Int) (ln : Int → Int) (hR : Rng X) (hFx : Fx cnt) (hLn : LnOK ln) (hCI : CInv cnt X Y ln) (hOw : Own cnt) (hN : 0 ≤ cnt 25 ∧ 0 ≤ cnt 26) (sv rule : Int) (hsv : -2147483648 ≤ sv ∧ sv ≤ 2147483647) (hrule : -2147483648 ≤ rule ∧ rule ≤ 2147483647) (hRv : cRv X) : KI l D tc base yX8_restore wsX8_restore ({ frames := 7, cells := 300, slots := 2100, locals := 155 } : Room) [.ref (ad 0 0), .int (jI sv), .int (jI rule)] (ad, cnt, X, Y, ln) 300 2100 (fun z u => ∃ (ad1 : Nat → Int → Nat) (cnt1 : Nat → Int) (X1 : Nat → Int → Int → Int) (Y1 : Nat → Int → Int → Option Int) (ln1 : Int → Int), u = (ad1, cnt1, X1, Y1, ln1) ∧ Ext ad cnt ln ad1 cnt1 ln1 ∧ Fx cnt1 ∧ Own cnt1 ∧ LnOK ln1 ∧ Rng X1 ∧ Frm [4, 1600, 2602, 2700, 3201, 3202, 3203, 3204] X X1 ∧ Frm [1501, 1700, 600] Y Y1 ∧ CInv cnt1 X1 Y1 ln1 ∧ (-2147483648 ≤ z ∧ z ≤ 2147483647) ∧ ((¬ (0 ≤ sv ∧ sv < 4 ∧ X 7 (tyo (Y 4 0 sv)) 0 ≠ 0) ∧ z = -1 ∧ X1 = X ∧ Y1 = Y ∧ cnt1 26 = cnt 26 ∧ ln1 = ln) ∨ ((0 ≤ sv ∧ sv < 4 ∧ X 7 (tyo (Y 4 0 sv)) 0 ≠ 0) ∧ ¬ (0 ≤ rule ∧ rule < 4) ∧ z = -2 ∧ X1 = X ∧ Y1 = Y ∧ cnt1 26 = cnt 26 ∧ ln1 = ln) ∨ ((0 ≤ sv ∧ sv < 4 ∧ X 7 (tyo (Y 4 0 sv)) 0 ≠ 0) ∧ (0 ≤ rule ∧ rule < 4) ∧ 30 < X 0 0 3 + X 7 (tyo (Y 4 0 sv)) 0 ∧ z = -4 ∧ X1 = X ∧ Y1 = Y ∧ cnt1 26 = cnt 26 ∧ ln1 = ln) ∨ ((0 ≤ sv ∧ sv < 4 ∧ X 7 (tyo (Y 4 0 sv)) 0 ≠ 0) ∧ (0 ≤ rule ∧ rule < 4) ∧ X 0 0 3 + X 7 (tyo (Y 4 0 sv)) 0 ≤ 30 ∧ ∃ (g : Int) (A B : Nat → Int → Int → Int) (YA YB : Nat → Int → Int → Option Int) (cB zf : Int) (lB : Int → Int), Y 4 0 sv = some g ∧ (A 0 0 3 = X 0 0 3 + X 7 g 0 ∧ (∀ r9, 0 ≤ r9 → r9 < X 7 g 0 → YA 15 (X 0 0 3 + r9) 0 = some (X 8 g r9) ∧ ∀ j, 0 ≤ j → j < X 19 (X 8 g r9) 1 → A 16 (X 0 0 3 + r9) j = X 22 (X 8 g r9) j ∧ YA 17 (X 0 0 3 + r9) j = none) ∧ (∀ y, y < X 0 0 3 → YA 15 y 0 = Y 15 y 0 ∧ ∀ j, A 16 y j = X 16 y j ∧ YA 17 y j = Y 17 y j) ∧ Frm [4, 1600] X A ∧ Frm [1501, 1700] Y YA) ∧ (∃ Yz : Nat → Int → Int → Option Int, Frm [600] YA Yz ∧ (∀ j, 0 ≤ j → j < 3 * A 7 g 6 → Yz 6 0 j = none) ∧ ((zf = 0 ∧ rTrC g (X 0 0 3) rule (A 7 g 0).toNat (cnt 26) A Yz ln (cB) B YB lB) ∨ (zf ≠ 0 ∧ ∃ (r k cA cP : Int) (XA XP : Nat → Int → Int → Int) (YA YP : Nat → Int → Int → Option Int) (lA lP : Int → Int), 0 ≤ r ∧ r < A 7 g 0 ∧ 0 ≤ k ∧ k < A 9 g r ∧ rTrC g (X 0 0 3) rule r.toNat (cnt 26) A Yz ln cA XA YA lA ∧ fTrC g r (X 0 0 3) rule k.toNat cA XA YA lA cP XP YP lP ∧ fvC XP YP (X 0 0 3 + r) g (5 * r + k) rule = zf ∧ cB = cP ∧ YB = YP ∧ lB = lP ∧ Frm [3201, 3202, 3203, 3204] XP B))) ∧ ((zf = 0 ∧ (∀ y, X 0 0 3 ≤ y → y < B 0 0 3 → jdC B YB lB y 0) ∧ z = X 0 0 3 ∧ Frm [3201, 3202, 3203, 3204] B X1 ∧ Y1 = YB ∧ cnt1 26 = cB ∧ ln1 = lB) ∨ (X1 0 0 3 = X 0 0 3 ∧ Frm [4, 3201, 3202, 3203, 3204] B X1 ∧ Y1 = YB ∧ cnt1 26 = cB ∧ ln1 = lB ∧ ((zf ≠ 0 ∧ z = -10 - zf) ∨ (zf = 0 ∧ ∃ y how, X 0 0 3 ≤ y ∧ y < B 0 0 3 ∧ (∀ y', X 0 0 3 ≤ y' → y' < y → jdC B YB lB y' 0) ∧ how ≠ 0 ∧ jdC B YB lB y how ∧ z = -10 - how))))))) := by
  refine K_of (cc := cX8_restore) (maxL := 5) (ret := (some .int)) (by decide) rfl (Nat.le_of_ble_eq_true rfl) ?_
  intro p e s m below meth c ls hx hb hr hml hown hts hlocks hl hK hw hS
  have hown : s.vm.findClass RX8 = some m.cls := hown
  have hbs : base ≤ s.heap.size := wd_size hw
  obtain ⟨av9, hav9⟩ : ∃ a9 : Array Value, a9 = ([.ref (ad 0 0), .int (jI sv), .int (jI rule)] : List Value).toArray := ⟨_, rfl⟩
  rw [← hav9] at hts ⊢
  obtain ⟨Q9, hQ9⟩ : ∃ q9Q : State → Prop, q9Q = MQ below (QI D tc base (fun z u => ∃ (ad1 : Nat → Int → Nat) (cnt1 : Nat → Int) (X1 : Nat → Int → Int → Int) (Y1 : Nat → Int → Int → Option Int) (ln1 : Int → Int), u = (ad1, cnt1, X1, Y1, ln1) ∧ Ext ad cnt ln ad1 cnt1 ln1 ∧ Fx cnt1 ∧ Own cnt1 ∧ LnOK ln1 ∧ Rng X1 ∧ Frm [4, 1600, 2602, 2700, 3201, 3202, 3203, 3204] X X1 ∧ Frm [1501, 1700, 600] Y Y1 ∧ CInv cnt1 X1 Y1 ln1 ∧ (-2147483648 ≤ z ∧ z ≤ 2147483647) ∧ ((¬ (0 ≤ sv ∧ sv < 4 ∧ X 7 (tyo (Y 4 0 sv)) 0 ≠ 0) ∧ z = -1 ∧ X1 = X ∧ Y1 = Y ∧ cnt1 26 = cnt 26 ∧ ln1 = ln) ∨ ((0 ≤ sv ∧ sv < 4 ∧ X 7 (tyo (Y 4 0 sv)) 0 ≠ 0) ∧ ¬ (0 ≤ rule ∧ rule < 4) ∧ z = -2 ∧ X1 = X ∧ Y1 = Y ∧ cnt1 26 = cnt 26 ∧ ln1 = ln) ∨ ((0 ≤ sv ∧ sv < 4 ∧ X 7 (tyo (Y 4 0 sv)) 0 ≠ 0) ∧ (0 ≤ rule ∧ rule < 4) ∧ 30 < X 0 0 3 + X 7 (tyo (Y 4 0 sv)) 0 ∧ z = -4 ∧ X1 = X ∧ Y1 = Y ∧ cnt1 26 = cnt 26 ∧ ln1 = ln) ∨ ((0 ≤ sv ∧ sv < 4 ∧ X 7 (tyo (Y 4 0 sv)) 0 ≠ 0) ∧ (0 ≤ rule ∧ rule < 4) ∧ X 0 0 3 + X 7 (tyo (Y 4 0 sv)) 0 ≤ 30 ∧ ∃ (g : Int) (A B : Nat → Int → Int → Int) (YA YB : Nat → Int → Int → Option Int) (cB zf : Int) (lB : Int → Int), Y 4 0 sv = some g ∧ (A 0 0 3 = X 0 0 3 + X 7 g 0 ∧ (∀ r9, 0 ≤ r9 → r9 < X 7 g 0 → YA 15 (X 0 0 3 + r9) 0 = some (X 8 g r9) ∧ ∀ j, 0 ≤ j → j < X 19 (X 8 g r9) 1 → A 16 (X 0 0 3 + r9) j = X 22 (X 8 g r9) j ∧ YA 17 (X 0 0 3 + r9) j = none) ∧ (∀ y, y < X 0 0 3 → YA 15 y 0 = Y 15 y 0 ∧ ∀ j, A 16 y j = X 16 y j ∧ YA 17 y j = Y 17 y j) ∧ Frm [4, 1600] X A ∧ Frm [1501, 1700] Y YA) ∧ (∃ Yz : Nat → Int → Int → Option Int, Frm [600] YA Yz ∧ (∀ j, 0 ≤ j → j < 3 * A 7 g 6 → Yz 6 0 j = none) ∧ ((zf = 0 ∧ rTrC g (X 0 0 3) rule (A 7 g 0).toNat (cnt 26) A Yz ln (cB) B YB lB) ∨ (zf ≠ 0 ∧ ∃ (r k cA cP : Int) (XA XP : Nat → Int → Int → Int) (YA YP : Nat → Int → Int → Option Int) (lA lP : Int → Int), 0 ≤ r ∧ r < A 7 g 0 ∧ 0 ≤ k ∧ k < A 9 g r ∧ rTrC g (X 0 0 3) rule r.toNat (cnt 26) A Yz ln cA XA YA lA ∧ fTrC g r (X 0 0 3) rule k.toNat cA XA YA lA cP XP YP lP ∧ fvC XP YP (X 0 0 3 + r) g (5 * r + k) rule = zf ∧ cB = cP ∧ YB = YP ∧ lB = lP ∧ Frm [3201, 3202, 3203, 3204] XP B))) ∧ ((zf = 0 ∧ (∀ y, X 0 0 3 ≤ y → y < B 0 0 3 → jdC B YB lB y 0) ∧ z = X 0 0 3 ∧ Frm [3201, 3202, 3203, 3204] B X1 ∧ Y1 = YB ∧ cnt1 26 = cB ∧ ln1 = lB) ∨ (X1 0 0 3 = X 0 0 3 ∧ Frm [4, 3201, 3202, 3203, 3204] B X1 ∧ Y1 = YB ∧ cnt1 26 = cB ∧ ln1 = lB ∧ ((zf ≠ 0 ∧ z = -10 - zf) ∨ (zf = 0 ∧ ∃ y how, X 0 0 3 ≤ y ∧ y < B 0 0 3 ∧ (∀ y', X 0 0 3 ≤ y' → y' < y → jdC B YB lB y' 0) ∧ how ≠ 0 ∧ jdC B YB lB y how ∧ z = -10 - how)))))))) av9 s 300 2100 (frA base) := ⟨_, rfl⟩
  rw [← hQ9]
  obtain ⟨ad0, ha0⟩ : ∃ a, a = ad := ⟨_, rfl⟩
  obtain ⟨cnt0, hc0⟩ : ∃ a, a = cnt := ⟨_, rfl⟩
  obtain ⟨ln0, hl0⟩ : ∃ a, a = ln := ⟨_, rfl⟩
  have hE9 : ∀ a c n, Ext ad0 cnt0 ln0 a c n → Ext ad cnt ln a c n := by rw [ha0, hc0, hl0]; exact fun _ _ _ h => h
  have hE : Ext ad0 cnt0 ln0 ad cnt ln := by rw [ha0, hc0, hl0]; exact Ext.rf
  clear ha0 hc0 hl0
  have hi4 : ∀ w ∈ wsX40, w ∈ wsX8_restore := fun w h => List.mem_cons_of_mem _ (List.mem_append_left _ (List.mem_append_left _ (List.mem_append_left _ (List.mem_append_left _ (List.mem_append_left _ (List.mem_append_right _ h))))))
  have hf4 : fctx s m _ RX8 wsX8_restore D tc RX4 TX4 9 4 := ⟨hts, hi4, hown, hK.1, rfl⟩
  have hi8 : ∀ w ∈ wsX80, w ∈ wsX8_restore := fun w h => List.mem_cons_of_mem _ (List.mem_append_left _ (List.mem_append_left _ (List.mem_append_left _ (List.mem_append_left _ (List.mem_append_left _ (List.mem_append_left _ (List.mem_append_right _ h)))))))
  have hf8 : fctx s m _ RX8 wsX8_restore D tc RX8 TX8 12 8 := ⟨hts, hi8, hown, hK.1, rfl⟩
  have lk27 := hts (.fieldLink RX8 27 (TX8 5).1 (TX8 5).2.1 (TX8 5).2.2.1) (gj_X8_restore_0 _ (gp_h))
  have lk94 := hts (.fieldLink RX8 94 (TX8 3).1 (TX8 3).2.1 (TX8 3).2.2.1) (gj_X8_restore_0 _ (gp_1 (gp_1 gp_h)))
  have lk231 := hts (.fieldLink RX8 231 (TX4 0).1 (TX4 0).2.1 (TX4 0).2.2.1) (gj_X8_restore_0 _ (gp_1 gp_h))
  have hc0 : cnt 0 = 1 := hFx.at 0 1 (by decide)
  have hc4 : cnt 4 = 1 := hFx.at 4 1 (by decide)
  have hc7 : cnt 7 = 6 := hFx.at 7 6 (by decide)
  have hl : lv_has ls 5 [(0, .ref (ad 0 0)), (1, .int (jI sv)), (2, .int (jI rule))] := hl
  have ftc : 0 ≤ X 0 0 3 ∧ X 0 0 3 ≤ 30 := hR 0 0 3
  have fty : 0 ≤ X 0 0 1 ∧ X 0 0 1 ≤ 8 := hR 0 0 1
  have hct : cnt 19 = X 0 0 1 := hCI.2.2.2.1.1
  have hfj : 0 ≤ X 29 0 3 ∧ X 29 0 3 ≤ 4 := hR 29 0 3
  have hfn : 0 ≤ X 29 0 1 ∧ X 29 0 1 ≤ 80 := hR 29 0 1
  refine lv_iload_n hx hb dX8_restore_0 rfl (lv_at hl 1 rfl) ?_
  refine lv_iconst (v := jI 4) hx hb dX8_restore_1 rfl ?_
  refine gos_i (run_S (As := [.int (jI sv), .int (jI 4)]) (rest := []) hx hb hml hown hts (c_X8_isBelow l D tc base ad cnt X Y ln sv 4 (by omega) (by omega)) (cwS 2 hts gX8_restore_X8_isBelow rfl rfl rfl (by first | exact hd_X8_isBelow | decide +kernel) ⟨Nat.le_of_ble_eq_true rfl, Nat.le_of_ble_eq_true rfl⟩) hK hw rfl hl.1 rfl (Nat.le_of_ble_eq_true rfl) dX8_restore_2 ⟨(by show _ ≤ (300 : Nat); omega), (by show _ ≤ (2100 : Nat); omega)⟩) hS (fun z1 u2 H locs p3 hw hS => ?_)
  obtain ⟨eu2, p3⟩ := p3
  subst eu2
  rcases p3 with ⟨ez1, p3⟩ | ⟨ez1, p3⟩
  · subst ez1
    refine x_if_eqF (tgt := 20) hx hb (by omega) (by decide) dX8_restore_5 (by decide) ?_
    refine lv_aload_n hx hb dX8_restore_8 rfl (lv_at hl 0 rfl) ?_
    refine x_geto hx hb hf8 hw (by first | exact Int.le_refl 0 | omega) (by first | exact zlt hc0 | omega) sl_0_5 lk27 dX8_restore_9 ?_
    refine lv_iload_n hx hb dX8_restore_12 rfl (lv_at hl 1 rfl) ?_
    refine x_aald hx hb hK.1 hw (by first | exact Int.le_refl 0 | omega) (by first | exact zlt hc4 | omega) ar_4 rfl (len_E ar_4 (by first | exact Nat.ne_of_beq_eq_false rfl | decide)) (by omega) (by omega) (by omega) dX8_restore_13 (fun y4 => ?_) (fun r5 y4 gr5 lr5 => ?_)
    · exfalso
      exact absurd y4 (hCI.2.2.1.1 sv (by omega) (by omega))
    · refine x_geti (jz := 0) hx hb hf4 hw (by omega) (by omega) sl_7_0 rfl lk231 dX8_restore_14 ?_
      have f6 : 0 ≤ X 7 r5 0 ∧ X 7 r5 0 ≤ 30 := hR 7 r5 0
      refine x_if_ne (tgt := 22) hx hb (by omega) dX8_restore_17 (by decide) (fun c7 => ?_) (fun c7 => ?_)
      · refine lv_iload_n hx hb dX8_restore_22 rfl (lv_at hl 2 rfl) ?_
        refine lv_iconst (v := jI 4) hx hb dX8_restore_23 rfl ?_
        refine gos_i (run_S (As := [.int (jI rule), .int (jI 4)]) (rest := []) hx hb hml hown hts (c_X8_isBelow l D tc base ad cnt X Y ln rule 4 (by omega) (by omega)) (cwS 2 hts gX8_restore_X8_isBelow rfl rfl rfl (by first | exact hd_X8_isBelow | decide +kernel) ⟨Nat.le_of_ble_eq_true rfl, Nat.le_of_ble_eq_true rfl⟩) hK hw rfl hl.1 rfl (Nat.le_of_ble_eq_true rfl) dX8_restore_24 ⟨(by show _ ≤ (300 : Nat); omega), (by show _ ≤ (2100 : Nat); omega)⟩) hS (fun z8 u9 H locs p10 hw hS => ?_)
        obtain ⟨eu9, p10⟩ := p10
        subst eu9
        rcases p10 with ⟨ez8, p10⟩ | ⟨ez8, p10⟩
        · subst ez8
          refine x_if_neT (tgt := 33) hx hb (by omega) (by decide) dX8_restore_27 (by decide) ?_
          refine lv_aload_n hx hb dX8_restore_33 rfl (lv_at hl 0 rfl) ?_
          refine x_geti (jz := 3) hx hb hf8 hw (by first | exact Int.le_refl 0 | omega) (by first | exact zlt hc0 | omega) sl_0_3 rfl lk94 dX8_restore_34 ?_
          have f11 : 0 ≤ X 0 0 3 ∧ X 0 0 3 ≤ 30 := hR 0 0 3
          refine lv_istore_n (lv' := [(3, .int (jI (X 0 0 3))), (0, .ref (ad 0 0)), (1, .int (jI sv)), (2, .int (jI rule))]) hx hb dX8_restore_37 rfl hl (by decide) rfl (fun ls hl => ?_)
          refine lv_iload_n hx hb dX8_restore_38 rfl (lv_at hl 0 rfl) ?_
          refine lv_aload_n hx hb dX8_restore_39 rfl (lv_at hl 1 rfl) ?_
          refine x_geto hx hb hf8 hw (by first | exact Int.le_refl 0 | omega) (by first | exact zlt hc0 | omega) sl_0_5 lk27 dX8_restore_40 ?_
          refine lv_iload_n hx hb dX8_restore_43 rfl (lv_at hl 2 rfl) ?_
          refine x_aald hx hb hK.1 hw (by first | exact Int.le_refl 0 | omega) (by first | exact zlt hc4 | omega) ar_4 rfl (len_E ar_4 (by first | exact Nat.ne_of_beq_eq_false rfl | decide)) (by omega) (by omega) (by omega) dX8_restore_44 (fun y12 => ?_) (fun r13 y12 gr13 lr13 => ?_)
          · exfalso
            rw [y4] at y12; cases y12
          · have er13 : r13 = r5 := by rw [y4] at y12; cases y12; rfl
            rw [er13]
            refine x_geti (jz := 0) hx hb hf4 hw (by omega) (by omega) sl_7_0 rfl lk231 dX8_restore_45 ?_
            have f14 : 0 ≤ X 7 r5 0 ∧ X 7 r5 0 ≤ 30 := hR 7 r5 0
            refine x_iadd hx hb dX8_restore_48 ?_
            refine lv_bipush (v := jI 30) hx hb dX8_restore_49 (by decide) ?_
            refine x_icmp_le (tgt := 57) hx hb (by omega) (by omega) dX8_restore_51 (by decide) (fun c15 => ?_) (fun c15 => ?_)
            · refine lv_aload_n hx hb dX8_restore_57 rfl (lv_at hl 1 rfl) ?_
              refine lv_aload_n hx hb dX8_restore_58 rfl (lv_at hl 1 rfl) ?_
              refine x_geto hx hb hf8 hw (by first | exact Int.le_refl 0 | omega) (by first | exact zlt hc0 | omega) sl_0_5 lk27 dX8_restore_59 ?_
              refine lv_iload_n hx hb dX8_restore_62 rfl (lv_at hl 2 rfl) ?_
              refine x_aald hx hb hK.1 hw (by first | exact Int.le_refl 0 | omega) (by first | exact zlt hc4 | omega) ar_4 rfl (len_E ar_4 (by first | exact Nat.ne_of_beq_eq_false rfl | decide)) (by omega) (by omega) (by omega) dX8_restore_63 (fun y16 => ?_) (fun r17 y16 gr17 lr17 => ?_)
              · exfalso
                rw [y4] at y16; cases y16
              · have er17 : r17 = r5 := by rw [y4] at y16; cases y16; rfl
                rw [er17]
                refine gos_v (run_V (As := [.ref (ad 7 r5)]) (rest := []) hx hb hml hown hts (c_X8_addThings l D tc base ad cnt X Y ln hR hFx hLn hCI r5 (by omega) (by omega)) (cwV 1 hts gX8_restore_X8_addThings rfl rfl rfl (by first | exact hd_X8_addThings | decide +kernel) ⟨Nat.le_of_ble_eq_true rfl, Nat.le_of_ble_eq_true rfl⟩) hK hw (by first | exact Int.le_refl 0 | omega) (by first | exact zlt hc0 | omega) sl_0_0 rfl rfl hl.1 rfl (Nat.le_of_ble_eq_true rfl) dX8_restore_64 ⟨(by show _ ≤ (300 : Nat); omega), (by show _ ≤ (2100 : Nat); omega)⟩) hS (fun u19 H locs p20 hw hS => ?_)
                obtain ⟨X21, Y22, eu19, hRX21, hG23, hJ24, hCIX21, p20, htcX21, hnaX21, hoaX21⟩ := p20
                subst eu19
                have hFX21 : Frm [4, 1600, 2602, 2700, 3201, 3202, 3203, 3204] X X21 := Frm.tr Frm.rf (Frm.mono hG23 (by first | exact nls_of rfl | decide))
                have hHY22 : Frm [1501, 1700, 600] Y Y22 := Frm.tr Frm.rf (Frm.mono hJ24 (by first | exact nls_of rfl | decide))
                refine lv_aload_n hx hb dX8_restore_67 rfl (lv_at hl 1 rfl) ?_
                refine lv_aload_n hx hb dX8_restore_68 rfl (lv_at hl 1 rfl) ?_
                refine x_geto hx hb hf8 hw (by first | exact Int.le_refl 0 | omega) (by first | exact zlt hc0 | omega) sl_0_5 lk27 dX8_restore_69 ?_
                refine lv_iload_n hx hb dX8_restore_72 rfl (lv_at hl 2 rfl) ?_
                refine x_aald hx hb hK.1 hw (by first | exact Int.le_refl 0 | omega) (by first | exact zlt hc4 | omega) ar_4 rfl (len_E ar_4 (by first | exact Nat.ne_of_beq_eq_false rfl | decide)) (by omega) (by omega) (by omega) dX8_restore_73 (fun y25 => ?_) (fun r26 y25 gr26 lr26 => ?_)
                · exfalso
                  have e27 : ∀ p9 q9 : Int, Y22 4 p9 q9 = Y 4 p9 q9 := fun p9 q9 => by rw [hJ24 4 p9 q9 (show 400 ∉ [1501, 1700] by first | exact nlm_ni rfl | decide)]
                  rw [e27] at y25
                  rw [y4] at y25; cases y25
                · have e28 : ∀ p9 q9 : Int, Y22 4 p9 q9 = Y 4 p9 q9 := fun p9 q9 => by rw [hJ24 4 p9 q9 (show 400 ∉ [1501, 1700] by first | exact nlm_ni rfl | decide)]
                  rw [e28] at y25
                  have er26 : r26 = r5 := by rw [y4] at y25; cases y25; rfl
                  rw [er26]
                  refine lv_iload_n hx hb dX8_restore_74 rfl (lv_at hl 0 rfl) ?_
                  refine lv_iload_n hx hb dX8_restore_75 rfl (lv_at hl 3 rfl) ?_
                  have e29 : X21 7 r5 0 = X 7 r5 0 := by rw [hG23 7 r5 0 (show 701 ∉ [4, 1600] by first | exact nlm_ni rfl | decide)]
                  have q31 : Frm [4, 1600] X X21 := Frm.tr Frm.rf (Frm.mono hG23 (by first | exact nls_of rfl | decide))
                  have hRq30 : cRv X21 := hRv.frm q31 (by decide)
                  refine gos_i (run_V (As := [.ref (ad 7 r5), .int (jI (X 0 0 3)), .int (jI rule)]) (rest := []) hx hb hml hown hts (c_X8_fillThings l D tc base ad cnt X21 Y22 ln hRX21 hFx hLn hCIX21 hOw hN r5 (X 0 0 3) rule (by omega) (by simp only [e29]; omega) (by omega) hRq30) (cwV 3 hts gX8_restore_X8_fillThings rfl rfl rfl (by first | exact hd_X8_fillThings | decide +kernel) ⟨Nat.le_of_ble_eq_true rfl, Nat.le_of_ble_eq_true rfl⟩) hK hw (by first | exact Int.le_refl 0 | omega) (by first | exact zlt hc0 | omega) sl_0_0 rfl rfl hl.1 rfl (Nat.le_of_ble_eq_true rfl) dX8_restore_76 ⟨(by show _ ≤ (300 : Nat); omega), (by show _ ≤ (2100 : Nat); omega)⟩) hS (fun z32 u33 H locs p34 hw hS => ?_)
                  obtain ⟨ad, cnt, X35, Y36, ln, eu33, hE37, hFx, hOw, hLn, hRX35, hG38, hJ39, hCIX35, p34, hftX35⟩ := p34
                  subst eu33
                  have hFX35 : Frm [4, 1600, 2602, 2700, 3201, 3202, 3203, 3204] X X35 := Frm.tr hFX21 (Frm.mono hG38 (by first | exact nls_of rfl | decide))
                  have hHY36 : Frm [1501, 1700, 600] Y Y36 := Frm.tr hHY22 (Frm.mono hJ39 (by first | exact nls_of rfl | decide))
                  have hE := Ext.tr hE hE37
                  have hm40 := hE37.2.1 19
                  have hm41 := hE37.2.1 25
                  have hm42 := hE37.2.1 26
                  have hN : 0 ≤ cnt 25 ∧ 0 ≤ cnt 26 := by omega
                  have ha43 := hE37.1 0 0 (by omega) (by omega)
                  have hc0 : cnt 0 = 1 := hFx.at 0 1 (by decide)
                  have hc4 : cnt 4 = 1 := hFx.at 4 1 (by decide)
                  have hc7 : cnt 7 = 6 := hFx.at 7 6 (by decide)
                  have hl : lv_has ls 5 [(3, .int (jI (X 0 0 3))), (0, .ref (ad 0 0)), (1, .int (jI sv)), (2, .int (jI rule))] := by rw [ha43]; exact hl
                  refine W.eq (g2 := F0 m 79 ls [.int (jI z32)]) rfl ?_
                  refine lv_istore (lv' := [(4, .int (jI z32)), (3, .int (jI (X 0 0 3))), (0, .ref (ad 0 0)), (1, .int (jI sv)), (2, .int (jI rule))]) hx hb dX8_restore_79 hl (by decide) rfl (fun ls hl => ?_)
                  refine lv_iload hx hb dX8_restore_81 (lv_at hl 0 rfl) ?_
                  refine x_if_ne (tgt := 93) hx hb (by omega) dX8_restore_83 (by decide) (fun c44 => ?_) (fun c44 => ?_)
                  · refine lv_iload hx hb dX8_restore_93 (lv_at hl 0 rfl) ?_
                    refine x_if_eq (tgt := 109) hx hb (by omega) dX8_restore_95 (by decide) (fun c45 => ?_) (fun c45 => ?_)
                    · refine lv_iload_n hx hb dX8_restore_109 rfl (lv_at hl 1 rfl) ?_
                      rw [hQ9]
                      refine ret_i (mc := 300) (ms := 2100) hx hb hr hlocks hw hS (by first | exact Nat.le_of_ble_eq_true rfl | omega) (by first | exact Nat.le_of_ble_eq_true rfl | omega) dX8_restore_110 ?_
                      exact ⟨ad, cnt, X35, Y36, ln, rfl, hE9 _ _ _ hE, hFx, hOw, hLn, hRX35, hFX35, hHY36, hCIX35, by omega, (by exfalso; omega)⟩
                    · refine lv_aload_n hx hb dX8_restore_98 rfl (lv_at hl 2 rfl) ?_
                      refine lv_iload_n hx hb dX8_restore_99 rfl (lv_at hl 1 rfl) ?_
                      refine x_puti (jz := 3) hx hb hf8 ⟨tyX8_ok, nmX8⟩ hw hS (by first | exact Int.le_refl 0 | omega) (by first | exact zlt hc0 | omega) sl_0_3 rfl lk94 rfl (tyX8_ok 3 (by decide)) rfl rfl dX8_restore_100 (fun H locs hw hS => ?_)
                      obtain ⟨X46, hX46⟩ : ∃ Xq, Xq = u3 X35 0 0 3 (X 0 0 3) := ⟨_, rfl⟩
                      rw [← hX46] at hw
                      have hRX46 : Rng X46 := by rw [hX46]; exact rng_set hRX35 (show 0 ≤ (X 0 0 3) ∧ (X 0 0 3) ≤ 30 by omega)
                      have hVX46 : X46 0 0 3 = (X 0 0 3) := by rw [hX46]; exact u3_s _ _ _ _ _
                      have hFX46 : Frm [4, 1600, 2602, 2700, 3201, 3202, 3203, 3204] X X46 := by rw [hX46]; exact Frm.set hFX35 (show 4 ∈ [4, 1600, 2602, 2700, 3201, 3202, 3203, 3204] by first | exact nlm_in rfl | decide)
                      refine lv_iload hx hb dX8_restore_103 (lv_at hl 0 rfl) ?_
                      refine gos_i (run_S (As := [.int (jI z32)]) (rest := []) hx hb hml hown hts (c_X8_failed l D tc base ad cnt X46 Y36 ln z32 (by omega)) (cwS 1 hts gX8_restore_X8_failed rfl rfl rfl (by first | exact hd_X8_failed | decide +kernel) ⟨Nat.le_of_ble_eq_true rfl, Nat.le_of_ble_eq_true rfl⟩) hK hw rfl hl.1 rfl (Nat.le_of_ble_eq_true rfl) dX8_restore_105 ⟨(by show _ ≤ (300 : Nat); omega), (by show _ ≤ (2100 : Nat); omega)⟩) hS (fun z47 u48 H locs p49 hw hS => ?_)
                      obtain ⟨eu48, p49⟩ := p49
                      subst eu48
                      rw [hQ9]
                      refine ret_i (mc := 300) (ms := 2100) hx hb hr hlocks hw hS (by first | exact Nat.le_of_ble_eq_true rfl | omega) (by first | exact Nat.le_of_ble_eq_true rfl | omega) dX8_restore_108 ?_
                      have e50 : X35 0 0 3 = X21 0 0 3 := (by rw [hG38 0 0 3 (show 4 ∉ [1600, 2602, 2700, 3201, 3202, 3203, 3204] by first | exact nlm_ni rfl | decide)])
                      have q51 : Frm [4] X35 X46 := by rw [hX46]; exact Frm.set Frm.rf (show 4 ∈ [4] by first | exact nlm_in rfl | decide)
                      have q52 : Frm [4, 3201, 3202, 3203, 3204] X35 X46 := by rw [hX46]; exact Frm.set Frm.rf (show 4 ∈ [4, 3201, 3202, 3203, 3204] by first | exact nlm_in rfl | decide)
                      exact ⟨ad, cnt, X46, Y36, ln, rfl, hE9 _ _ _ hE, hFx, hOw, hLn, hRX46, hFX46, hHY36, (cinv_things hCIX35 q51 (fun x9 a b c => by rw [hVX46] at b; rw [e50] at c; omega)), by omega, Or.inr (Or.inr (Or.inr ⟨(by rw [tyo_some y4]; (try delta Hid at *); omega), (by (try delta Hid at *); omega), (by rw [tyo_some y4]; (try delta Hid at *); omega), r5, X21, X35, Y22, Y36, _, z32, _, y4, ⟨htcX21, hnaX21, hoaX21, hG23, hJ24⟩, hftX35, Or.inr ⟨hVX46, q52, rfl, rfl, rfl, Or.inl ⟨by omega, by omega⟩⟩⟩))⟩
                  · refine lv_aload_n hx hb dX8_restore_86 rfl (lv_at hl 2 rfl) ?_
                    refine lv_iload_n hx hb dX8_restore_87 rfl (lv_at hl 1 rfl) ?_
                    refine gos_i (run_V (As := [.int (jI (X 0 0 3))]) (rest := []) hx hb hml hown hts (c_X8_judgeThings l D tc base ad cnt X35 Y36 ln hRX35 hFx hLn hCIX35 (X 0 0 3) (by omega)) (cwV 1 hts gX8_restore_X8_judgeThings rfl rfl rfl (by first | exact hd_X8_judgeThings | decide +kernel) ⟨Nat.le_of_ble_eq_true rfl, Nat.le_of_ble_eq_true rfl⟩) hK hw (by first | exact Int.le_refl 0 | omega) (by first | exact zlt hc0 | omega) sl_0_0 rfl rfl hl.1 rfl (Nat.le_of_ble_eq_true rfl) dX8_restore_88 ⟨(by show _ ≤ (300 : Nat); omega), (by show _ ≤ (2100 : Nat); omega)⟩) hS (fun z53 u54 H locs p55 hw hS => ?_)
                    obtain ⟨X56, eu54, hRX56, hG57, hCIX56, p55, hjtX56⟩ := p55
                    subst eu54
                    have hFX56 : Frm [4, 1600, 2602, 2700, 3201, 3202, 3203, 3204] X X56 := Frm.tr hFX35 (Frm.mono hG57 (by first | exact nls_of rfl | decide))
                    refine lv_istore (lv' := [(4, .int (jI z53)), (3, .int (jI (X 0 0 3))), (0, .ref (ad 0 0)), (1, .int (jI sv)), (2, .int (jI rule))]) hx hb dX8_restore_91 hl (by decide) rfl (fun ls hl => ?_)
                    refine lv_iload hx hb dX8_restore_93 (lv_at hl 0 rfl) ?_
                    refine x_if_eq (tgt := 109) hx hb (by omega) dX8_restore_95 (by decide) (fun c58 => ?_) (fun c58 => ?_)
                    · refine lv_iload_n hx hb dX8_restore_109 rfl (lv_at hl 1 rfl) ?_
                      rw [hQ9]
                      refine ret_i (mc := 300) (ms := 2100) hx hb hr hlocks hw hS (by first | exact Nat.le_of_ble_eq_true rfl | omega) (by first | exact Nat.le_of_ble_eq_true rfl | omega) dX8_restore_110 ?_
                      have q59 : Frm [3201, 3202, 3203, 3204] X35 X56 := Frm.tr Frm.rf (Frm.mono hG57 (by first | exact nls_of rfl | decide))
                      exact ⟨ad, cnt, X56, Y36, ln, rfl, hE9 _ _ _ hE, hFx, hOw, hLn, hRX56, hFX56, hHY36, hCIX56, by omega, Or.inr (Or.inr (Or.inr ⟨(by rw [tyo_some y4]; (try delta Hid at *); omega), (by (try delta Hid at *); omega), (by rw [tyo_some y4]; (try delta Hid at *); omega), r5, X21, X35, Y22, Y36, _, z32, _, y4, ⟨htcX21, hnaX21, hoaX21, hG23, hJ24⟩, hftX35, Or.inl ⟨by omega, (by rcases hjtX56 with ⟨-, q9⟩ | ⟨q9, -⟩; exact q9; exfalso; omega), by omega, q59, rfl, rfl, rfl⟩⟩))⟩
                    · refine lv_aload_n hx hb dX8_restore_98 rfl (lv_at hl 2 rfl) ?_
                      refine lv_iload_n hx hb dX8_restore_99 rfl (lv_at hl 1 rfl) ?_
                      refine x_puti (jz := 3) hx hb hf8 ⟨tyX8_ok, nmX8⟩ hw hS (by first | exact Int.le_refl 0 | omega) (by first | exact zlt hc0 | omega) sl_0_3 rfl lk94 rfl (tyX8_ok 3 (by decide)) rfl rfl dX8_restore_100 (fun H locs hw hS => ?_)
                      obtain ⟨X60, hX60⟩ : ∃ Xq, Xq = u3 X56 0 0 3 (X 0 0 3) := ⟨_, rfl⟩
                      rw [← hX60] at hw
                      have hRX60 : Rng X60 := by rw [hX60]; exact rng_set hRX56 (show 0 ≤ (X 0 0 3) ∧ (X 0 0 3) ≤ 30 by omega)
                      have hVX60 : X60 0 0 3 = (X 0 0 3) := by rw [hX60]; exact u3_s _ _ _ _ _
                      have hFX60 : Frm [4, 1600, 2602, 2700, 3201, 3202, 3203, 3204] X X60 := by rw [hX60]; exact Frm.set hFX56 (show 4 ∈ [4, 1600, 2602, 2700, 3201, 3202, 3203, 3204] by first | exact nlm_in rfl | decide)
                      refine lv_iload hx hb dX8_restore_103 (lv_at hl 0 rfl) ?_
                      refine gos_i (run_S (As := [.int (jI z53)]) (rest := []) hx hb hml hown hts (c_X8_failed l D tc base ad cnt X60 Y36 ln z53 (by omega)) (cwS 1 hts gX8_restore_X8_failed rfl rfl rfl (by first | exact hd_X8_failed | decide +kernel) ⟨Nat.le_of_ble_eq_true rfl, Nat.le_of_ble_eq_true rfl⟩) hK hw rfl hl.1 rfl (Nat.le_of_ble_eq_true rfl) dX8_restore_105 ⟨(by show _ ≤ (300 : Nat); omega), (by show _ ≤ (2100 : Nat); omega)⟩) hS (fun z61 u62 H locs p63 hw hS => ?_)
                      obtain ⟨eu62, p63⟩ := p63
                      subst eu62
                      rw [hQ9]
                      refine ret_i (mc := 300) (ms := 2100) hx hb hr hlocks hw hS (by first | exact Nat.le_of_ble_eq_true rfl | omega) (by first | exact Nat.le_of_ble_eq_true rfl | omega) dX8_restore_108 ?_
                      have e64 : X56 0 0 3 = X21 0 0 3 := (by rw [hG57 0 0 3 (show 4 ∉ [3201, 3202, 3203, 3204] by first | exact nlm_ni rfl | decide), hG38 0 0 3 (show 4 ∉ [1600, 2602, 2700, 3201, 3202, 3203, 3204] by first | exact nlm_ni rfl | decide)])
                      have q65 : Frm [4] X56 X60 := by rw [hX60]; exact Frm.set Frm.rf (show 4 ∈ [4] by first | exact nlm_in rfl | decide)
                      have q66 : Frm [4, 3201, 3202, 3203, 3204] X35 X56 := Frm.tr Frm.rf (Frm.mono hG57 (by first | exact nls_of rfl | decide))
                      have q67 : Frm [4, 3201, 3202, 3203, 3204] X35 X60 := by rw [hX60]; exact Frm.set q66 (show 4 ∈ [4, 3201, 3202, 3203, 3204] by first | exact nlm_in rfl | decide)
                      exact ⟨ad, cnt, X60, Y36, ln, rfl, hE9 _ _ _ hE, hFx, hOw, hLn, hRX60, hFX60, hHY36, (cinv_things hCIX56 q65 (fun x9 a b c => by rw [hVX60] at b; rw [e64] at c; omega)), by omega, Or.inr (Or.inr (Or.inr ⟨(by rw [tyo_some y4]; (try delta Hid at *); omega), (by (try delta Hid at *); omega), (by rw [tyo_some y4]; (try delta Hid at *); omega), r5, X21, X35, Y22, Y36, _, z32, _, y4, ⟨htcX21, hnaX21, hoaX21, hG23, hJ24⟩, hftX35, Or.inr ⟨hVX60, q67, rfl, rfl, rfl, Or.inr ⟨by omega, (by rcases hjtX56 with ⟨q9, -⟩ | ⟨q1, y9, q2, q3, q4, q5⟩; exfalso; omega; exact ⟨y9, z53, q2, q3, q4, by omega, q5, by omega⟩)⟩⟩⟩))⟩
            · refine lv_bipush (v := jI (-4)) hx hb dX8_restore_54 (by decide) ?_
              rw [hQ9]
              refine ret_i (mc := 300) (ms := 2100) hx hb hr hlocks hw hS (by first | exact Nat.le_of_ble_eq_true rfl | omega) (by first | exact Nat.le_of_ble_eq_true rfl | omega) dX8_restore_56 ?_
              exact ⟨ad, cnt, X, Y, ln, rfl, hE9 _ _ _ hE, hFx, hOw, hLn, hR, Frm.rf, Frm.rf, hCI, by omega, Or.inr (Or.inr (Or.inl ⟨(by rw [tyo_some y4]; (try delta Hid at *); omega), (by (try delta Hid at *); omega), (by rw [tyo_some y4]; (try delta Hid at *); omega), by omega, rfl, rfl, rfl, rfl⟩))⟩
        · subst ez8
          refine x_if_neF (tgt := 33) hx hb (by omega) (by decide) dX8_restore_27 (by decide) ?_
          refine lv_bipush (v := jI (-2)) hx hb dX8_restore_30 (by decide) ?_
          rw [hQ9]
          refine ret_i (mc := 300) (ms := 2100) hx hb hr hlocks hw hS (by first | exact Nat.le_of_ble_eq_true rfl | omega) (by first | exact Nat.le_of_ble_eq_true rfl | omega) dX8_restore_32 ?_
          exact ⟨ad, cnt, X, Y, ln, rfl, hE9 _ _ _ hE, hFx, hOw, hLn, hR, Frm.rf, Frm.rf, hCI, by omega, Or.inr (Or.inl ⟨(by rw [tyo_some y4]; (try delta Hid at *); omega), (fun q9 => by (try delta Hid at *); omega), by omega, rfl, rfl, rfl, rfl⟩)⟩
      · refine lv_iconst (v := jI (-1)) hx hb dX8_restore_20 rfl ?_
        rw [hQ9]
        refine ret_i (mc := 300) (ms := 2100) hx hb hr hlocks hw hS (by first | exact Nat.le_of_ble_eq_true rfl | omega) (by first | exact Nat.le_of_ble_eq_true rfl | omega) dX8_restore_21 ?_
        exact ⟨ad, cnt, X, Y, ln, rfl, hE9 _ _ _ hE, hFx, hOw, hLn, hR, Frm.rf, Frm.rf, hCI, by omega, Or.inl ⟨(fun q9 => by rw [tyo_some y4] at q9; (try delta Hid at *); omega), by omega, rfl, rfl, rfl, rfl⟩⟩
  · subst ez1
    refine x_if_eqT (tgt := 20) hx hb (by omega) (by decide) dX8_restore_5 (by decide) ?_
    refine lv_iconst (v := jI (-1)) hx hb dX8_restore_20 rfl ?_
    rw [hQ9]
    refine ret_i (mc := 300) (ms := 2100) hx hb hr hlocks hw hS (by first | exact Nat.le_of_ble_eq_true rfl | omega) (by first | exact Nat.le_of_ble_eq_true rfl | omega) dX8_restore_21 ?_
    exact ⟨ad, cnt, X, Y, ln, rfl, hE9 _ _ _ hE, hFx, hOw, hLn, hR, Frm.rf, Frm.rf, hCI, by omega, Or.inl ⟨(fun q9 => by (try delta Hid at *); omega), by omega, rfl, rfl, rfl, rfl⟩⟩
end
