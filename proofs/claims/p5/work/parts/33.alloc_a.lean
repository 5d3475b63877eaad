set_option maxHeartbeats 4000000 in
set_option maxRecDepth 100000 in
theorem c_X8_mayCome2 (l : Launch) (D : va_G) (tc : Nat → ClassId) (base : Nat) (ad : Nat → Int → Nat) (cnt : Nat → Int) (X : Nat → Int → Int → Int) (Y : Nat → Int → Int → Option Int) (ln : Int → Int) (a b : Int) (ha : 0 ≤ a ∧ a ≤ 5) (hb0 : 0 ≤ b ∧ b ≤ 5) : KI l D tc base yX8_mayCome wsX8_mayCome ({ frames := 1, cells := 0, slots := 0, locals := 20 } : Room) [.int (jI a), .int (jI b)] (ad, cnt, X, Y, ln) 0 0 (fun z u => u = (ad, cnt, X, Y, ln) ∧ ((z = 1 ∧ (2 ≤ b → 2 ≤ a)) ∨ (z = 0 ∧ True))) := by
  refine K_of (cc := cX8_mayCome) (maxL := 2) (ret := (some .boolean)) (by decide) rfl (Nat.le_of_ble_eq_true rfl) ?_
  intro p e s m below meth c ls hx hb hr hml hown hts hlocks hl hK hw hS
  have hown : s.vm.findClass RX8 = some m.cls := hown
  have hl : lv_has ls 2 [(0, .int (jI a)), (1, .int (jI b))] := hl
  refine lv_iload_n hx hb dX8_mayCome_0 rfl (lv_at hl 0 rfl) ?_
  refine lv_iload_n hx hb dX8_mayCome_1 rfl (lv_at hl 1 rfl) ?_
  refine x_icmp_ne (tgt := 7) hx hb (by omega) (by omega) dX8_mayCome_2 (by decide) (fun c1 => ?_) (fun c1 => ?_)
  · refine lv_iload_n hx hb dX8_mayCome_7 rfl (lv_at hl 0 rfl) ?_
    refine lv_iconst (v := jI 1) hx hb dX8_mayCome_8 rfl ?_
    refine x_icmp_ne (tgt := 24) hx hb (by omega) (by omega) dX8_mayCome_9 (by decide) (fun c2 => ?_) (fun c2 => ?_)
    · refine lv_iload_n hx hb dX8_mayCome_24 rfl (lv_at hl 0 rfl) ?_
      refine gos_i (run_S (As := [.int (jI a)]) (rest := []) hx hb hml hown hts (c_X8_isRowLane l D tc base ad cnt X Y ln a (by omega)) (cwS 1 hts gX8_mayCome_X8_isRowLane rfl rfl rfl (by decide +kernel) ⟨Nat.le_of_ble_eq_true rfl, Nat.le_of_ble_eq_true rfl⟩) hK hw rfl hl.1 rfl (Nat.le_of_ble_eq_true rfl) dX8_mayCome_25 ⟨Nat.le_of_ble_eq_true rfl, Nat.le_of_ble_eq_true rfl⟩) hS (fun z3 u4 H locs p5 hw hS => ?_)
      obtain ⟨eu4, p5⟩ := p5
      subst eu4
      rcases p5 with ⟨ez3, p5⟩ | ⟨ez3, p5⟩
      · subst ez3
        refine x_if_eqF (tgt := 40) hx hb (by omega) (by decide) dX8_mayCome_28 (by decide) ?_
        refine lv_iload_n hx hb dX8_mayCome_31 rfl (lv_at hl 1 rfl) ?_
        refine lv_iload_n hx hb dX8_mayCome_32 rfl (lv_at hl 0 rfl) ?_
        refine x_icmp_le (tgt := 40) hx hb (by omega) (by omega) dX8_mayCome_33 (by decide) (fun c6 => ?_) (fun c6 => ?_)
        · refine lv_iconst (v := jI 0) hx hb dX8_mayCome_40 rfl ?_
          refine ret_z (mc := 0) (ms := 0) hx hb hr hlocks hw hS (by omega) (by omega) dX8_mayCome_41 (by omega) ?_
          exact ⟨rfl, Or.inr ⟨rfl, trivial⟩⟩
        · refine lv_iconst (v := jI 1) hx hb dX8_mayCome_36 rfl ?_
          refine lv_goto (tgt := 41) hx hb dX8_mayCome_37 (by decide) ?_
          refine ret_z (mc := 0) (ms := 0) hx hb hr hlocks hw hS (by omega) (by omega) dX8_mayCome_41 (by omega) ?_
          exact ⟨rfl, Or.inl ⟨rfl, by omega⟩⟩
      · subst ez3
        refine x_if_eqT (tgt := 40) hx hb (by omega) (by decide) dX8_mayCome_28 (by decide) ?_
        refine lv_iconst (v := jI 0) hx hb dX8_mayCome_40 rfl ?_
        refine ret_z (mc := 0) (ms := 0) hx hb hr hlocks hw hS (by omega) (by omega) dX8_mayCome_41 (by omega) ?_
        exact ⟨rfl, Or.inr ⟨rfl, trivial⟩⟩
    · refine lv_iload_n hx hb dX8_mayCome_12 rfl (lv_at hl 1 rfl) ?_
      refine x_if_ne (tgt := 20) hx hb (by omega) dX8_mayCome_13 (by decide) (fun c7 => ?_) (fun c7 => ?_)
      · refine lv_iconst (v := jI 0) hx hb dX8_mayCome_20 rfl ?_
        refine lv_goto (tgt := 41) hx hb dX8_mayCome_21 (by decide) ?_
        refine ret_z (mc := 0) (ms := 0) hx hb hr hlocks hw hS (by omega) (by omega) dX8_mayCome_41 (by omega) ?_
        exact ⟨rfl, Or.inr ⟨rfl, trivial⟩⟩
      · refine lv_iconst (v := jI 1) hx hb dX8_mayCome_16 rfl ?_
        refine lv_goto (tgt := 41) hx hb dX8_mayCome_17 (by decide) ?_
        refine ret_z (mc := 0) (ms := 0) hx hb hr hlocks hw hS (by omega) (by omega) dX8_mayCome_41 (by omega) ?_
        exact ⟨rfl, Or.inl ⟨rfl, by omega⟩⟩
  · refine lv_iconst (v := jI 1) hx hb dX8_mayCome_5 rfl ?_
    refine ret_z (mc := 0) (ms := 0) hx hb hr hlocks hw hS (by omega) (by omega) dX8_mayCome_6 (by omega) ?_
    exact ⟨rfl, Or.inl ⟨rfl, by omega⟩⟩

set_option maxHeartbeats 4000000 in
set_option maxRecDepth 100000 in
theorem c_X4_copyOfRow (l : Launch) (D : va_G) (tc : Nat → ClassId) (base : Nat) (ad : Nat → Int → Nat) (cnt : Nat → Int) (X : Nat → Int → Int → Int) (Y : Nat → Int → Int → Option Int) (ln : Int → Int) (hR : Rng X) (hFx : Fx cnt) (hLn : LnOK ln) (hCI : CInv cnt X Y ln) (hOw : Own cnt) (hN : 0 ≤ cnt 25 ∧ 0 ≤ cnt 26) (g i : Int) (hg : 0 ≤ g ∧ g < 6) (hi0 : 0 ≤ i ∧ i ≤ 149) : KR l D tc base 26 yX4_copyOfRow wsX4_copyOfRow ({ frames := 2, cells := 2, slots := 14, locals := 33 } : Room) [.ref (ad 7 g), .int (jI i)] (ad, cnt, X, Y, ln) 2 14 (fun o u => ∃ (ad1 : Nat → Int → Nat) (cnt1 : Nat → Int) (X1 : Nat → Int → Int → Int) (Y1 : Nat → Int → Int → Option Int) (ln1 : Int → Int), u = (ad1, cnt1, X1, Y1, ln1) ∧ Ext ad cnt ln ad1 cnt1 ln1 ∧ Fx cnt1 ∧ Own cnt1 ∧ LnOK ln1 ∧ Rng X1 ∧ Frm [2602, 2700] X X1 ∧ Frm [] Y Y1 ∧ CInv cnt1 X1 Y1 ln1 ∧ (∃ r9, o = some r9 ∧ 0 ≤ r9 ∧ r9 < cnt1 26)) := by
  refine K_of (cc := cX4_copyOfRow) (maxL := 4) (ret := (some (.object "StateRecords$Row"))) (by decide) rfl (Nat.le_of_ble_eq_true rfl) ?_
  intro p e s m below meth c ls hx hb hr hml hown hts hlocks hl hK hw hS
  have hown : s.vm.findClass RX4 = some m.cls := hown
  have hbs : base ≤ s.heap.size := wd_size hw
  obtain ⟨av9, hav9⟩ : ∃ a9 : Array Value, a9 = ([.ref (ad 7 g), .int (jI i)] : List Value).toArray := ⟨_, rfl⟩
  rw [← hav9] at hts ⊢
  obtain ⟨Q9, hQ9⟩ : ∃ q : State → Prop, q = MQ below (QR D tc base 26 (fun o u => ∃ (ad1 : Nat → Int → Nat) (cnt1 : Nat → Int) (X1 : Nat → Int → Int → Int) (Y1 : Nat → Int → Int → Option Int) (ln1 : Int → Int), u = (ad1, cnt1, X1, Y1, ln1) ∧ Ext ad cnt ln ad1 cnt1 ln1 ∧ Fx cnt1 ∧ Own cnt1 ∧ LnOK ln1 ∧ Rng X1 ∧ Frm [2602, 2700] X X1 ∧ Frm [] Y Y1 ∧ CInv cnt1 X1 Y1 ln1 ∧ (∃ r9, o = some r9 ∧ 0 ≤ r9 ∧ r9 < cnt1 26))) av9 s 2 14 (frA base) := ⟨_, rfl⟩
  rw [← hQ9]
  obtain ⟨ad0, ha0⟩ : ∃ a, a = ad := ⟨_, rfl⟩
  obtain ⟨cnt0, hc0⟩ : ∃ a, a = cnt := ⟨_, rfl⟩
  obtain ⟨ln0, hl0⟩ : ∃ a, a = ln := ⟨_, rfl⟩
  have hE9 : ∀ a c n, Ext ad0 cnt0 ln0 a c n → Ext ad cnt ln a c n := by rw [ha0, hc0, hl0]; exact fun _ _ _ h => h
  have hE : Ext ad0 cnt0 ln0 ad cnt ln := by rw [ha0, hc0, hl0]; exact Ext.rf
  clear ha0 hc0 hl0
  have hi4 : ∀ w ∈ wsX40, w ∈ wsX4_copyOfRow := fun w h => List.mem_cons_of_mem _ (List.mem_append_right _ h)
  have hf4 : fctx s m _ RX4 wsX4_copyOfRow D tc RX4 TX4 9 4 := ⟨hts, hi4, hown, hK.1, rfl⟩
  have hi5 : ∀ w ∈ wsX50, w ∈ wsX4_copyOfRow := fun w h => List.mem_cons_of_mem _ (List.mem_append_left _ (List.mem_append_right _ h))
  have hf5 : fctx s m _ RX4 wsX4_copyOfRow D tc RX5 TX5 2 5 := ⟨hts, hi5, hown, hK.1, rfl⟩
  have lk28 := hts (.fieldLink RX4 28 "StateRecords$Records" "rowLengths" "[I") (by decide +kernel)
  have lk31 := hts (.fieldLink RX4 31 "StateRecords$Records" "items" "[J") (by decide +kernel)
  have lk43 := hts (.fieldLink RX4 43 "StateRecords$Row" "items" "[J") (by decide +kernel)
  have hc7 : cnt 7 = 6 := hFx.at 7 6 (by decide)
  have hc13 : cnt 13 = 6 := hFx.at 13 6 (by decide)
  have hc14 : cnt 14 = 6 := hFx.at 14 6 (by decide)
  have hc27 : cnt 27 = cnt 26 := hFx.2.2
  have hl : lv_has ls 4 [(0, .ref (ad 7 g)), (1, .int (jI i))] := hl
  have ftc : 0 ≤ X 0 0 3 ∧ X 0 0 3 ≤ 30 := hR 0 0 3
  have fty : 0 ≤ X 0 0 1 ∧ X 0 0 1 ≤ 8 := hR 0 0 1
  have hct : cnt 19 = X 0 0 1 := hCI.2.2.2.1.1
  have hfj : 0 ≤ X 29 0 3 ∧ X 29 0 3 ≤ 4 := hR 29 0 3
  have hfn : 0 ≤ X 29 0 1 ∧ X 29 0 1 ≤ 80 := hR 29 0 1
  refine g_new (E := []) (G := []) (ci := 5) (fs := [.null, .int 0]) hx hb hf5 ⟨tyX5_ok, nmX5⟩ (hts (.classLink RX4 35 RX5) (by decide +kernel)) (hts (.instantiable RX5 2) (by decide +kernel)) (hts (.initialized RX5) (by decide +kernel)) (wx_of hw) hS hbs (fun j hj => by rcases (show j = 0 ∨ j = 1 by omega) with rfl | rfl <;> rfl) (by show _ ≤ (2 : Nat); omega) (by show _ ≤ (14 : Nat); omega) dX4_copyOfRow_0 (fun q1 H hwx hS => ?_)
  have hwx : wx D tc base (ad, cnt, X, Y, ln) ([] ++ [(q1, .inr (5, [.null, .int 0]))]) H := hwx
  have hw := wx_wd hwx
  refine lv_dup hx hb dX4_copyOfRow_3 rfl ?_
  refine lv_aload_n hx hb dX4_copyOfRow_4 rfl (lv_at hl 0 rfl) ?_
  refine x_geto hx hb hf4 hw (by omega) (by omega) sl_7_7 lk28 dX4_copyOfRow_5 ?_
  refine lv_iload_n hx hb dX4_copyOfRow_8 rfl (lv_at hl 1 rfl) ?_
  refine x_iald hx hb hK.1 hw (by omega) (by omega) ar_13 (len_E ar_13 (by decide)) (by omega) (by omega) (by omega) dX4_copyOfRow_9 ?_
  have f2 : 0 ≤ X 13 g i ∧ X 13 g i ≤ 12 := hR 13 g i
  refine gos_x (run_I (As := [.int (jI (X 13 g i))]) (rest := [.ref q1]) hx hb hml hown hts (c_X5_init l D tc base (ad, cnt, X, Y, ln) [] q1 (X 13 g i) (by omega)) (cwI 1 hts gX4_copyOfRow_X5_init rfl rfl rfl (hts (.initialized RX5) (by decide +kernel)) (hts (.methodLink RX4 44 yX5_init) (by decide +kernel)) (hts (.instanceMethod yX5_init) (by decide +kernel)) rfl (by decide +kernel) ⟨Nat.le_of_ble_eq_true rfl, Nat.le_of_ble_eq_true rfl⟩) hK hwx rfl hl.1 rfl (Nat.le_of_ble_eq_true rfl) dX4_copyOfRow_10 ⟨by show _ ≤ (2 : Nat); omega, by show _ ≤ (14 : Nat); omega⟩) hS (fun u9 E3 H locs p4 hwx hS => ?_)
  obtain ⟨g5, hg5⟩ : ∃ g, g = cnt 26 := ⟨_, rfl⟩
  obtain ⟨rfl, q9, rfl⟩ := p4
  have hwx := (show wx D tc base (ad, cnt, X, Y, ln) ([] ++ _) H from hwx)
  obtain ⟨ad, cnt, X6, ln, hw, hE7, hFx, hOw, hLn, hRX6, hG8, hCIX6, hkg5, hag5, hlng5⟩ := born_row hwx (by omega) hFx hOw (by omega) hR hLn hCI
  rw [← hg5] at hkg5 hag5 hlng5
  have hFX6 : Frm [2602, 2700] X X6 := Frm.tr Frm.rf (Frm.mono hG8 (by decide))
  have hE := Ext.tr hE hE7
  have hm10 := hE7.2.1 19
  have hm11 := hE7.2.1 25
  have hm12 := hE7.2.1 26
  have hN : 0 ≤ cnt 25 ∧ 0 ≤ cnt 26 := by omega
  have ha13 := hE7.1 7 g (by omega) (by omega)
  have hc7 : cnt 7 = 6 := hFx.at 7 6 (by decide)
  have hc13 : cnt 13 = 6 := hFx.at 13 6 (by decide)
  have hc14 : cnt 14 = 6 := hFx.at 14 6 (by decide)
  have hc27 : cnt 27 = cnt 26 := hFx.2.2
  have hl : lv_has ls 4 [(0, .ref (ad 7 g)), (1, .int (jI i))] := by rw [ha13]; exact hl
  refine W.eq (g2 := F0 m 13 ls [.ref (ad 26 g5)]) (by first | rfl | (rw [hag5]; done) | (rw [hag5]; rfl)) ?_
  refine lv_astore_n (lv' := [(2, .ref (ad 26 g5)), (0, .ref (ad 7 g)), (1, .int (jI i))]) hx hb dX4_copyOfRow_13 rfl hl (by decide) rfl (fun ls hl => ?_)
  refine lv_iconst (v := jI 0) hx hb dX4_copyOfRow_14 rfl ?_
  refine lv_istore_n (lv' := [(3, .int (jI 0)), (2, .ref (ad 26 g5)), (0, .ref (ad 7 g)), (1, .int (jI i))]) hx hb dX4_copyOfRow_15 rfl hl (by decide) rfl (fun ls hl => ?_)
  have lp16 : ∀ (nn : Nat) (j : Int) (Xa : Nat → Int → Int → Int) (cl sl : Nat) (H : Heap) (locs : List Loc) (ls : Array Slot), (12 - j) < (nn : Int) → (Rng Xa) → (Frm [2700] X6 Xa) → (0 ≤ j ∧ j ≤ 12) → (cl ≤ 2 ∧ sl ≤ 14) → wd D tc base (ad, cnt, Xa, Y, ln) H → va_S (frA base) s.heap H locs → lv_has ls 4 [(0, .ref (ad 7 g)), (1, .int (jI i)), (2, .ref (ad 26 g5)), (3, .int (jI j))] → W p l e ({ frames := 2, cells := 2, slots := 14, locals := 33 } : Room) s m av9 below meth c H locs cl sl Q9 (F0 m 16 ls []) := by
    intro nn
    induction nn with
    | zero => intro j Xa cl sl H locs ls hm hRXa hGXa hj hcl hw hS hl; exfalso; omega
    | succ nn ih16 =>
      intro j Xa cl sl H locs ls hm hRXa hGXa hj hcl hw hS hl
      have hFXa : Frm [2602, 2700] X Xa := Frm.tr hFX6 (Frm.mono hGXa (by decide))
      refine lv_iload_n hx hb dX4_copyOfRow_16 rfl (lv_at hl 3 rfl) ?_
      refine lv_aload_n hx hb dX4_copyOfRow_17 rfl (lv_at hl 2 rfl) ?_
      refine x_geto hx hb hf5 hw (by omega) (by omega) sl_26_0 lk43 dX4_copyOfRow_18 ?_
      have f14 : 0 ≤ ln g5 ∧ ln g5 ≤ 12 := hLn g5
      refine x_alenl hx hb hK.1 hw (by omega) (by omega) ar_27 (show lenE ln 27 g5 = ln g5 from rfl) (by omega) dX4_copyOfRow_21 ?_
      refine x_icmp_ge (tgt := 48) hx hb (by omega) (by omega) dX4_copyOfRow_22 (by decide) (fun c15 => ?_) (fun c15 => ?_)
      · refine lv_aload_n hx hb dX4_copyOfRow_48 rfl (lv_at hl 2 rfl) ?_
        rw [hQ9]
        refine ret_r (mc := 2) (ms := 14) (k := 26) (i := g5) hx hb hr hlocks hw hS (by omega) (by omega) dX4_copyOfRow_49 ?_
        have q16 : Frm [2700] X6 Xa := Frm.tr Frm.rf (Frm.mono hGXa (by decide))
        have hCq17 : CInv cnt Xa Y ln := cinv_frm (M := [2700]) (N := []) hCIX6 q16 Frm.rf (by decide) (by decide)
        exact ⟨ad, cnt, Xa, Y, ln, rfl, hE9 _ _ _ hE, hFx, hOw, hLn, hRXa, hFXa, Frm.rf, hCq17, ⟨_, rfl, by omega, by omega⟩⟩
      · refine lv_aload_n hx hb dX4_copyOfRow_25 rfl (lv_at hl 2 rfl) ?_
        refine x_geto hx hb hf5 hw (by omega) (by omega) sl_26_0 lk43 dX4_copyOfRow_26 ?_
        refine lv_iload_n hx hb dX4_copyOfRow_29 rfl (lv_at hl 3 rfl) ?_
        refine lv_aload_n hx hb dX4_copyOfRow_30 rfl (lv_at hl 0 rfl) ?_
        refine x_geto hx hb hf4 hw (by omega) (by omega) sl_7_8 lk31 dX4_copyOfRow_31 ?_
        refine lv_iload_n hx hb dX4_copyOfRow_34 rfl (lv_at hl 1 rfl) ?_
        refine lv_bipush (v := jI 12) hx hb dX4_copyOfRow_35 (by decide) ?_
        refine x_imul hx hb dX4_copyOfRow_37 ?_
        refine lv_iload_n hx hb dX4_copyOfRow_38 rfl (lv_at hl 3 rfl) ?_
        refine x_iadd hx hb dX4_copyOfRow_39 ?_
        refine x_lald hx hb hK.1 hw (by omega) (by omega) ar_14 (len_E ar_14 (by decide)) (by omega) (by omega) (by omega) dX4_copyOfRow_40 ?_
        have e18 : ∀ p9 q9 : Int, Xa 14 p9 q9 = X 14 p9 q9 := fun p9 q9 => by rw [hGXa 14 p9 q9 (show 1400 ∉ [2700] by decide), hG8 14 p9 q9 (show 1400 ∉ [2602, 2700] by decide)]
        rw [e18 g ((i * 12) + j)]
        have f19 : (-9223372036854775808) ≤ X 14 g ((i * 12) + j) ∧ X 14 g ((i * 12) + j) ≤ 9223372036854775807 := hR 14 g ((i * 12) + j)
        have f20 : 0 ≤ ln g5 ∧ ln g5 ≤ 12 := hLn g5
        refine x_last hx hb hK.1 hw hS (by omega) (by omega) ar_27 (show lenE ln 27 g5 = ln g5 from rfl) (by omega) (by omega) (by omega) dX4_copyOfRow_41 (fun H locs hw hS => ?_)
        obtain ⟨X21, hX21⟩ : ∃ Xq, Xq = u3 Xa 27 g5 j (X 14 g ((i * 12) + j)) := ⟨_, rfl⟩
        rw [← hX21] at hw
        have hRX21 : Rng X21 := by rw [hX21]; exact rng_set hRXa (show (-9223372036854775808) ≤ (X 14 g ((i * 12) + j)) ∧ (X 14 g ((i * 12) + j)) ≤ 9223372036854775807 by omega)
        have hVX21 : X21 27 g5 j = (X 14 g ((i * 12) + j)) := by rw [hX21]; exact u3_s _ _ _ _ _
        have hFX21 : Frm [2602, 2700] X X21 := by rw [hX21]; exact Frm.set hFXa (show 2700 ∈ [2602, 2700] by decide)
        refine lv_iinc (v := jI (j + 1)) (lv' := [(3, .int (jI (j + 1))), (0, .ref (ad 7 g)), (1, .int (jI i)), (2, .ref (ad 26 g5))]) hx hb dX4_copyOfRow_42 hl (k := 3) rfl (jI_add _ _) (by decide) rfl (fun ls hl => ?_)
        refine lv_goto (tgt := 16) hx hb dX4_copyOfRow_45 (by decide) ?_
        have q22 : Frm [2700] X6 Xa := Frm.tr Frm.rf (Frm.mono hGXa (by decide))
        have q23 : Frm [2700] X6 X21 := by rw [hX21]; exact Frm.set q22 (show 2700 ∈ [2700] by decide)
        exact ih16 (j + 1) X21 _ _ _ _ _ (by omega) hRX21 q23 (by omega) (by omega) hw hS (lv_sub hl [1, 2, 3, 0] rfl)
  exact lp16 (12 - 0 : Int).toNat.succ 0 X6 _ _ _ _ _ (by omega) hRX6 Frm.rf (by omega) (by omega) hw hS (lv_sub hl [2, 3, 1, 0] rfl)

set_option maxHeartbeats 4000000 in
set_option maxRecDepth 100000 in
theorem c_X8_rowPutBack (l : Launch) (D : va_G) (tc : Nat → ClassId) (base : Nat) (ad : Nat → Int → Nat) (cnt : Nat → Int) (X : Nat → Int → Int → Int) (Y : Nat → Int → Int → Option Int) (ln : Int → Int) (hR : Rng X) (hFx : Fx cnt) (hLn : LnOK ln) (hCI : CInv cnt X Y ln) (hOw : Own cnt) (hN : 0 ≤ cnt 25 ∧ 0 ≤ cnt 26) (g i lane : Int) (hg : 0 ≤ g ∧ g < 6) (hi0 : 0 ≤ i ∧ i ≤ 149) (hlane : 3 ≤ lane ∧ lane ≤ 5) : KR l D tc base 26 yX8_rowPutBack wsX8_rowPutBack ({ frames := 3, cells := 2, slots := 14, locals := 56 } : Room) [.ref (ad 0 0), .ref (ad 7 g), .int (jI i), .int (jI lane)] (ad, cnt, X, Y, ln) 2 14 (fun o u => ∃ (ad1 : Nat → Int → Nat) (cnt1 : Nat → Int) (X1 : Nat → Int → Int → Int) (Y1 : Nat → Int → Int → Option Int) (ln1 : Int → Int), u = (ad1, cnt1, X1, Y1, ln1) ∧ Ext ad cnt ln ad1 cnt1 ln1 ∧ Fx cnt1 ∧ Own cnt1 ∧ LnOK ln1 ∧ Rng X1 ∧ Frm [2602, 2700] X X1 ∧ Frm [600] Y Y1 ∧ CInv cnt1 X1 Y1 ln1 ∧ (∃ r9, o = some r9 ∧ 0 ≤ r9 ∧ r9 < cnt1 26)) := by
  refine K_of (cc := cX8_rowPutBack) (maxL := 5) (ret := (some (.object "StateRecords$Row"))) (by decide) rfl (Nat.le_of_ble_eq_true rfl) ?_
  intro p e s m below meth c ls hx hb hr hml hown hts hlocks hl hK hw hS
  have hown : s.vm.findClass RX8 = some m.cls := hown
  have hbs : base ≤ s.heap.size := wd_size hw
  obtain ⟨av9, hav9⟩ : ∃ a9 : Array Value, a9 = ([.ref (ad 0 0), .ref (ad 7 g), .int (jI i), .int (jI lane)] : List Value).toArray := ⟨_, rfl⟩
  rw [← hav9] at hts ⊢
  obtain ⟨Q9, hQ9⟩ : ∃ q : State → Prop, q = MQ below (QR D tc base 26 (fun o u => ∃ (ad1 : Nat → Int → Nat) (cnt1 : Nat → Int) (X1 : Nat → Int → Int → Int) (Y1 : Nat → Int → Int → Option Int) (ln1 : Int → Int), u = (ad1, cnt1, X1, Y1, ln1) ∧ Ext ad cnt ln ad1 cnt1 ln1 ∧ Fx cnt1 ∧ Own cnt1 ∧ LnOK ln1 ∧ Rng X1 ∧ Frm [2602, 2700] X X1 ∧ Frm [600] Y Y1 ∧ CInv cnt1 X1 Y1 ln1 ∧ (∃ r9, o = some r9 ∧ 0 ≤ r9 ∧ r9 < cnt1 26))) av9 s 2 14 (frA base) := ⟨_, rfl⟩
  rw [← hQ9]
  obtain ⟨ad0, ha0⟩ : ∃ a, a = ad := ⟨_, rfl⟩
  obtain ⟨cnt0, hc0⟩ : ∃ a, a = cnt := ⟨_, rfl⟩
  obtain ⟨ln0, hl0⟩ : ∃ a, a = ln := ⟨_, rfl⟩
  have hE9 : ∀ a c n, Ext ad0 cnt0 ln0 a c n → Ext ad cnt ln a c n := by rw [ha0, hc0, hl0]; exact fun _ _ _ h => h
  have hE : Ext ad0 cnt0 ln0 ad cnt ln := by rw [ha0, hc0, hl0]; exact Ext.rf
  clear ha0 hc0 hl0
  have hi8 : ∀ w ∈ wsX80, w ∈ wsX8_rowPutBack := fun w h => List.mem_cons_of_mem _ (List.mem_append_left _ (List.mem_append_left _ (List.mem_append_right _ h)))
  have hf8 : fctx s m _ RX8 wsX8_rowPutBack D tc RX8 TX8 12 8 := ⟨hts, hi8, hown, hK.1, rfl⟩
  have lk44 := hts (.fieldLink RX8 44 "StateRecords" "rowsPutBack" "[LStateRecords$Row;") (by decide +kernel)
  have hc0 : cnt 0 = 1 := hFx.at 0 1 (by decide)
  have hc6 : cnt 6 = 1 := hFx.at 6 1 (by decide)
  have hc7 : cnt 7 = 6 := hFx.at 7 6 (by decide)
  have hc27 : cnt 27 = cnt 26 := hFx.2.2
  have hl : lv_has ls 5 [(0, .ref (ad 0 0)), (1, .ref (ad 7 g)), (2, .int (jI i)), (3, .int (jI lane))] := hl
  have ftc : 0 ≤ X 0 0 3 ∧ X 0 0 3 ≤ 30 := hR 0 0 3
  have fty : 0 ≤ X 0 0 1 ∧ X 0 0 1 ≤ 8 := hR 0 0 1
  have hct : cnt 19 = X 0 0 1 := hCI.2.2.2.1.1
  have hfj : 0 ≤ X 29 0 3 ∧ X 29 0 3 ≤ 4 := hR 29 0 3
  have hfn : 0 ≤ X 29 0 1 ∧ X 29 0 1 ≤ 80 := hR 29 0 1
  refine lv_iload_n hx hb dX8_rowPutBack_0 rfl (lv_at hl 2 rfl) ?_
  refine lv_iconst (v := jI 3) hx hb dX8_rowPutBack_1 rfl ?_
  refine x_imul hx hb dX8_rowPutBack_2 ?_
  refine lv_iload_n hx hb dX8_rowPutBack_3 rfl (lv_at hl 3 rfl) ?_
  refine x_iadd hx hb dX8_rowPutBack_4 ?_
  refine lv_iconst (v := jI 3) hx hb dX8_rowPutBack_5 rfl ?_
  refine x_isub hx hb dX8_rowPutBack_6 ?_
  refine lv_istore (lv' := [(4, .int (jI (((i * 3) + lane) - 3))), (0, .ref (ad 0 0)), (1, .ref (ad 7 g)), (2, .int (jI i)), (3, .int (jI lane))]) hx hb dX8_rowPutBack_7 hl (by decide) rfl (fun ls hl => ?_)
  refine lv_aload_n hx hb dX8_rowPutBack_9 rfl (lv_at hl 1 rfl) ?_
  refine x_geto hx hb hf8 hw (by omega) (by omega) sl_0_9 lk44 dX8_rowPutBack_10 ?_
  refine lv_iload hx hb dX8_rowPutBack_13 (lv_at hl 0 rfl) ?_
  refine x_aald hx hb hK.1 hw (by omega) (by omega) ar_6 rfl (len_E ar_6 (by decide)) (by omega) (by omega) (by omega) dX8_rowPutBack_15 (fun y1 => ?_) (fun r2 y1 gr2 lr2 => ?_)
  · refine lv_ifnonnullN hx hb dX8_rowPutBack_16 ?_
    refine lv_aload_n hx hb dX8_rowPutBack_19 rfl (lv_at hl 1 rfl) ?_
    refine x_geto hx hb hf8 hw (by omega) (by omega) sl_0_9 lk44 dX8_rowPutBack_20 ?_
    refine lv_iload hx hb dX8_rowPutBack_23 (lv_at hl 0 rfl) ?_
    refine lv_aload_n hx hb dX8_rowPutBack_25 rfl (lv_at hl 2 rfl) ?_
    refine lv_iload_n hx hb dX8_rowPutBack_26 rfl (lv_at hl 3 rfl) ?_
    refine gos_r (run_V (As := [.int (jI i)]) (rest := [.int (jI (((i * 3) + lane) - 3)), .ref (ad 6 0)]) hx hb hml hown hts (c_X4_copyOfRow l D tc base ad cnt X Y ln hR hFx hLn hCI hOw hN g i (by omega) (by omega)) (cwV 1 hts gX8_rowPutBack_X4_copyOfRow rfl rfl rfl (by decide +kernel) ⟨Nat.le_of_ble_eq_true rfl, Nat.le_of_ble_eq_true rfl⟩) hK hw (by omega) (by omega) sl_7_0 rfl rfl hl.1 rfl (Nat.le_of_ble_eq_true rfl) dX8_rowPutBack_27 ⟨(by show _ ≤ (2 : Nat); omega), (by show _ ≤ (14 : Nat); omega)⟩) hS (fun u4 H locs p5 hw hS => ?_) (fun z3 u4 H locs p5 hw hS => ?_)
    · obtain ⟨ad, cnt, X6, Y7, ln, eu4, hE8, hFx, hOw, hLn, hRX6, hG9, hJ10, hCIX6, p5⟩ := p5
      subst eu4
      obtain ⟨r9, e9, -⟩ := p5
      cases e9
    · obtain ⟨ad, cnt, X11, Y12, ln, eu4, hE13, hFx, hOw, hLn, hRX11, hG14, hJ15, hCIX11, p5⟩ := p5
      subst eu4
      have hFX11 : Frm [2602, 2700] X X11 := Frm.tr Frm.rf (Frm.mono hG14 (by decide))
      have hHY12 : Frm [600] Y Y12 := Frm.tr Frm.rf (Frm.mono hJ15 (by decide))
      have hz3 : 0 ≤ z3 ∧ z3 < cnt 26 := by obtain ⟨r9, e9, h1, h2⟩ := p5; cases e9; exact ⟨h1, h2⟩
      have hE := Ext.tr hE hE13
      have hm16 := hE13.2.1 19
      have hm17 := hE13.2.1 25
      have hm18 := hE13.2.1 26
      have hN : 0 ≤ cnt 25 ∧ 0 ≤ cnt 26 := by omega
      have ha19 := hE13.1 0 0 (by omega) (by omega)
      have ha20 := hE13.1 7 g (by omega) (by omega)
      have ha21 := hE13.1 6 0 (by omega) (by omega)
      have hc0 : cnt 0 = 1 := hFx.at 0 1 (by decide)
      have hc6 : cnt 6 = 1 := hFx.at 6 1 (by decide)
      have hc7 : cnt 7 = 6 := hFx.at 7 6 (by decide)
      have hc27 : cnt 27 = cnt 26 := hFx.2.2
      have hl : lv_has ls 5 [(4, .int (jI (((i * 3) + lane) - 3))), (0, .ref (ad 0 0)), (1, .ref (ad 7 g)), (2, .int (jI i)), (3, .int (jI lane))] := by rw [ha19, ha20]; exact hl
      refine W.eq (g2 := F0 m 30 ls [.ref (ad 26 z3), .int (jI (((i * 3) + lane) - 3)), .ref (ad 6 0)]) (by first | rfl | (rw [ha21]; done) | (rw [ha21]; rfl)) ?_
      refine x_aast hx hb hK.1 hw hS (by omega) (by omega) ar_6 rfl rfl sl_26_0 (len_E ar_6 (by decide)) (by omega) (by omega) (by omega) (by omega) (by omega) dX8_rowPutBack_30 (fun H locs hw hS => ?_)
      obtain ⟨Y22, hY22⟩ : ∃ Yq, Yq = u3 Y12 6 0 (((i * 3) + lane) - 3) (some z3) := ⟨_, rfl⟩
      rw [← hY22] at hw
      have hVY22 : Y22 6 0 (((i * 3) + lane) - 3) = (some z3) := by rw [hY22]; exact u3_s _ _ _ _ _
      have hHY22 : Frm [600] Y Y22 := by rw [hY22]; exact Frm.set hHY12 (show 600 ∈ [600] by decide)
      refine lv_aload_n hx hb dX8_rowPutBack_31 rfl (lv_at hl 1 rfl) ?_
      refine x_geto hx hb hf8 hw (by omega) (by omega) sl_0_9 lk44 dX8_rowPutBack_32 ?_
      refine lv_iload hx hb dX8_rowPutBack_35 (lv_at hl 0 rfl) ?_
      refine x_aald hx hb hK.1 hw (by omega) (by omega) ar_6 rfl (len_E ar_6 (by decide)) (by omega) (by omega) (by omega) dX8_rowPutBack_37 (fun y23 => ?_) (fun r24 y23 gr24 lr24 => ?_)
      · exfalso
        rw [hVY22] at y23; cases y23
      · have er24 : r24 = z3 := by rw [hVY22] at y23; cases y23; rfl
        rw [er24]
        rw [hQ9]
        refine ret_r (mc := 2) (ms := 14) (k := 26) (i := z3) hx hb hr hlocks hw hS (by omega) (by omega) dX8_rowPutBack_38 ?_
        have q25 : Frm [600] Y12 Y22 := by rw [hY22]; exact Frm.set Frm.rf (show 600 ∈ [600] by decide)
        have hCq26 : CInv cnt X11 Y22 ln := cinv_frm (M := []) (N := [600]) hCIX11 Frm.rf q25 (by decide) (by decide)
        exact ⟨ad, cnt, X11, Y22, ln, rfl, hE9 _ _ _ hE, hFx, hOw, hLn, hRX11, hFX11, hHY22, hCq26, ⟨_, rfl, by omega, by omega⟩⟩
  · refine lv_ifnonnull (tgt := 31) hx hb dX8_rowPutBack_16 (by decide) ?_
    refine lv_aload_n hx hb dX8_rowPutBack_31 rfl (lv_at hl 1 rfl) ?_
    refine x_geto hx hb hf8 hw (by omega) (by omega) sl_0_9 lk44 dX8_rowPutBack_32 ?_
    refine lv_iload hx hb dX8_rowPutBack_35 (lv_at hl 0 rfl) ?_
    refine x_aald hx hb hK.1 hw (by omega) (by omega) ar_6 rfl (len_E ar_6 (by decide)) (by omega) (by omega) (by omega) dX8_rowPutBack_37 (fun y27 => ?_) (fun r28 y27 gr28 lr28 => ?_)
    · exfalso
      rw [y1] at y27; cases y27
    · have er28 : r28 = r2 := by rw [y1] at y27; cases y27; rfl
      rw [er28]
      rw [hQ9]
      refine ret_r (mc := 2) (ms := 14) (k := 26) (i := r2) hx hb hr hlocks hw hS (by omega) (by omega) dX8_rowPutBack_38 ?_
      exact ⟨ad, cnt, X, Y, ln, rfl, hE9 _ _ _ hE, hFx, hOw, hLn, hR, Frm.rf, Frm.rf, hCI, ⟨_, rfl, by omega, by omega⟩⟩

set_option maxHeartbeats 4000000 in
set_option maxRecDepth 100000 in
theorem c_X8_addThings (l : Launch) (D : va_G) (tc : Nat → ClassId) (base : Nat) (ad : Nat → Int → Nat) (cnt : Nat → Int) (X : Nat → Int → Int → Int) (Y : Nat → Int → Int → Option Int) (ln : Int → Int) (hR : Rng X) (hFx : Fx cnt) (hLn : LnOK ln) (hCI : CInv cnt X Y ln) (g : Int) (hg : 0 ≤ g ∧ g < 6) (hfit : X 0 0 3 + X 7 g 0 ≤ 30) : KV l D tc base yX8_addThings wsX8_addThings ({ frames := 2, cells := 0, slots := 0, locals := 43 } : Room) [.ref (ad 0 0), .ref (ad 7 g)] (ad, cnt, X, Y, ln) 0 0 (fun u => ∃ (X1 : Nat → Int → Int → Int) (Y1 : Nat → Int → Int → Option Int), u = (ad, cnt, X1, Y1, ln) ∧ Rng X1 ∧ Frm [4, 1600] X X1 ∧ Frm [1501, 1700] Y Y1 ∧ CInv cnt X1 Y1 ln ∧ (0 : Int) ≤ 0 ∧ X1 0 0 3 = X 0 0 3 + X 7 g 0) := by
  refine K_of (cc := cX8_addThings) (maxL := 3) (ret := none) (by decide) rfl (Nat.le_of_ble_eq_true rfl) ?_
  intro p e s m below meth c ls hx hb hr hml hown hts hlocks hl hK hw hS
  have hown : s.vm.findClass RX8 = some m.cls := hown
  have hi4 : ∀ w ∈ wsX40, w ∈ wsX8_addThings := fun w h => List.mem_cons_of_mem _ (List.mem_append_left _ (List.mem_append_left _ (List.mem_append_left _ (List.mem_append_right _ h))))
  have hf4 : fctx s m _ RX8 wsX8_addThings D tc RX4 TX4 9 4 := ⟨hts, hi4, hown, hK.1, rfl⟩
  have hi8 : ∀ w ∈ wsX80, w ∈ wsX8_addThings := fun w h => List.mem_cons_of_mem _ (List.mem_append_left _ (List.mem_append_left _ (List.mem_append_right _ h)))
  have hf8 : fctx s m _ RX8 wsX8_addThings D tc RX8 TX8 12 8 := ⟨hts, hi8, hown, hK.1, rfl⟩
  have lk11 := hts (.fieldLink RX8 11 "StateRecords" "types" "[LStateRecords$Type;") (by decide +kernel)
  have lk17 := hts (.fieldLink RX8 17 "StateRecords" "things" "[LStateRecords$Thing;") (by decide +kernel)
  have lk94 := hts (.fieldLink RX8 94 "StateRecords" "thingCount" "I") (by decide +kernel)
  have lk231 := hts (.fieldLink RX8 231 "StateRecords$Records" "recordCount" "I") (by decide +kernel)
  have lk336 := hts (.fieldLink RX8 336 "StateRecords$Records" "types" "[I") (by decide +kernel)
  have hc0 : cnt 0 = 1 := hFx.at 0 1 (by decide)
  have hc1 : cnt 1 = 1 := hFx.at 1 1 (by decide)
  have hc2 : cnt 2 = 1 := hFx.at 2 1 (by decide)
  have hc7 : cnt 7 = 6 := hFx.at 7 6 (by decide)
  have hc8 : cnt 8 = 6 := hFx.at 8 6 (by decide)
  have hc15 : cnt 15 = 30 := hFx.at 15 30 (by decide)
  have hl : lv_has ls 3 [(0, .ref (ad 0 0)), (1, .ref (ad 7 g))] := hl
  have ftc : 0 ≤ X 0 0 3 ∧ X 0 0 3 ≤ 30 := hR 0 0 3
  have fty : 0 ≤ X 0 0 1 ∧ X 0 0 1 ≤ 8 := hR 0 0 1
  have hct : cnt 19 = X 0 0 1 := hCI.2.2.2.1.1
  have hfj : 0 ≤ X 29 0 3 ∧ X 29 0 3 ≤ 4 := hR 29 0 3
  have hfn : 0 ≤ X 29 0 1 ∧ X 29 0 1 ≤ 80 := hR 29 0 1
  have frc : 0 ≤ X 7 g 0 ∧ X 7 g 0 ≤ 30 := hR 7 g 0
  refine lv_iconst (v := jI 0) hx hb dX8_addThings_0 rfl ?_
  refine lv_istore_n (lv' := [(2, .int (jI 0)), (0, .ref (ad 0 0)), (1, .ref (ad 7 g))]) hx hb dX8_addThings_1 rfl hl (by decide) rfl (fun ls hl => ?_)
  have lp2 : ∀ (nn : Nat) (r : Int) (Xa : Nat → Int → Int → Int) (Ya : Nat → Int → Int → Option Int) (H : Heap) (locs : List Loc) (ls : Array Slot), (30 - r) < (nn : Int) → (Rng Xa) → (Frm [4, 1600] X Xa) → (Frm [1501, 1700] Y Ya) → (0 ≤ r ∧ r ≤ X 7 g 0) → (Xa 0 0 3 = X 0 0 3 + r) → (CInv cnt Xa Ya ln) → wd D tc base (ad, cnt, Xa, Ya, ln) H → va_S (frA base) s.heap H locs → lv_has ls 3 [(0, .ref (ad 0 0)), (1, .ref (ad 7 g)), (2, .int (jI r))] → W p l e ({ frames := 2, cells := 0, slots := 0, locals := 43 } : Room) s m ([.ref (ad 0 0), .ref (ad 7 g)] : List Value).toArray below meth c H locs 0 0 (MQ below (QV D tc base (fun u => ∃ (X1 : Nat → Int → Int → Int) (Y1 : Nat → Int → Int → Option Int), u = (ad, cnt, X1, Y1, ln) ∧ Rng X1 ∧ Frm [4, 1600] X X1 ∧ Frm [1501, 1700] Y Y1 ∧ CInv cnt X1 Y1 ln ∧ (0 : Int) ≤ 0 ∧ X1 0 0 3 = X 0 0 3 + X 7 g 0)) ([.ref (ad 0 0), .ref (ad 7 g)] : List Value).toArray s 0 0 (frA base)) (F0 m 2 ls []) := by
    intro nn
    induction nn with
    | zero => intro r Xa Ya H locs ls hm hRXa hGXa hGYa hr0 htc hCIXa hw hS hl; exfalso; omega
    | succ nn ih2 =>
      intro r Xa Ya H locs ls hm hRXa hGXa hGYa hr0 htc hCIXa hw hS hl
      have hHYa : Frm [1501, 1700] Y Ya := Frm.tr Frm.rf (Frm.mono hGYa (by decide))
      have hFXa : Frm [4, 1600] X Xa := Frm.tr Frm.rf (Frm.mono hGXa (by decide))
      refine lv_iload_n hx hb dX8_addThings_2 rfl (lv_at hl 2 rfl) ?_
      refine lv_aload_n hx hb dX8_addThings_3 rfl (lv_at hl 1 rfl) ?_
      refine x_geti (jz := 0) hx hb hf4 hw (by omega) (by omega) sl_7_0 rfl lk231 dX8_addThings_4 ?_
      have e1 : Xa 7 g 0 = X 7 g 0 := by rw [hGXa 7 g 0 (show 701 ∉ [4, 1600] by decide)]
      rw [e1]
      have f2 : 0 ≤ X 7 g 0 ∧ X 7 g 0 ≤ 30 := hR 7 g 0
      refine x_icmp_ge (tgt := 49) hx hb (by omega) (by omega) dX8_addThings_7 (by decide) (fun c3 => ?_) (fun c3 => ?_)
      · refine ret_v (mc := 0) (ms := 0) hx hb hr hlocks hw hS (by omega) (by omega) dX8_addThings_49 ?_
        exact ⟨Xa, Ya, rfl, hRXa, hFXa, hHYa, hCIXa, by omega, by omega⟩
      · refine lv_aload_n hx hb dX8_addThings_10 rfl (lv_at hl 0 rfl) ?_
        refine x_geto hx hb hf8 hw (by omega) (by omega) sl_0_2 lk17 dX8_addThings_11 ?_
        refine lv_aload_n hx hb dX8_addThings_14 rfl (lv_at hl 0 rfl) ?_
        refine x_geti (jz := 3) hx hb hf8 hw (by omega) (by omega) sl_0_3 rfl lk94 dX8_addThings_15 ?_
        have f4 : 0 ≤ Xa 0 0 3 ∧ Xa 0 0 3 ≤ 30 := hRXa 0 0 3
        refine x_aald hx hb hK.1 hw (by omega) (by omega) ar_2 rfl (len_E ar_2 (by decide)) (by omega) (by omega) (by omega) dX8_addThings_18 (fun y5 => ?_) (fun r6 y5 gr6 lr6 => ?_)
        · exfalso
          have e7 : ∀ p9 q9 : Int, Ya 2 p9 q9 = Y 2 p9 q9 := fun p9 q9 => by rw [hGYa 2 p9 q9 (show 200 ∉ [1501, 1700] by decide)]
          rw [e7] at y5
          have h9 := hCI.1 (Xa 0 0 3) (by omega) (by omega); rw [h9] at y5; cases y5
        · have e8 : ∀ p9 q9 : Int, Ya 2 p9 q9 = Y 2 p9 q9 := fun p9 q9 => by rw [hGYa 2 p9 q9 (show 200 ∉ [1501, 1700] by decide)]
          rw [e8] at y5
          have er6 : r6 = (Xa 0 0 3) := by have h9 := hCI.1 (Xa 0 0 3) (by omega) (by omega); rw [h9] at y5; cases y5; rfl
          rw [er6]
          refine lv_aload_n hx hb dX8_addThings_19 rfl (lv_at hl 0 rfl) ?_
          refine x_geto hx hb hf8 hw (by omega) (by omega) sl_0_0 lk11 dX8_addThings_20 ?_
          refine lv_aload_n hx hb dX8_addThings_23 rfl (lv_at hl 1 rfl) ?_
          refine x_geto hx hb hf4 hw (by omega) (by omega) sl_7_1 lk336 dX8_addThings_24 ?_
          refine lv_iload_n hx hb dX8_addThings_27 rfl (lv_at hl 2 rfl) ?_
          have h89 := hCI.2.2.2.2.2.2.1 g r (by omega) (by omega) (by omega) (by omega)
          refine x_iald hx hb hK.1 hw (by omega) (by omega) ar_8 (len_E ar_8 (by decide)) (by omega) (by omega) (by omega) dX8_addThings_28 ?_
          have e9 : ∀ p9 q9 : Int, Xa 8 p9 q9 = X 8 p9 q9 := fun p9 q9 => by rw [hGXa 8 p9 q9 (show 800 ∉ [4, 1600] by decide)]
          rw [e9 g r]
          have f10 : 0 ≤ X 8 g r ∧ X 8 g r ≤ 7 := hR 8 g r
          refine x_aald hx hb hK.1 hw (by omega) (by omega) ar_1 rfl (len_E ar_1 (by decide)) (by omega) (by omega) (by omega) dX8_addThings_29 (fun y11 => ?_) (fun r12 y11 gr12 lr12 => ?_)
          · exfalso
            have e13 : ∀ p9 q9 : Int, Ya 1 p9 q9 = Y 1 p9 q9 := fun p9 q9 => by rw [hGYa 1 p9 q9 (show 100 ∉ [1501, 1700] by decide)]
            rw [e13] at y11
            have h9 := (hCI.2.2.2.1.2 (X 8 g r) (by omega) (by omega)).1; rw [h9] at y11; cases y11
          · have e14 : ∀ p9 q9 : Int, Ya 1 p9 q9 = Y 1 p9 q9 := fun p9 q9 => by rw [hGYa 1 p9 q9 (show 100 ∉ [1501, 1700] by decide)]
            rw [e14] at y11
            have er12 : r12 = (X 8 g r) := by have h9 := (hCI.2.2.2.1.2 (X 8 g r) (by omega) (by omega)).1; rw [h9] at y11; cases y11; rfl
            rw [er12]
            refine gos_v (run_V (As := [.ref (ad 19 (X 8 g r))]) (rest := []) hx hb hml hown hts (c_X6_become l D tc base ad cnt Xa Ya ln hRXa hFx hLn hCIXa (Xa 0 0 3) (X 8 g r) (by omega) (by omega)) (cwV 1 hts gX8_addThings_X6_become rfl rfl rfl (by decide +kernel) ⟨Nat.le_of_ble_eq_true rfl, Nat.le_of_ble_eq_true rfl⟩) hK hw (by omega) (by omega) sl_15_0 rfl rfl hl.1 rfl (Nat.le_of_ble_eq_true rfl) dX8_addThings_30 ⟨Nat.le_of_ble_eq_true rfl, Nat.le_of_ble_eq_true rfl⟩) hS (fun u16 H locs p17 hw hS => ?_)
            obtain ⟨X18, Y19, eu16, hRX18, hG20, hJ21, hCIX18, p17, hytX18⟩ := p17
            subst eu16
            have hFX18 : Frm [4, 1600] X X18 := Frm.tr hFXa (Frm.mono hG20 (by decide))
            have hHY19 : Frm [1501, 1700] Y Y19 := Frm.tr hHYa (Frm.mono hJ21 (by decide))
            refine lv_aload_n hx hb dX8_addThings_33 rfl (lv_at hl 0 rfl) ?_
            refine lv_dup hx hb dX8_addThings_34 rfl ?_
            refine x_geti (jz := 3) hx hb hf8 hw (by omega) (by omega) sl_0_3 rfl lk94 dX8_addThings_35 ?_
            have e22 : X18 0 0 3 = Xa 0 0 3 := by rw [hG20 0 0 3 (show 4 ∉ [1600] by decide)]
            rw [e22]
            have f23 : 0 ≤ Xa 0 0 3 ∧ Xa 0 0 3 ≤ 30 := hRXa 0 0 3
            refine lv_iconst (v := jI 1) hx hb dX8_addThings_38 rfl ?_
            refine x_iadd hx hb dX8_addThings_39 ?_
            refine x_puti (jz := 3) hx hb hf8 ⟨tyX8_ok, nmX8⟩ hw hS (by omega) (by omega) sl_0_3 rfl lk94 rfl (tyX8_ok 3 (by decide)) rfl rfl dX8_addThings_40 (fun H locs hw hS => ?_)
            obtain ⟨X24, hX24⟩ : ∃ Xq, Xq = u3 X18 0 0 3 ((Xa 0 0 3) + 1) := ⟨_, rfl⟩
            rw [← hX24] at hw
            have hRX24 : Rng X24 := by rw [hX24]; exact rng_set hRX18 (show 0 ≤ ((Xa 0 0 3) + 1) ∧ ((Xa 0 0 3) + 1) ≤ 30 by omega)
            have hVX24 : X24 0 0 3 = ((Xa 0 0 3) + 1) := by rw [hX24]; exact u3_s _ _ _ _ _
            have hFX24 : Frm [4, 1600] X X24 := by rw [hX24]; exact Frm.set hFX18 (show 4 ∈ [4, 1600] by decide)
            refine lv_iinc (v := jI (r + 1)) (lv' := [(2, .int (jI (r + 1))), (0, .ref (ad 0 0)), (1, .ref (ad 7 g))]) hx hb dX8_addThings_43 hl (k := 2) rfl (jI_add _ _) (by decide) rfl (fun ls hl => ?_)
            refine lv_goto (tgt := 2) hx hb dX8_addThings_46 (by decide) ?_
            have q25 : Frm [4, 1600] X Xa := Frm.tr Frm.rf (Frm.mono hGXa (by decide))
            have q26 : Frm [4, 1600] X X18 := Frm.tr q25 (Frm.mono hG20 (by decide))
            have q27 : Frm [4, 1600] X X24 := by rw [hX24]; exact Frm.set q26 (show 4 ∈ [4, 1600] by decide)
            have q28 : Frm [1501, 1700] Y Ya := Frm.tr Frm.rf (Frm.mono hGYa (by decide))
            have q29 : Frm [1501, 1700] Y Y19 := Frm.tr q28 (Frm.mono hJ21 (by decide))
            have e30 : X18 0 0 3 = Xa 0 0 3 := (by rw [hG20 0 0 3 (show 4 ∉ [1600] by decide)])
            have q31 : Frm [4] X18 X24 := by rw [hX24]; exact Frm.set Frm.rf (show 4 ∈ [4] by decide)
            exact ih2 (r + 1) X24 Y19 _ _ _ (by omega) hRX24 q27 q29 (by omega) (by rw [hVX24]; omega) ((cinv_things hCIX18 q31 (fun x9 a b c => by rw [hVX24] at b; rw [e30] at c; rw [show x9 = Xa 0 0 3 by omega, hytX18]; exact fun q => by cases q))) hw hS (lv_sub hl [1, 2, 0] rfl)
  exact lp2 (30 - 0 : Int).toNat.succ 0 X Y _ _ _ (by omega) hR Frm.rf Frm.rf (by omega) (by omega) (hCI) hw hS (lv_sub hl [1, 2, 0] rfl)

set_option maxHeartbeats 4000000 in
set_option maxRecDepth 100000 in
theorem c_X8_fillField (l : Launch) (D : va_G) (tc : Nat → ClassId) (base : Nat) (ad : Nat → Int → Nat) (cnt : Nat → Int) (X : Nat → Int → Int → Int) (Y : Nat → Int → Int → Option Int) (ln : Int → Int) (hR : Rng X) (hFx : Fx cnt) (hLn : LnOK ln) (hCI : CInv cnt X Y ln) (hOw : Own cnt) (hN : 0 ≤ cnt 25 ∧ 0 ≤ cnt 26) (x g slot f rule : Int) (hx0 : 0 ≤ x ∧ x ≤ 29) (hxt : x < X 0 0 3) (hg : 0 ≤ g ∧ g < 6) (hsl : 0 ≤ slot ∧ slot ≤ 149) (hf : 0 ≤ f ∧ f ≤ 30) (hrule : -2147483648 ≤ rule ∧ rule ≤ 2147483647) (hv : 2 ≤ X 11 g slot → -1 ≤ X 12 g slot ∧ X 12 g slot ≤ 149) : KI l D tc base yX8_fillField wsX8_fillField ({ frames := 4, cells := 2, slots := 14, locals := 80 } : Room) [.ref (ad 0 0), .ref (ad 15 x), .ref (ad 7 g), .int (jI slot), .int (jI f), .int (jI rule)] (ad, cnt, X, Y, ln) 2 14 (fun z u => ∃ (ad1 : Nat → Int → Nat) (cnt1 : Nat → Int) (X1 : Nat → Int → Int → Int) (Y1 : Nat → Int → Int → Option Int) (ln1 : Int → Int), u = (ad1, cnt1, X1, Y1, ln1) ∧ Ext ad cnt ln ad1 cnt1 ln1 ∧ Fx cnt1 ∧ Own cnt1 ∧ LnOK ln1 ∧ Rng X1 ∧ Frm [1600, 2602, 2700] X X1 ∧ Frm [1700, 600] Y Y1 ∧ CInv cnt1 X1 Y1 ln1 ∧ (0 ≤ z ∧ z ≤ 10)) := by
  refine K_of (cc := cX8_fillField) (maxL := 10) (ret := (some .int)) (by decide) rfl (Nat.le_of_ble_eq_true rfl) ?_
  intro p e s m below meth c ls hx hb hr hml hown hts hlocks hl hK hw hS
  have hown : s.vm.findClass RX8 = some m.cls := hown
  have hbs : base ≤ s.heap.size := wd_size hw
  obtain ⟨av9, hav9⟩ : ∃ a9 : Array Value, a9 = ([.ref (ad 0 0), .ref (ad 15 x), .ref (ad 7 g), .int (jI slot), .int (jI f), .int (jI rule)] : List Value).toArray := ⟨_, rfl⟩
  rw [← hav9] at hts ⊢
  obtain ⟨Q9, hQ9⟩ : ∃ q : State → Prop, q = MQ below (QI D tc base (fun z u => ∃ (ad1 : Nat → Int → Nat) (cnt1 : Nat → Int) (X1 : Nat → Int → Int → Int) (Y1 : Nat → Int → Int → Option Int) (ln1 : Int → Int), u = (ad1, cnt1, X1, Y1, ln1) ∧ Ext ad cnt ln ad1 cnt1 ln1 ∧ Fx cnt1 ∧ Own cnt1 ∧ LnOK ln1 ∧ Rng X1 ∧ Frm [1600, 2602, 2700] X X1 ∧ Frm [1700, 600] Y Y1 ∧ CInv cnt1 X1 Y1 ln1 ∧ (0 ≤ z ∧ z ≤ 10))) av9 s 2 14 (frA base) := ⟨_, rfl⟩
  rw [← hQ9]
  obtain ⟨ad0, ha0⟩ : ∃ a, a = ad := ⟨_, rfl⟩
  obtain ⟨cnt0, hc0⟩ : ∃ a, a = cnt := ⟨_, rfl⟩
  obtain ⟨ln0, hl0⟩ : ∃ a, a = ln := ⟨_, rfl⟩
  have hE9 : ∀ a c n, Ext ad0 cnt0 ln0 a c n → Ext ad cnt ln a c n := by rw [ha0, hc0, hl0]; exact fun _ _ _ h => h
  have hE : Ext ad0 cnt0 ln0 ad cnt ln := by rw [ha0, hc0, hl0]; exact Ext.rf
  clear ha0 hc0 hl0
  have hi4 : ∀ w ∈ wsX40, w ∈ wsX8_fillField := fun w h => List.mem_cons_of_mem _ (List.mem_append_left _ (List.mem_append_left _ (List.mem_append_left _ (List.mem_append_right _ h))))
  have hf4 : fctx s m _ RX8 wsX8_fillField D tc RX4 TX4 9 4 := ⟨hts, hi4, hown, hK.1, rfl⟩
  have hi6 : ∀ w ∈ wsX60, w ∈ wsX8_fillField := fun w h => List.mem_cons_of_mem _ (List.mem_append_left _ (List.mem_append_left _ (List.mem_append_left _ (List.mem_append_left _ (List.mem_append_right _ h)))))
  have hf6 : fctx s m _ RX8 wsX8_fillField D tc RX6 TX6 4 6 := ⟨hts, hi6, hown, hK.1, rfl⟩
  have hi7 : ∀ w ∈ wsX70, w ∈ wsX8_fillField := fun w h => List.mem_cons_of_mem _ (List.mem_append_left _ (List.mem_append_left _ (List.mem_append_right _ h)))
  have hf7 : fctx s m _ RX8 wsX8_fillField D tc RX7 TX7 8 7 := ⟨hts, hi7, hown, hK.1, rfl⟩
  have lk97 := hts (.fieldLink RX8 97 "StateRecords$Thing" "type" "LStateRecords$Type;") (by decide +kernel)
  have lk135 := hts (.fieldLink RX8 135 "StateRecords$Type" "lanes" "[I") (by decide +kernel)
  have lk158 := hts (.fieldLink RX8 158 "StateRecords$Thing" "rows" "[LStateRecords$Row;") (by decide +kernel)
  have lk193 := hts (.fieldLink RX8 193 "StateRecords$Thing" "values" "[J") (by decide +kernel)
  have lk224 := hts (.fieldLink RX8 224 "StateRecords$Records" "names" "[I") (by decide +kernel)
  have lk341 := hts (.fieldLink RX8 341 "StateRecords$Records" "lanes" "[I") (by decide +kernel)
  have lk342 := hts (.fieldLink RX8 342 "StateRecords$Records" "values" "[J") (by decide +kernel)
  have hc0 : cnt 0 = 1 := hFx.at 0 1 (by decide)
  have hc6 : cnt 6 = 1 := hFx.at 6 1 (by decide)
  have hc7 : cnt 7 = 6 := hFx.at 7 6 (by decide)
  have hc10 : cnt 10 = 6 := hFx.at 10 6 (by decide)
  have hc11 : cnt 11 = 6 := hFx.at 11 6 (by decide)
  have hc12 : cnt 12 = 6 := hFx.at 12 6 (by decide)
  have hc15 : cnt 15 = 30 := hFx.at 15 30 (by decide)
  have hc16 : cnt 16 = 30 := hFx.at 16 30 (by decide)
  have hc17 : cnt 17 = 30 := hFx.at 17 30 (by decide)
  have hc21 : cnt 21 = cnt 19 := hFx.2.1 21 (by decide)
  have hc27 : cnt 27 = cnt 26 := hFx.2.2
  have hl : lv_has ls 10 [(0, .ref (ad 0 0)), (1, .ref (ad 15 x)), (2, .ref (ad 7 g)), (3, .int (jI slot)), (4, .int (jI f)), (5, .int (jI rule))] := hl
  have ftc : 0 ≤ X 0 0 3 ∧ X 0 0 3 ≤ 30 := hR 0 0 3
  have fty : 0 ≤ X 0 0 1 ∧ X 0 0 1 ≤ 8 := hR 0 0 1
  have hct : cnt 19 = X 0 0 1 := hCI.2.2.2.1.1
  have hfj : 0 ≤ X 29 0 3 ∧ X 29 0 3 ≤ 4 := hR 29 0 3
  have hfn : 0 ≤ X 29 0 1 ∧ X 29 0 1 ≤ 80 := hR 29 0 1
  refine lv_aload_n hx hb dX8_fillField_0 rfl (lv_at hl 1 rfl) ?_
  refine x_getr (jz := 0) hx hb hf6 hw (by omega) (by omega) sl_15_0 rfl lk97 dX8_fillField_1 (fun y1 => ?_) (fun r2 y1 gr2 lr2 => ?_)
  · exfalso
    exact absurd y1 (hCI.2.2.2.2.1 x (by omega) (by omega))
  · refine lv_aload_n hx hb dX8_fillField_4 rfl (lv_at hl 2 rfl) ?_
    refine x_geto hx hb hf4 hw (by omega) (by omega) sl_7_3 lk224 dX8_fillField_5 ?_
    refine lv_iload_n hx hb dX8_fillField_8 rfl (lv_at hl 3 rfl) ?_
    refine x_iald hx hb hK.1 hw (by omega) (by omega) ar_10 (len_E ar_10 (by decide)) (by omega) (by omega) (by omega) dX8_fillField_9 ?_
    have f3 : 0 ≤ X 10 g slot ∧ X 10 g slot ≤ 19 := hR 10 g slot
    refine gos_i (run_V (As := [.int (jI (X 10 g slot))]) (rest := []) hx hb hml hown hts (c_X7_fieldNamed l D tc base ad cnt X Y ln hR hFx hLn r2 (X 10 g slot) (by omega) (by omega)) (cwV 1 hts gX8_fillField_X7_fieldNamed rfl rfl rfl (by decide +kernel) ⟨Nat.le_of_ble_eq_true rfl, Nat.le_of_ble_eq_true rfl⟩) hK hw (by omega) (by omega) sl_19_0 rfl rfl hl.1 rfl (Nat.le_of_ble_eq_true rfl) dX8_fillField_10 ⟨(by show _ ≤ (2 : Nat); omega), (by show _ ≤ (14 : Nat); omega)⟩) hS (fun z4 u5 H locs p6 hw hS => ?_)
    obtain ⟨eu5, p6⟩ := p6
    subst eu5
    refine lv_istore (lv' := [(6, .int (jI z4)), (0, .ref (ad 0 0)), (1, .ref (ad 15 x)), (2, .ref (ad 7 g)), (3, .int (jI slot)), (4, .int (jI f)), (5, .int (jI rule))]) hx hb dX8_fillField_13 hl (by decide) rfl (fun ls hl => ?_)
    refine lv_iload hx hb dX8_fillField_15 (lv_at hl 0 rfl) ?_
    refine lv_iconst (v := jI (-1)) hx hb dX8_fillField_17 rfl ?_
    refine x_icmp_ne (tgt := 35) hx hb (by omega) (by omega) dX8_fillField_18 (by decide) (fun c7 => ?_) (fun c7 => ?_)
    · refine lv_aload_n hx hb dX8_fillField_35 rfl (lv_at hl 2 rfl) ?_
      refine x_getr (jz := 0) hx hb hf6 hw (by omega) (by omega) sl_15_0 rfl lk97 dX8_fillField_36 (fun y8 => ?_) (fun r9 y8 gr9 lr9 => ?_)
      · exfalso
        rw [y1] at y8; cases y8
      · have er9 : r9 = r2 := by rw [y1] at y8; cases y8; rfl
        rw [er9]
        refine x_geto hx hb hf7 hw (by omega) (by omega) sl_19_3 lk135 dX8_fillField_39 ?_
        refine lv_iload hx hb dX8_fillField_42 (lv_at hl 0 rfl) ?_
        refine x_iald hx hb hK.1 hw (by omega) (by omega) ar_21 (len_E ar_21 (by decide)) (by omega) (by omega) (by omega) dX8_fillField_44 ?_
        have f10 : 0 ≤ X 21 r2 z4 ∧ X 21 r2 z4 ≤ 5 := hR 21 r2 z4
        refine lv_istore (lv' := [(7, .int (jI (X 21 r2 z4))), (6, .int (jI z4)), (0, .ref (ad 0 0)), (1, .ref (ad 15 x)), (2, .ref (ad 7 g)), (3, .int (jI slot)), (4, .int (jI f)), (5, .int (jI rule))]) hx hb dX8_fillField_45 hl (by decide) rfl (fun ls hl => ?_)
        refine lv_aload_n hx hb dX8_fillField_47 rfl (lv_at hl 4 rfl) ?_
        refine x_geto hx hb hf4 hw (by omega) (by omega) sl_7_4 lk341 dX8_fillField_48 ?_
        refine lv_iload_n hx hb dX8_fillField_51 rfl (lv_at hl 5 rfl) ?_
        refine x_iald hx hb hK.1 hw (by omega) (by omega) ar_11 (len_E ar_11 (by decide)) (by omega) (by omega) (by omega) dX8_fillField_52 ?_
        have f11 : 0 ≤ X 11 g slot ∧ X 11 g slot ≤ 5 := hR 11 g slot
        refine lv_iload hx hb dX8_fillField_53 (lv_at hl 0 rfl) ?_
        refine gos_i (run_S (As := [.int (jI (X 11 g slot)), .int (jI (X 21 r2 z4))]) (rest := []) hx hb hml hown hts (c_X8_mayCome2 l D tc base ad cnt X Y ln (X 11 g slot) (X 21 r2 z4) (by omega) (by omega)) (cwS 2 hts gX8_fillField_X8_mayCome rfl rfl rfl (by decide +kernel) ⟨Nat.le_of_ble_eq_true rfl, Nat.le_of_ble_eq_true rfl⟩) hK hw rfl hl.1 rfl (Nat.le_of_ble_eq_true rfl) dX8_fillField_55 ⟨(by show _ ≤ (2 : Nat); omega), (by show _ ≤ (14 : Nat); omega)⟩) hS (fun z12 u13 H locs p14 hw hS => ?_)
        obtain ⟨eu13, p14⟩ := p14
        subst eu13
        rcases p14 with ⟨ez12, p14⟩ | ⟨ez12, p14⟩
        · subst ez12
          refine x_if_neT (tgt := 64) hx hb (by omega) (by decide) dX8_fillField_58 (by decide) ?_
          refine lv_aload_n hx hb dX8_fillField_64 rfl (lv_at hl 4 rfl) ?_
          refine x_geto hx hb hf4 hw (by omega) (by omega) sl_7_5 lk342 dX8_fillField_65 ?_
          refine lv_iload_n hx hb dX8_fillField_68 rfl (lv_at hl 5 rfl) ?_
          refine x_lald hx hb hK.1 hw (by omega) (by omega) ar_12 (len_E ar_12 (by decide)) (by omega) (by omega) (by omega) dX8_fillField_69 ?_
          have f15 : (-9223372036854775808) ≤ X 12 g slot ∧ X 12 g slot ≤ 9223372036854775807 := hR 12 g slot
          refine lv_lstore (lv' := [(8, .long (jL (X 12 g slot))), (7, .int (jI (X 21 r2 z4))), (6, .int (jI z4)), (0, .ref (ad 0 0)), (1, .ref (ad 15 x)), (2, .ref (ad 7 g)), (3, .int (jI slot)), (4, .int (jI f)), (5, .int (jI rule))]) hx hb dX8_fillField_70 hl (by decide) rfl (fun ls hl => ?_)
          refine lv_iload hx hb dX8_fillField_72 (lv_at hl 1 rfl) ?_
          refine lv_iconst (v := jI 1) hx hb dX8_fillField_74 rfl ?_
          refine x_icmp_ne (tgt := 111) hx hb (by omega) (by omega) dX8_fillField_75 (by decide) (fun c16 => ?_) (fun c16 => ?_)
          · refine lv_iload hx hb dX8_fillField_111 (lv_at hl 1 rfl) ?_
            refine gos_i (run_S (As := [.int (jI (X 21 r2 z4))]) (rest := []) hx hb hml hown hts (c_X8_isRowLane l D tc base ad cnt X Y ln (X 21 r2 z4) (by omega)) (cwS 1 hts gX8_fillField_X8_isRowLane rfl rfl rfl (by decide +kernel) ⟨Nat.le_of_ble_eq_true rfl, Nat.le_of_ble_eq_true rfl⟩) hK hw rfl hl.1 rfl (Nat.le_of_ble_eq_true rfl) dX8_fillField_113 ⟨(by show _ ≤ (2 : Nat); omega), (by show _ ≤ (14 : Nat); omega)⟩) hS (fun z17 u18 H locs p19 hw hS => ?_)
            obtain ⟨eu18, p19⟩ := p19
            subst eu18
            rcases p19 with ⟨ez17, p19⟩ | ⟨ez17, p19⟩
            · subst ez17
              refine x_if_eqF (tgt := 152) hx hb (by omega) (by decide) dX8_fillField_116 (by decide) ?_
              refine lv_aload_n hx hb dX8_fillField_119 rfl (lv_at hl 4 rfl) ?_
              refine x_geto hx hb hf6 hw (by omega) (by omega) sl_15_2 lk158 dX8_fillField_120 ?_
              refine lv_iload hx hb dX8_fillField_123 (lv_at hl 2 rfl) ?_
              refine lv_lload hx hb dX8_fillField_125 (lv_at hl 0 rfl) ?_
              refine lv_ldc2 (v := jL (-1)) hx hb hown (hts (.constantLong RX8 88 (-1)) (by decide +kernel)) dX8_fillField_127 ?_
              refine x_lcmp hx hb (by omega) (by omega) dX8_fillField_130 ?_
              obtain ⟨z20, ez20⟩ : ∃ y : Int, y = cmpZ (X 12 g slot) (-1) := ⟨_, rfl⟩
              rw [← ez20]
              have gz20 : (z20 < 0 ↔ ((X 12 g slot) : Int) < (-1)) ∧ (z20 = 0 ↔ ((X 12 g slot) : Int) = (-1)) ∧ -1 ≤ z20 ∧ z20 ≤ 1 := by rw [ez20]; exact ⟨cmpZ_lt, cmpZ_eq, (cmpZ_r _ _).1, (cmpZ_r _ _).2⟩
              clear ez20
              refine x_if_ne (tgt := 138) hx hb (by omega) dX8_fillField_131 (by decide) (fun c21 => ?_) (fun c21 => ?_)
              · have hv9 := hv (by omega)
                refine lv_aload_n hx hb dX8_fillField_138 rfl (lv_at hl 3 rfl) ?_
                refine lv_aload_n hx hb dX8_fillField_139 rfl (lv_at hl 5 rfl) ?_
                refine lv_lload hx hb dX8_fillField_140 (lv_at hl 0 rfl) ?_
                refine x_l2i hx hb dX8_fillField_142 ?_
                refine lv_iload hx hb dX8_fillField_143 (lv_at hl 1 rfl) ?_
                refine gos_r (run_V (As := [.ref (ad 7 g), .int (jI (X 12 g slot)), .int (jI (X 21 r2 z4))]) (rest := [.int (jI z4), .ref (ad 17 x)]) hx hb hml hown hts (c_X8_rowPutBack l D tc base ad cnt X Y ln hR hFx hLn hCI hOw hN g (X 12 g slot) (X 21 r2 z4) (by omega) (by omega) (by omega)) (cwV 3 hts gX8_fillField_X8_rowPutBack rfl rfl rfl (by decide +kernel) ⟨Nat.le_of_ble_eq_true rfl, Nat.le_of_ble_eq_true rfl⟩) hK hw (by omega) (by omega) sl_0_0 rfl rfl hl.1 rfl (Nat.le_of_ble_eq_true rfl) dX8_fillField_145 ⟨(by show _ ≤ (2 : Nat); omega), (by show _ ≤ (14 : Nat); omega)⟩) hS (fun u23 H locs p24 hw hS => ?_) (fun z22 u23 H locs p24 hw hS => ?_)
                · obtain ⟨ad, cnt, X25, Y26, ln, eu23, hE27, hFx, hOw, hLn, hRX25, hG28, hJ29, hCIX25, p24⟩ := p24
                  subst eu23
                  obtain ⟨r9, e9, -⟩ := p24
                  cases e9
                · obtain ⟨ad, cnt, X30, Y31, ln, eu23, hE32, hFx, hOw, hLn, hRX30, hG33, hJ34, hCIX30, p24⟩ := p24
                  subst eu23
                  have hFX30 : Frm [1600, 2602, 2700] X X30 := Frm.tr Frm.rf (Frm.mono hG33 (by decide))
                  have hHY31 : Frm [1700, 600] Y Y31 := Frm.tr Frm.rf (Frm.mono hJ34 (by decide))
                  have hz22 : 0 ≤ z22 ∧ z22 < cnt 26 := by obtain ⟨r9, e9, h1, h2⟩ := p24; cases e9; exact ⟨h1, h2⟩
                  have hE := Ext.tr hE hE32
                  have hm35 := hE32.2.1 19
                  have hm36 := hE32.2.1 25
                  have hm37 := hE32.2.1 26
                  have hN : 0 ≤ cnt 25 ∧ 0 ≤ cnt 26 := by omega
                  have ha38 := hE32.1 0 0 (by omega) (by omega)
                  have ha39 := hE32.1 15 x (by omega) (by omega)
                  have ha40 := hE32.1 7 g (by omega) (by omega)
                  have ha41 := hE32.1 17 x (by omega) (by omega)
                  have hc0 : cnt 0 = 1 := hFx.at 0 1 (by decide)
                  have hc6 : cnt 6 = 1 := hFx.at 6 1 (by decide)
                  have hc7 : cnt 7 = 6 := hFx.at 7 6 (by decide)
                  have hc10 : cnt 10 = 6 := hFx.at 10 6 (by decide)
                  have hc11 : cnt 11 = 6 := hFx.at 11 6 (by decide)
                  have hc12 : cnt 12 = 6 := hFx.at 12 6 (by decide)
                  have hc15 : cnt 15 = 30 := hFx.at 15 30 (by decide)
                  have hc16 : cnt 16 = 30 := hFx.at 16 30 (by decide)
                  have hc17 : cnt 17 = 30 := hFx.at 17 30 (by decide)
                  have hc21 : cnt 21 = cnt 19 := hFx.2.1 21 (by decide)
                  have hc27 : cnt 27 = cnt 26 := hFx.2.2
                  have hl : lv_has ls 10 [(8, .long (jL (X 12 g slot))), (7, .int (jI (X 21 r2 z4))), (6, .int (jI z4)), (0, .ref (ad 0 0)), (1, .ref (ad 15 x)), (2, .ref (ad 7 g)), (3, .int (jI slot)), (4, .int (jI f)), (5, .int (jI rule))] := by rw [ha38, ha39, ha40]; exact hl
                  refine W.eq (g2 := F0 m 148 ls [.ref (ad 26 z22), .int (jI z4), .ref (ad 17 x)]) (by first | rfl | (rw [ha41]; done) | (rw [ha41]; rfl)) ?_
                  refine x_aast hx hb hK.1 hw hS (by omega) (by omega) ar_17 rfl rfl sl_26_0 (len_E ar_17 (by decide)) (by omega) (by omega) (by omega) (by omega) (by omega) dX8_fillField_148 (fun H locs hw hS => ?_)
                  obtain ⟨Y42, hY42⟩ : ∃ Yq, Yq = u3 Y31 17 x z4 (some z22) := ⟨_, rfl⟩
                  rw [← hY42] at hw
                  have hVY42 : Y42 17 x z4 = (some z22) := by rw [hY42]; exact u3_s _ _ _ _ _
                  have hHY42 : Frm [1700, 600] Y Y42 := by rw [hY42]; exact Frm.set hHY31 (show 1700 ∈ [1700, 600] by decide)
                  refine lv_goto (tgt := 192) hx hb dX8_fillField_149 (by decide) ?_
                  refine lv_iconst (v := jI 0) hx hb dX8_fillField_192 rfl ?_
                  rw [hQ9]
                  refine ret_i (mc := 2) (ms := 14) hx hb hr hlocks hw hS (by omega) (by omega) dX8_fillField_193 ?_
                  have q43 : Frm [1700] Y31 Y42 := by rw [hY42]; exact Frm.set Frm.rf (show 1700 ∈ [1700] by decide)
                  have hCq44 : CInv cnt X30 Y42 ln := cinv_frm (M := []) (N := [1700]) hCIX30 Frm.rf q43 (by decide) (by decide)
                  exact ⟨ad, cnt, X30, Y42, ln, rfl, hE9 _ _ _ hE, hFx, hOw, hLn, hRX30, hFX30, hHY42, hCq44, by omega⟩
              · refine lv_null hx hb dX8_fillField_134 ?_
                refine lv_goto (tgt := 148) hx hb dX8_fillField_135 (by decide) ?_
                refine x_aastn hx hb hK.1 hw hS (by omega) (by omega) ar_17 rfl (len_E ar_17 (by decide)) (by omega) (by omega) (by omega) dX8_fillField_148 (fun H locs hw hS => ?_)
                obtain ⟨Y45, hY45⟩ : ∃ Yq, Yq = u3 Y 17 x z4 none := ⟨_, rfl⟩
                rw [← hY45] at hw
                have hVY45 : Y45 17 x z4 = none := by rw [hY45]; exact u3_s _ _ _ _ _
                have hHY45 : Frm [1700, 600] Y Y45 := by rw [hY45]; exact Frm.set Frm.rf (show 1700 ∈ [1700, 600] by decide)
                refine lv_goto (tgt := 192) hx hb dX8_fillField_149 (by decide) ?_
                refine lv_iconst (v := jI 0) hx hb dX8_fillField_192 rfl ?_
                rw [hQ9]
                refine ret_i (mc := 2) (ms := 14) hx hb hr hlocks hw hS (by omega) (by omega) dX8_fillField_193 ?_
                have q46 : Frm [1700] Y Y45 := by rw [hY45]; exact Frm.set Frm.rf (show 1700 ∈ [1700] by decide)
                have hCq47 : CInv cnt X Y45 ln := cinv_frm (M := []) (N := [1700]) hCI Frm.rf q46 (by decide) (by decide)
                exact ⟨ad, cnt, X, Y45, ln, rfl, hE9 _ _ _ hE, hFx, hOw, hLn, hR, Frm.rf, hHY45, hCq47, by omega⟩
            · subst ez17
              refine x_if_eqT (tgt := 152) hx hb (by omega) (by decide) dX8_fillField_116 (by decide) ?_
              refine lv_iload hx hb dX8_fillField_152 (lv_at hl 1 rfl) ?_
              refine lv_iconst (v := jI 2) hx hb dX8_fillField_154 rfl ?_
              refine x_icmp_ne (tgt := 183) hx hb (by omega) (by omega) dX8_fillField_155 (by decide) (fun c48 => ?_) (fun c48 => ?_)
              · refine lv_aload_n hx hb dX8_fillField_183 rfl (lv_at hl 4 rfl) ?_
                refine x_geto hx hb hf6 hw (by omega) (by omega) sl_15_1 lk193 dX8_fillField_184 ?_
                refine lv_iload hx hb dX8_fillField_187 (lv_at hl 2 rfl) ?_
                refine lv_lload hx hb dX8_fillField_189 (lv_at hl 0 rfl) ?_
                refine x_last hx hb hK.1 hw hS (by omega) (by omega) ar_16 (len_E ar_16 (by decide)) (by omega) (by omega) (by omega) dX8_fillField_191 (fun H locs hw hS => ?_)
                obtain ⟨X49, hX49⟩ : ∃ Xq, Xq = u3 X 16 x z4 (X 12 g slot) := ⟨_, rfl⟩
                rw [← hX49] at hw
                have hRX49 : Rng X49 := by rw [hX49]; exact rng_set hR (show (-9223372036854775808) ≤ (X 12 g slot) ∧ (X 12 g slot) ≤ 9223372036854775807 by omega)
                have hVX49 : X49 16 x z4 = (X 12 g slot) := by rw [hX49]; exact u3_s _ _ _ _ _
                have hFX49 : Frm [1600, 2602, 2700] X X49 := by rw [hX49]; exact Frm.set Frm.rf (show 1600 ∈ [1600, 2602, 2700] by decide)
                refine lv_iconst (v := jI 0) hx hb dX8_fillField_192 rfl ?_
                rw [hQ9]
                refine ret_i (mc := 2) (ms := 14) hx hb hr hlocks hw hS (by omega) (by omega) dX8_fillField_193 ?_
                have q50 : Frm [1600] X X49 := by rw [hX49]; exact Frm.set Frm.rf (show 1600 ∈ [1600] by decide)
                have hCq51 : CInv cnt X49 Y ln := cinv_frm (M := [1600]) (N := []) hCI q50 Frm.rf (by decide) (by decide)
                exact ⟨ad, cnt, X49, Y, ln, rfl, hE9 _ _ _ hE, hFx, hOw, hLn, hRX49, hFX49, Frm.rf, hCq51, by omega⟩
              · refine lv_lload hx hb dX8_fillField_158 (lv_at hl 0 rfl) ?_
                refine lv_ldc2 (v := jL (-1)) hx hb hown (hts (.constantLong RX8 88 (-1)) (by decide +kernel)) dX8_fillField_160 ?_
                refine x_lcmp hx hb (by omega) (by omega) dX8_fillField_163 ?_
                obtain ⟨z52, ez52⟩ : ∃ y : Int, y = cmpZ (X 12 g slot) (-1) := ⟨_, rfl⟩
                rw [← ez52]
                have gz52 : (z52 < 0 ↔ ((X 12 g slot) : Int) < (-1)) ∧ (z52 = 0 ↔ ((X 12 g slot) : Int) = (-1)) ∧ -1 ≤ z52 ∧ z52 ≤ 1 := by rw [ez52]; exact ⟨cmpZ_lt, cmpZ_eq, (cmpZ_r _ _).1, (cmpZ_r _ _).2⟩
                clear ez52
                refine x_if_eq (tgt := 183) hx hb (by omega) dX8_fillField_164 (by decide) (fun c53 => ?_) (fun c53 => ?_)
                · refine lv_aload_n hx hb dX8_fillField_183 rfl (lv_at hl 4 rfl) ?_
                  refine x_geto hx hb hf6 hw (by omega) (by omega) sl_15_1 lk193 dX8_fillField_184 ?_
                  refine lv_iload hx hb dX8_fillField_187 (lv_at hl 2 rfl) ?_
                  refine lv_lload hx hb dX8_fillField_189 (lv_at hl 0 rfl) ?_
                  refine x_last hx hb hK.1 hw hS (by omega) (by omega) ar_16 (len_E ar_16 (by decide)) (by omega) (by omega) (by omega) dX8_fillField_191 (fun H locs hw hS => ?_)
                  obtain ⟨X54, hX54⟩ : ∃ Xq, Xq = u3 X 16 x z4 (X 12 g slot) := ⟨_, rfl⟩
                  rw [← hX54] at hw
                  have hRX54 : Rng X54 := by rw [hX54]; exact rng_set hR (show (-9223372036854775808) ≤ (X 12 g slot) ∧ (X 12 g slot) ≤ 9223372036854775807 by omega)
                  have hVX54 : X54 16 x z4 = (X 12 g slot) := by rw [hX54]; exact u3_s _ _ _ _ _
                  have hFX54 : Frm [1600, 2602, 2700] X X54 := by rw [hX54]; exact Frm.set Frm.rf (show 1600 ∈ [1600, 2602, 2700] by decide)
                  refine lv_iconst (v := jI 0) hx hb dX8_fillField_192 rfl ?_
                  rw [hQ9]
                  refine ret_i (mc := 2) (ms := 14) hx hb hr hlocks hw hS (by omega) (by omega) dX8_fillField_193 ?_
                  have q55 : Frm [1600] X X54 := by rw [hX54]; exact Frm.set Frm.rf (show 1600 ∈ [1600] by decide)
                  have hCq56 : CInv cnt X54 Y ln := cinv_frm (M := [1600]) (N := []) hCI q55 Frm.rf (by decide) (by decide)
                  exact ⟨ad, cnt, X54, Y, ln, rfl, hE9 _ _ _ hE, hFx, hOw, hLn, hRX54, hFX54, Frm.rf, hCq56, by omega⟩
                · have hv9 := hv (by omega)
                  refine lv_aload_n hx hb dX8_fillField_167 rfl (lv_at hl 4 rfl) ?_
                  refine x_geto hx hb hf6 hw (by omega) (by omega) sl_15_1 lk193 dX8_fillField_168 ?_
                  refine lv_iload hx hb dX8_fillField_171 (lv_at hl 2 rfl) ?_
                  refine lv_iload hx hb dX8_fillField_173 (lv_at hl 7 rfl) ?_
                  refine x_i2l hx hb (by omega) dX8_fillField_175 ?_
                  refine lv_lload hx hb dX8_fillField_176 (lv_at hl 0 rfl) ?_
                  refine x_ladd hx hb dX8_fillField_178 ?_
                  refine x_last hx hb hK.1 hw hS (by omega) (by omega) ar_16 (len_E ar_16 (by decide)) (by omega) (by omega) (by omega) dX8_fillField_179 (fun H locs hw hS => ?_)
                  obtain ⟨X57, hX57⟩ : ∃ Xq, Xq = u3 X 16 x z4 (f + (X 12 g slot)) := ⟨_, rfl⟩
                  rw [← hX57] at hw
                  have hRX57 : Rng X57 := by rw [hX57]; exact rng_set hR (show (-9223372036854775808) ≤ (f + (X 12 g slot)) ∧ (f + (X 12 g slot)) ≤ 9223372036854775807 by omega)
                  have hVX57 : X57 16 x z4 = (f + (X 12 g slot)) := by rw [hX57]; exact u3_s _ _ _ _ _
                  have hFX57 : Frm [1600, 2602, 2700] X X57 := by rw [hX57]; exact Frm.set Frm.rf (show 1600 ∈ [1600, 2602, 2700] by decide)
                  refine lv_goto (tgt := 192) hx hb dX8_fillField_180 (by decide) ?_
                  refine lv_iconst (v := jI 0) hx hb dX8_fillField_192 rfl ?_
                  rw [hQ9]
                  refine ret_i (mc := 2) (ms := 14) hx hb hr hlocks hw hS (by omega) (by omega) dX8_fillField_193 ?_
                  have q58 : Frm [1600] X X57 := by rw [hX57]; exact Frm.set Frm.rf (show 1600 ∈ [1600] by decide)
                  have hCq59 : CInv cnt X57 Y ln := cinv_frm (M := [1600]) (N := []) hCI q58 Frm.rf (by decide) (by decide)
                  exact ⟨ad, cnt, X57, Y, ln, rfl, hE9 _ _ _ hE, hFx, hOw, hLn, hRX57, hFX57, Frm.rf, hCq59, by omega⟩
          · refine lv_lload hx hb dX8_fillField_78 (lv_at hl 0 rfl) ?_
            refine lv_ldc2 (v := jL (-1)) hx hb hown (hts (.constantLong RX8 88 (-1)) (by decide +kernel)) dX8_fillField_80 ?_
            refine x_lcmp hx hb (by omega) (by omega) dX8_fillField_83 ?_
            obtain ⟨z60, ez60⟩ : ∃ y : Int, y = cmpZ (X 12 g slot) (-1) := ⟨_, rfl⟩
            rw [← ez60]
            have gz60 : (z60 < 0 ↔ ((X 12 g slot) : Int) < (-1)) ∧ (z60 = 0 ↔ ((X 12 g slot) : Int) = (-1)) ∧ -1 ≤ z60 ∧ z60 ≤ 1 := by rw [ez60]; exact ⟨cmpZ_lt, cmpZ_eq, (cmpZ_r _ _).1, (cmpZ_r _ _).2⟩
            clear ez60
            refine x_if_eq (tgt := 111) hx hb (by omega) dX8_fillField_84 (by decide) (fun c61 => ?_) (fun c61 => ?_)
            · refine lv_iload hx hb dX8_fillField_111 (lv_at hl 1 rfl) ?_
              refine gos_i (run_S (As := [.int (jI (X 21 r2 z4))]) (rest := []) hx hb hml hown hts (c_X8_isRowLane l D tc base ad cnt X Y ln (X 21 r2 z4) (by omega)) (cwS 1 hts gX8_fillField_X8_isRowLane rfl rfl rfl (by decide +kernel) ⟨Nat.le_of_ble_eq_true rfl, Nat.le_of_ble_eq_true rfl⟩) hK hw rfl hl.1 rfl (Nat.le_of_ble_eq_true rfl) dX8_fillField_113 ⟨(by show _ ≤ (2 : Nat); omega), (by show _ ≤ (14 : Nat); omega)⟩) hS (fun z62 u63 H locs p64 hw hS => ?_)
              obtain ⟨eu63, p64⟩ := p64
              subst eu63
              rcases p64 with ⟨ez62, p64⟩ | ⟨ez62, p64⟩
              · subst ez62
                refine x_if_eqF (tgt := 152) hx hb (by omega) (by decide) dX8_fillField_116 (by decide) ?_
                refine lv_aload_n hx hb dX8_fillField_119 rfl (lv_at hl 4 rfl) ?_
                refine x_geto hx hb hf6 hw (by omega) (by omega) sl_15_2 lk158 dX8_fillField_120 ?_
                refine lv_iload hx hb dX8_fillField_123 (lv_at hl 2 rfl) ?_
                refine lv_lload hx hb dX8_fillField_125 (lv_at hl 0 rfl) ?_
                refine lv_ldc2 (v := jL (-1)) hx hb hown (hts (.constantLong RX8 88 (-1)) (by decide +kernel)) dX8_fillField_127 ?_
                refine x_lcmp hx hb (by omega) (by omega) dX8_fillField_130 ?_
                obtain ⟨z65, ez65⟩ : ∃ y : Int, y = cmpZ (X 12 g slot) (-1) := ⟨_, rfl⟩
                rw [← ez65]
                have gz65 : (z65 < 0 ↔ ((X 12 g slot) : Int) < (-1)) ∧ (z65 = 0 ↔ ((X 12 g slot) : Int) = (-1)) ∧ -1 ≤ z65 ∧ z65 ≤ 1 := by rw [ez65]; exact ⟨cmpZ_lt, cmpZ_eq, (cmpZ_r _ _).1, (cmpZ_r _ _).2⟩
                clear ez65
                refine x_if_ne (tgt := 138) hx hb (by omega) dX8_fillField_131 (by decide) (fun c66 => ?_) (fun c66 => ?_)
                · have hv9 := hv (by omega)
                  refine lv_aload_n hx hb dX8_fillField_138 rfl (lv_at hl 3 rfl) ?_
                  refine lv_aload_n hx hb dX8_fillField_139 rfl (lv_at hl 5 rfl) ?_
                  refine lv_lload hx hb dX8_fillField_140 (lv_at hl 0 rfl) ?_
                  refine x_l2i hx hb dX8_fillField_142 ?_
                  refine lv_iload hx hb dX8_fillField_143 (lv_at hl 1 rfl) ?_
                  refine gos_r (run_V (As := [.ref (ad 7 g), .int (jI (X 12 g slot)), .int (jI (X 21 r2 z4))]) (rest := [.int (jI z4), .ref (ad 17 x)]) hx hb hml hown hts (c_X8_rowPutBack l D tc base ad cnt X Y ln hR hFx hLn hCI hOw hN g (X 12 g slot) (X 21 r2 z4) (by omega) (by omega) (by omega)) (cwV 3 hts gX8_fillField_X8_rowPutBack rfl rfl rfl (by decide +kernel) ⟨Nat.le_of_ble_eq_true rfl, Nat.le_of_ble_eq_true rfl⟩) hK hw (by omega) (by omega) sl_0_0 rfl rfl hl.1 rfl (Nat.le_of_ble_eq_true rfl) dX8_fillField_145 ⟨(by show _ ≤ (2 : Nat); omega), (by show _ ≤ (14 : Nat); omega)⟩) hS (fun u68 H locs p69 hw hS => ?_) (fun z67 u68 H locs p69 hw hS => ?_)
                  · obtain ⟨ad, cnt, X70, Y71, ln, eu68, hE72, hFx, hOw, hLn, hRX70, hG73, hJ74, hCIX70, p69⟩ := p69
                    subst eu68
                    obtain ⟨r9, e9, -⟩ := p69
                    cases e9
                  · obtain ⟨ad, cnt, X75, Y76, ln, eu68, hE77, hFx, hOw, hLn, hRX75, hG78, hJ79, hCIX75, p69⟩ := p69
                    subst eu68
                    have hFX75 : Frm [1600, 2602, 2700] X X75 := Frm.tr Frm.rf (Frm.mono hG78 (by decide))
                    have hHY76 : Frm [1700, 600] Y Y76 := Frm.tr Frm.rf (Frm.mono hJ79 (by decide))
                    have hz67 : 0 ≤ z67 ∧ z67 < cnt 26 := by obtain ⟨r9, e9, h1, h2⟩ := p69; cases e9; exact ⟨h1, h2⟩
                    have hE := Ext.tr hE hE77
                    have hm80 := hE77.2.1 19
                    have hm81 := hE77.2.1 25
                    have hm82 := hE77.2.1 26
                    have hN : 0 ≤ cnt 25 ∧ 0 ≤ cnt 26 := by omega
                    have ha83 := hE77.1 0 0 (by omega) (by omega)
                    have ha84 := hE77.1 15 x (by omega) (by omega)
                    have ha85 := hE77.1 7 g (by omega) (by omega)
                    have ha86 := hE77.1 17 x (by omega) (by omega)
                    have hc0 : cnt 0 = 1 := hFx.at 0 1 (by decide)
                    have hc6 : cnt 6 = 1 := hFx.at 6 1 (by decide)
                    have hc7 : cnt 7 = 6 := hFx.at 7 6 (by decide)
                    have hc10 : cnt 10 = 6 := hFx.at 10 6 (by decide)
                    have hc11 : cnt 11 = 6 := hFx.at 11 6 (by decide)
                    have hc12 : cnt 12 = 6 := hFx.at 12 6 (by decide)
                    have hc15 : cnt 15 = 30 := hFx.at 15 30 (by decide)
                    have hc16 : cnt 16 = 30 := hFx.at 16 30 (by decide)
                    have hc17 : cnt 17 = 30 := hFx.at 17 30 (by decide)
                    have hc21 : cnt 21 = cnt 19 := hFx.2.1 21 (by decide)
                    have hc27 : cnt 27 = cnt 26 := hFx.2.2
                    have hl : lv_has ls 10 [(8, .long (jL (X 12 g slot))), (7, .int (jI (X 21 r2 z4))), (6, .int (jI z4)), (0, .ref (ad 0 0)), (1, .ref (ad 15 x)), (2, .ref (ad 7 g)), (3, .int (jI slot)), (4, .int (jI f)), (5, .int (jI rule))] := by rw [ha83, ha84, ha85]; exact hl
                    refine W.eq (g2 := F0 m 148 ls [.ref (ad 26 z67), .int (jI z4), .ref (ad 17 x)]) (by first | rfl | (rw [ha86]; done) | (rw [ha86]; rfl)) ?_
                    refine x_aast hx hb hK.1 hw hS (by omega) (by omega) ar_17 rfl rfl sl_26_0 (len_E ar_17 (by decide)) (by omega) (by omega) (by omega) (by omega) (by omega) dX8_fillField_148 (fun H locs hw hS => ?_)
                    obtain ⟨Y87, hY87⟩ : ∃ Yq, Yq = u3 Y76 17 x z4 (some z67) := ⟨_, rfl⟩
                    rw [← hY87] at hw
                    have hVY87 : Y87 17 x z4 = (some z67) := by rw [hY87]; exact u3_s _ _ _ _ _
                    have hHY87 : Frm [1700, 600] Y Y87 := by rw [hY87]; exact Frm.set hHY76 (show 1700 ∈ [1700, 600] by decide)
                    refine lv_goto (tgt := 192) hx hb dX8_fillField_149 (by decide) ?_
                    refine lv_iconst (v := jI 0) hx hb dX8_fillField_192 rfl ?_
                    rw [hQ9]
                    refine ret_i (mc := 2) (ms := 14) hx hb hr hlocks hw hS (by omega) (by omega) dX8_fillField_193 ?_
                    have q88 : Frm [1700] Y76 Y87 := by rw [hY87]; exact Frm.set Frm.rf (show 1700 ∈ [1700] by decide)
                    have hCq89 : CInv cnt X75 Y87 ln := cinv_frm (M := []) (N := [1700]) hCIX75 Frm.rf q88 (by decide) (by decide)
                    exact ⟨ad, cnt, X75, Y87, ln, rfl, hE9 _ _ _ hE, hFx, hOw, hLn, hRX75, hFX75, hHY87, hCq89, by omega⟩
                · refine lv_null hx hb dX8_fillField_134 ?_
                  refine lv_goto (tgt := 148) hx hb dX8_fillField_135 (by decide) ?_
                  refine x_aastn hx hb hK.1 hw hS (by omega) (by omega) ar_17 rfl (len_E ar_17 (by decide)) (by omega) (by omega) (by omega) dX8_fillField_148 (fun H locs hw hS => ?_)
                  obtain ⟨Y90, hY90⟩ : ∃ Yq, Yq = u3 Y 17 x z4 none := ⟨_, rfl⟩
                  rw [← hY90] at hw
                  have hVY90 : Y90 17 x z4 = none := by rw [hY90]; exact u3_s _ _ _ _ _
                  have hHY90 : Frm [1700, 600] Y Y90 := by rw [hY90]; exact Frm.set Frm.rf (show 1700 ∈ [1700, 600] by decide)
                  refine lv_goto (tgt := 192) hx hb dX8_fillField_149 (by decide) ?_
                  refine lv_iconst (v := jI 0) hx hb dX8_fillField_192 rfl ?_
                  rw [hQ9]
                  refine ret_i (mc := 2) (ms := 14) hx hb hr hlocks hw hS (by omega) (by omega) dX8_fillField_193 ?_
                  have q91 : Frm [1700] Y Y90 := by rw [hY90]; exact Frm.set Frm.rf (show 1700 ∈ [1700] by decide)
                  have hCq92 : CInv cnt X Y90 ln := cinv_frm (M := []) (N := [1700]) hCI Frm.rf q91 (by decide) (by decide)
                  exact ⟨ad, cnt, X, Y90, ln, rfl, hE9 _ _ _ hE, hFx, hOw, hLn, hR, Frm.rf, hHY90, hCq92, by omega⟩
              · subst ez62
                refine x_if_eqT (tgt := 152) hx hb (by omega) (by decide) dX8_fillField_116 (by decide) ?_
                refine lv_iload hx hb dX8_fillField_152 (lv_at hl 1 rfl) ?_
                refine lv_iconst (v := jI 2) hx hb dX8_fillField_154 rfl ?_
                refine x_icmp_ne (tgt := 183) hx hb (by omega) (by omega) dX8_fillField_155 (by decide) (fun c93 => ?_) (fun c93 => ?_)
                · refine lv_aload_n hx hb dX8_fillField_183 rfl (lv_at hl 4 rfl) ?_
                  refine x_geto hx hb hf6 hw (by omega) (by omega) sl_15_1 lk193 dX8_fillField_184 ?_
                  refine lv_iload hx hb dX8_fillField_187 (lv_at hl 2 rfl) ?_
                  refine lv_lload hx hb dX8_fillField_189 (lv_at hl 0 rfl) ?_
                  refine x_last hx hb hK.1 hw hS (by omega) (by omega) ar_16 (len_E ar_16 (by decide)) (by omega) (by omega) (by omega) dX8_fillField_191 (fun H locs hw hS => ?_)
                  obtain ⟨X94, hX94⟩ : ∃ Xq, Xq = u3 X 16 x z4 (X 12 g slot) := ⟨_, rfl⟩
                  rw [← hX94] at hw
                  have hRX94 : Rng X94 := by rw [hX94]; exact rng_set hR (show (-9223372036854775808) ≤ (X 12 g slot) ∧ (X 12 g slot) ≤ 9223372036854775807 by omega)
                  have hVX94 : X94 16 x z4 = (X 12 g slot) := by rw [hX94]; exact u3_s _ _ _ _ _
                  have hFX94 : Frm [1600, 2602, 2700] X X94 := by rw [hX94]; exact Frm.set Frm.rf (show 1600 ∈ [1600, 2602, 2700] by decide)
                  refine lv_iconst (v := jI 0) hx hb dX8_fillField_192 rfl ?_
                  rw [hQ9]
                  refine ret_i (mc := 2) (ms := 14) hx hb hr hlocks hw hS (by omega) (by omega) dX8_fillField_193 ?_
                  have q95 : Frm [1600] X X94 := by rw [hX94]; exact Frm.set Frm.rf (show 1600 ∈ [1600] by decide)
                  have hCq96 : CInv cnt X94 Y ln := cinv_frm (M := [1600]) (N := []) hCI q95 Frm.rf (by decide) (by decide)
                  exact ⟨ad, cnt, X94, Y, ln, rfl, hE9 _ _ _ hE, hFx, hOw, hLn, hRX94, hFX94, Frm.rf, hCq96, by omega⟩
                · refine lv_lload hx hb dX8_fillField_158 (lv_at hl 0 rfl) ?_
                  refine lv_ldc2 (v := jL (-1)) hx hb hown (hts (.constantLong RX8 88 (-1)) (by decide +kernel)) dX8_fillField_160 ?_
                  refine x_lcmp hx hb (by omega) (by omega) dX8_fillField_163 ?_
                  obtain ⟨z97, ez97⟩ : ∃ y : Int, y = cmpZ (X 12 g slot) (-1) := ⟨_, rfl⟩
                  rw [← ez97]
                  have gz97 : (z97 < 0 ↔ ((X 12 g slot) : Int) < (-1)) ∧ (z97 = 0 ↔ ((X 12 g slot) : Int) = (-1)) ∧ -1 ≤ z97 ∧ z97 ≤ 1 := by rw [ez97]; exact ⟨cmpZ_lt, cmpZ_eq, (cmpZ_r _ _).1, (cmpZ_r _ _).2⟩
                  clear ez97
                  refine x_if_eq (tgt := 183) hx hb (by omega) dX8_fillField_164 (by decide) (fun c98 => ?_) (fun c98 => ?_)
                  · refine lv_aload_n hx hb dX8_fillField_183 rfl (lv_at hl 4 rfl) ?_
                    refine x_geto hx hb hf6 hw (by omega) (by omega) sl_15_1 lk193 dX8_fillField_184 ?_
                    refine lv_iload hx hb dX8_fillField_187 (lv_at hl 2 rfl) ?_
                    refine lv_lload hx hb dX8_fillField_189 (lv_at hl 0 rfl) ?_
                    refine x_last hx hb hK.1 hw hS (by omega) (by omega) ar_16 (len_E ar_16 (by decide)) (by omega) (by omega) (by omega) dX8_fillField_191 (fun H locs hw hS => ?_)
                    obtain ⟨X99, hX99⟩ : ∃ Xq, Xq = u3 X 16 x z4 (X 12 g slot) := ⟨_, rfl⟩
                    rw [← hX99] at hw
                    have hRX99 : Rng X99 := by rw [hX99]; exact rng_set hR (show (-9223372036854775808) ≤ (X 12 g slot) ∧ (X 12 g slot) ≤ 9223372036854775807 by omega)
                    have hVX99 : X99 16 x z4 = (X 12 g slot) := by rw [hX99]; exact u3_s _ _ _ _ _
                    have hFX99 : Frm [1600, 2602, 2700] X X99 := by rw [hX99]; exact Frm.set Frm.rf (show 1600 ∈ [1600, 2602, 2700] by decide)
                    refine lv_iconst (v := jI 0) hx hb dX8_fillField_192 rfl ?_
                    rw [hQ9]
                    refine ret_i (mc := 2) (ms := 14) hx hb hr hlocks hw hS (by omega) (by omega) dX8_fillField_193 ?_
                    have q100 : Frm [1600] X X99 := by rw [hX99]; exact Frm.set Frm.rf (show 1600 ∈ [1600] by decide)
                    have hCq101 : CInv cnt X99 Y ln := cinv_frm (M := [1600]) (N := []) hCI q100 Frm.rf (by decide) (by decide)
                    exact ⟨ad, cnt, X99, Y, ln, rfl, hE9 _ _ _ hE, hFx, hOw, hLn, hRX99, hFX99, Frm.rf, hCq101, by omega⟩
                  · have hv9 := hv (by omega)
                    refine lv_aload_n hx hb dX8_fillField_167 rfl (lv_at hl 4 rfl) ?_
                    refine x_geto hx hb hf6 hw (by omega) (by omega) sl_15_1 lk193 dX8_fillField_168 ?_
                    refine lv_iload hx hb dX8_fillField_171 (lv_at hl 2 rfl) ?_
                    refine lv_iload hx hb dX8_fillField_173 (lv_at hl 7 rfl) ?_
                    refine x_i2l hx hb (by omega) dX8_fillField_175 ?_
                    refine lv_lload hx hb dX8_fillField_176 (lv_at hl 0 rfl) ?_
                    refine x_ladd hx hb dX8_fillField_178 ?_
                    refine x_last hx hb hK.1 hw hS (by omega) (by omega) ar_16 (len_E ar_16 (by decide)) (by omega) (by omega) (by omega) dX8_fillField_179 (fun H locs hw hS => ?_)
                    obtain ⟨X102, hX102⟩ : ∃ Xq, Xq = u3 X 16 x z4 (f + (X 12 g slot)) := ⟨_, rfl⟩
                    rw [← hX102] at hw
                    have hRX102 : Rng X102 := by rw [hX102]; exact rng_set hR (show (-9223372036854775808) ≤ (f + (X 12 g slot)) ∧ (f + (X 12 g slot)) ≤ 9223372036854775807 by omega)
                    have hVX102 : X102 16 x z4 = (f + (X 12 g slot)) := by rw [hX102]; exact u3_s _ _ _ _ _
                    have hFX102 : Frm [1600, 2602, 2700] X X102 := by rw [hX102]; exact Frm.set Frm.rf (show 1600 ∈ [1600, 2602, 2700] by decide)
                    refine lv_goto (tgt := 192) hx hb dX8_fillField_180 (by decide) ?_
                    refine lv_iconst (v := jI 0) hx hb dX8_fillField_192 rfl ?_
                    rw [hQ9]
                    refine ret_i (mc := 2) (ms := 14) hx hb hr hlocks hw hS (by omega) (by omega) dX8_fillField_193 ?_
                    have q103 : Frm [1600] X X102 := by rw [hX102]; exact Frm.set Frm.rf (show 1600 ∈ [1600] by decide)
                    have hCq104 : CInv cnt X102 Y ln := cinv_frm (M := [1600]) (N := []) hCI q103 Frm.rf (by decide) (by decide)
                    exact ⟨ad, cnt, X102, Y, ln, rfl, hE9 _ _ _ hE, hFx, hOw, hLn, hRX102, hFX102, Frm.rf, hCq104, by omega⟩
            · refine lv_aload_n hx hb dX8_fillField_87 rfl (lv_at hl 3 rfl) ?_
              refine lv_lload hx hb dX8_fillField_88 (lv_at hl 0 rfl) ?_
              refine gos_i (run_V (As := [.long (jL (X 12 g slot))]) (rest := []) hx hb hml hown hts (c_X8_isWordInUse l D tc base ad cnt X Y ln hR hFx hLn (X 12 g slot) (by omega)) (cwV 1 hts gX8_fillField_X8_isWordInUse rfl rfl rfl (by decide +kernel) ⟨Nat.le_of_ble_eq_true rfl, Nat.le_of_ble_eq_true rfl⟩) hK hw (by omega) (by omega) sl_0_0 rfl rfl hl.1 rfl (Nat.le_of_ble_eq_true rfl) dX8_fillField_90 ⟨(by show _ ≤ (2 : Nat); omega), (by show _ ≤ (14 : Nat); omega)⟩) hS (fun z105 u106 H locs p107 hw hS => ?_)
              obtain ⟨eu106, p107⟩ := p107
              subst eu106
              rcases p107 with ⟨ez105, p107⟩ | ⟨ez105, p107⟩
              · subst ez105
                refine x_if_neT (tgt := 111) hx hb (by omega) (by decide) dX8_fillField_93 (by decide) ?_
                refine lv_iload hx hb dX8_fillField_111 (lv_at hl 1 rfl) ?_
                refine gos_i (run_S (As := [.int (jI (X 21 r2 z4))]) (rest := []) hx hb hml hown hts (c_X8_isRowLane l D tc base ad cnt X Y ln (X 21 r2 z4) (by omega)) (cwS 1 hts gX8_fillField_X8_isRowLane rfl rfl rfl (by decide +kernel) ⟨Nat.le_of_ble_eq_true rfl, Nat.le_of_ble_eq_true rfl⟩) hK hw rfl hl.1 rfl (Nat.le_of_ble_eq_true rfl) dX8_fillField_113 ⟨(by show _ ≤ (2 : Nat); omega), (by show _ ≤ (14 : Nat); omega)⟩) hS (fun z108 u109 H locs p110 hw hS => ?_)
                obtain ⟨eu109, p110⟩ := p110
                subst eu109
                rcases p110 with ⟨ez108, p110⟩ | ⟨ez108, p110⟩
                · subst ez108
                  refine x_if_eqF (tgt := 152) hx hb (by omega) (by decide) dX8_fillField_116 (by decide) ?_
                  refine lv_aload_n hx hb dX8_fillField_119 rfl (lv_at hl 4 rfl) ?_
                  refine x_geto hx hb hf6 hw (by omega) (by omega) sl_15_2 lk158 dX8_fillField_120 ?_
                  refine lv_iload hx hb dX8_fillField_123 (lv_at hl 2 rfl) ?_
                  refine lv_lload hx hb dX8_fillField_125 (lv_at hl 0 rfl) ?_
                  refine lv_ldc2 (v := jL (-1)) hx hb hown (hts (.constantLong RX8 88 (-1)) (by decide +kernel)) dX8_fillField_127 ?_
                  refine x_lcmp hx hb (by omega) (by omega) dX8_fillField_130 ?_
                  obtain ⟨z111, ez111⟩ : ∃ y : Int, y = cmpZ (X 12 g slot) (-1) := ⟨_, rfl⟩
                  rw [← ez111]
                  have gz111 : (z111 < 0 ↔ ((X 12 g slot) : Int) < (-1)) ∧ (z111 = 0 ↔ ((X 12 g slot) : Int) = (-1)) ∧ -1 ≤ z111 ∧ z111 ≤ 1 := by rw [ez111]; exact ⟨cmpZ_lt, cmpZ_eq, (cmpZ_r _ _).1, (cmpZ_r _ _).2⟩
                  clear ez111
                  refine x_if_ne (tgt := 138) hx hb (by omega) dX8_fillField_131 (by decide) (fun c112 => ?_) (fun c112 => ?_)
                  · have hv9 := hv (by omega)
                    refine lv_aload_n hx hb dX8_fillField_138 rfl (lv_at hl 3 rfl) ?_
                    refine lv_aload_n hx hb dX8_fillField_139 rfl (lv_at hl 5 rfl) ?_
                    refine lv_lload hx hb dX8_fillField_140 (lv_at hl 0 rfl) ?_
                    refine x_l2i hx hb dX8_fillField_142 ?_
                    refine lv_iload hx hb dX8_fillField_143 (lv_at hl 1 rfl) ?_
                    refine gos_r (run_V (As := [.ref (ad 7 g), .int (jI (X 12 g slot)), .int (jI (X 21 r2 z4))]) (rest := [.int (jI z4), .ref (ad 17 x)]) hx hb hml hown hts (c_X8_rowPutBack l D tc base ad cnt X Y ln hR hFx hLn hCI hOw hN g (X 12 g slot) (X 21 r2 z4) (by omega) (by omega) (by omega)) (cwV 3 hts gX8_fillField_X8_rowPutBack rfl rfl rfl (by decide +kernel) ⟨Nat.le_of_ble_eq_true rfl, Nat.le_of_ble_eq_true rfl⟩) hK hw (by omega) (by omega) sl_0_0 rfl rfl hl.1 rfl (Nat.le_of_ble_eq_true rfl) dX8_fillField_145 ⟨(by show _ ≤ (2 : Nat); omega), (by show _ ≤ (14 : Nat); omega)⟩) hS (fun u114 H locs p115 hw hS => ?_) (fun z113 u114 H locs p115 hw hS => ?_)
                    · obtain ⟨ad, cnt, X116, Y117, ln, eu114, hE118, hFx, hOw, hLn, hRX116, hG119, hJ120, hCIX116, p115⟩ := p115
                      subst eu114
                      obtain ⟨r9, e9, -⟩ := p115
                      cases e9
                    · obtain ⟨ad, cnt, X121, Y122, ln, eu114, hE123, hFx, hOw, hLn, hRX121, hG124, hJ125, hCIX121, p115⟩ := p115
                      subst eu114
                      have hFX121 : Frm [1600, 2602, 2700] X X121 := Frm.tr Frm.rf (Frm.mono hG124 (by decide))
                      have hHY122 : Frm [1700, 600] Y Y122 := Frm.tr Frm.rf (Frm.mono hJ125 (by decide))
                      have hz113 : 0 ≤ z113 ∧ z113 < cnt 26 := by obtain ⟨r9, e9, h1, h2⟩ := p115; cases e9; exact ⟨h1, h2⟩
                      have hE := Ext.tr hE hE123
                      have hm126 := hE123.2.1 19
                      have hm127 := hE123.2.1 25
                      have hm128 := hE123.2.1 26
                      have hN : 0 ≤ cnt 25 ∧ 0 ≤ cnt 26 := by omega
                      have ha129 := hE123.1 0 0 (by omega) (by omega)
                      have ha130 := hE123.1 15 x (by omega) (by omega)
                      have ha131 := hE123.1 7 g (by omega) (by omega)
                      have ha132 := hE123.1 17 x (by omega) (by omega)
                      have hc0 : cnt 0 = 1 := hFx.at 0 1 (by decide)
                      have hc6 : cnt 6 = 1 := hFx.at 6 1 (by decide)
                      have hc7 : cnt 7 = 6 := hFx.at 7 6 (by decide)
                      have hc10 : cnt 10 = 6 := hFx.at 10 6 (by decide)
                      have hc11 : cnt 11 = 6 := hFx.at 11 6 (by decide)
                      have hc12 : cnt 12 = 6 := hFx.at 12 6 (by decide)
                      have hc15 : cnt 15 = 30 := hFx.at 15 30 (by decide)
                      have hc16 : cnt 16 = 30 := hFx.at 16 30 (by decide)
                      have hc17 : cnt 17 = 30 := hFx.at 17 30 (by decide)
                      have hc21 : cnt 21 = cnt 19 := hFx.2.1 21 (by decide)
                      have hc27 : cnt 27 = cnt 26 := hFx.2.2
                      have hl : lv_has ls 10 [(8, .long (jL (X 12 g slot))), (7, .int (jI (X 21 r2 z4))), (6, .int (jI z4)), (0, .ref (ad 0 0)), (1, .ref (ad 15 x)), (2, .ref (ad 7 g)), (3, .int (jI slot)), (4, .int (jI f)), (5, .int (jI rule))] := by rw [ha129, ha130, ha131]; exact hl
                      refine W.eq (g2 := F0 m 148 ls [.ref (ad 26 z113), .int (jI z4), .ref (ad 17 x)]) (by first | rfl | (rw [ha132]; done) | (rw [ha132]; rfl)) ?_
                      refine x_aast hx hb hK.1 hw hS (by omega) (by omega) ar_17 rfl rfl sl_26_0 (len_E ar_17 (by decide)) (by omega) (by omega) (by omega) (by omega) (by omega) dX8_fillField_148 (fun H locs hw hS => ?_)
                      obtain ⟨Y133, hY133⟩ : ∃ Yq, Yq = u3 Y122 17 x z4 (some z113) := ⟨_, rfl⟩
                      rw [← hY133] at hw
                      have hVY133 : Y133 17 x z4 = (some z113) := by rw [hY133]; exact u3_s _ _ _ _ _
                      have hHY133 : Frm [1700, 600] Y Y133 := by rw [hY133]; exact Frm.set hHY122 (show 1700 ∈ [1700, 600] by decide)
                      refine lv_goto (tgt := 192) hx hb dX8_fillField_149 (by decide) ?_
                      refine lv_iconst (v := jI 0) hx hb dX8_fillField_192 rfl ?_
                      rw [hQ9]
                      refine ret_i (mc := 2) (ms := 14) hx hb hr hlocks hw hS (by omega) (by omega) dX8_fillField_193 ?_
                      have q134 : Frm [1700] Y122 Y133 := by rw [hY133]; exact Frm.set Frm.rf (show 1700 ∈ [1700] by decide)
                      have hCq135 : CInv cnt X121 Y133 ln := cinv_frm (M := []) (N := [1700]) hCIX121 Frm.rf q134 (by decide) (by decide)
                      exact ⟨ad, cnt, X121, Y133, ln, rfl, hE9 _ _ _ hE, hFx, hOw, hLn, hRX121, hFX121, hHY133, hCq135, by omega⟩
                  · refine lv_null hx hb dX8_fillField_134 ?_
                    refine lv_goto (tgt := 148) hx hb dX8_fillField_135 (by decide) ?_
                    refine x_aastn hx hb hK.1 hw hS (by omega) (by omega) ar_17 rfl (len_E ar_17 (by decide)) (by omega) (by omega) (by omega) dX8_fillField_148 (fun H locs hw hS => ?_)
                    obtain ⟨Y136, hY136⟩ : ∃ Yq, Yq = u3 Y 17 x z4 none := ⟨_, rfl⟩
                    rw [← hY136] at hw
                    have hVY136 : Y136 17 x z4 = none := by rw [hY136]; exact u3_s _ _ _ _ _
                    have hHY136 : Frm [1700, 600] Y Y136 := by rw [hY136]; exact Frm.set Frm.rf (show 1700 ∈ [1700, 600] by decide)
                    refine lv_goto (tgt := 192) hx hb dX8_fillField_149 (by decide) ?_
                    refine lv_iconst (v := jI 0) hx hb dX8_fillField_192 rfl ?_
                    rw [hQ9]
                    refine ret_i (mc := 2) (ms := 14) hx hb hr hlocks hw hS (by omega) (by omega) dX8_fillField_193 ?_
                    have q137 : Frm [1700] Y Y136 := by rw [hY136]; exact Frm.set Frm.rf (show 1700 ∈ [1700] by decide)
                    have hCq138 : CInv cnt X Y136 ln := cinv_frm (M := []) (N := [1700]) hCI Frm.rf q137 (by decide) (by decide)
                    exact ⟨ad, cnt, X, Y136, ln, rfl, hE9 _ _ _ hE, hFx, hOw, hLn, hR, Frm.rf, hHY136, hCq138, by omega⟩
                · subst ez108
                  refine x_if_eqT (tgt := 152) hx hb (by omega) (by decide) dX8_fillField_116 (by decide) ?_
                  refine lv_iload hx hb dX8_fillField_152 (lv_at hl 1 rfl) ?_
                  refine lv_iconst (v := jI 2) hx hb dX8_fillField_154 rfl ?_
                  refine x_icmp_ne (tgt := 183) hx hb (by omega) (by omega) dX8_fillField_155 (by decide) (fun c139 => ?_) (fun c139 => ?_)
                  · refine lv_aload_n hx hb dX8_fillField_183 rfl (lv_at hl 4 rfl) ?_
                    refine x_geto hx hb hf6 hw (by omega) (by omega) sl_15_1 lk193 dX8_fillField_184 ?_
                    refine lv_iload hx hb dX8_fillField_187 (lv_at hl 2 rfl) ?_
                    refine lv_lload hx hb dX8_fillField_189 (lv_at hl 0 rfl) ?_
                    refine x_last hx hb hK.1 hw hS (by omega) (by omega) ar_16 (len_E ar_16 (by decide)) (by omega) (by omega) (by omega) dX8_fillField_191 (fun H locs hw hS => ?_)
                    obtain ⟨X140, hX140⟩ : ∃ Xq, Xq = u3 X 16 x z4 (X 12 g slot) := ⟨_, rfl⟩
                    rw [← hX140] at hw
                    have hRX140 : Rng X140 := by rw [hX140]; exact rng_set hR (show (-9223372036854775808) ≤ (X 12 g slot) ∧ (X 12 g slot) ≤ 9223372036854775807 by omega)
                    have hVX140 : X140 16 x z4 = (X 12 g slot) := by rw [hX140]; exact u3_s _ _ _ _ _
                    have hFX140 : Frm [1600, 2602, 2700] X X140 := by rw [hX140]; exact Frm.set Frm.rf (show 1600 ∈ [1600, 2602, 2700] by decide)
                    refine lv_iconst (v := jI 0) hx hb dX8_fillField_192 rfl ?_
                    rw [hQ9]
                    refine ret_i (mc := 2) (ms := 14) hx hb hr hlocks hw hS (by omega) (by omega) dX8_fillField_193 ?_
                    have q141 : Frm [1600] X X140 := by rw [hX140]; exact Frm.set Frm.rf (show 1600 ∈ [1600] by decide)
                    have hCq142 : CInv cnt X140 Y ln := cinv_frm (M := [1600]) (N := []) hCI q141 Frm.rf (by decide) (by decide)
                    exact ⟨ad, cnt, X140, Y, ln, rfl, hE9 _ _ _ hE, hFx, hOw, hLn, hRX140, hFX140, Frm.rf, hCq142, by omega⟩
                  · refine lv_lload hx hb dX8_fillField_158 (lv_at hl 0 rfl) ?_
                    refine lv_ldc2 (v := jL (-1)) hx hb hown (hts (.constantLong RX8 88 (-1)) (by decide +kernel)) dX8_fillField_160 ?_
                    refine x_lcmp hx hb (by omega) (by omega) dX8_fillField_163 ?_
                    obtain ⟨z143, ez143⟩ : ∃ y : Int, y = cmpZ (X 12 g slot) (-1) := ⟨_, rfl⟩
                    rw [← ez143]
                    have gz143 : (z143 < 0 ↔ ((X 12 g slot) : Int) < (-1)) ∧ (z143 = 0 ↔ ((X 12 g slot) : Int) = (-1)) ∧ -1 ≤ z143 ∧ z143 ≤ 1 := by rw [ez143]; exact ⟨cmpZ_lt, cmpZ_eq, (cmpZ_r _ _).1, (cmpZ_r _ _).2⟩
                    clear ez143
                    refine x_if_eq (tgt := 183) hx hb (by omega) dX8_fillField_164 (by decide) (fun c144 => ?_) (fun c144 => ?_)
                    · refine lv_aload_n hx hb dX8_fillField_183 rfl (lv_at hl 4 rfl) ?_
                      refine x_geto hx hb hf6 hw (by omega) (by omega) sl_15_1 lk193 dX8_fillField_184 ?_
                      refine lv_iload hx hb dX8_fillField_187 (lv_at hl 2 rfl) ?_
                      refine lv_lload hx hb dX8_fillField_189 (lv_at hl 0 rfl) ?_
                      refine x_last hx hb hK.1 hw hS (by omega) (by omega) ar_16 (len_E ar_16 (by decide)) (by omega) (by omega) (by omega) dX8_fillField_191 (fun H locs hw hS => ?_)
                      obtain ⟨X145, hX145⟩ : ∃ Xq, Xq = u3 X 16 x z4 (X 12 g slot) := ⟨_, rfl⟩
                      rw [← hX145] at hw
                      have hRX145 : Rng X145 := by rw [hX145]; exact rng_set hR (show (-9223372036854775808) ≤ (X 12 g slot) ∧ (X 12 g slot) ≤ 9223372036854775807 by omega)
                      have hVX145 : X145 16 x z4 = (X 12 g slot) := by rw [hX145]; exact u3_s _ _ _ _ _
                      have hFX145 : Frm [1600, 2602, 2700] X X145 := by rw [hX145]; exact Frm.set Frm.rf (show 1600 ∈ [1600, 2602, 2700] by decide)
                      refine lv_iconst (v := jI 0) hx hb dX8_fillField_192 rfl ?_
                      rw [hQ9]
                      refine ret_i (mc := 2) (ms := 14) hx hb hr hlocks hw hS (by omega) (by omega) dX8_fillField_193 ?_
                      have q146 : Frm [1600] X X145 := by rw [hX145]; exact Frm.set Frm.rf (show 1600 ∈ [1600] by decide)
                      have hCq147 : CInv cnt X145 Y ln := cinv_frm (M := [1600]) (N := []) hCI q146 Frm.rf (by decide) (by decide)
                      exact ⟨ad, cnt, X145, Y, ln, rfl, hE9 _ _ _ hE, hFx, hOw, hLn, hRX145, hFX145, Frm.rf, hCq147, by omega⟩
                    · have hv9 := hv (by omega)
                      refine lv_aload_n hx hb dX8_fillField_167 rfl (lv_at hl 4 rfl) ?_
                      refine x_geto hx hb hf6 hw (by omega) (by omega) sl_15_1 lk193 dX8_fillField_168 ?_
                      refine lv_iload hx hb dX8_fillField_171 (lv_at hl 2 rfl) ?_
                      refine lv_iload hx hb dX8_fillField_173 (lv_at hl 7 rfl) ?_
                      refine x_i2l hx hb (by omega) dX8_fillField_175 ?_
                      refine lv_lload hx hb dX8_fillField_176 (lv_at hl 0 rfl) ?_
                      refine x_ladd hx hb dX8_fillField_178 ?_
                      refine x_last hx hb hK.1 hw hS (by omega) (by omega) ar_16 (len_E ar_16 (by decide)) (by omega) (by omega) (by omega) dX8_fillField_179 (fun H locs hw hS => ?_)
                      obtain ⟨X148, hX148⟩ : ∃ Xq, Xq = u3 X 16 x z4 (f + (X 12 g slot)) := ⟨_, rfl⟩
                      rw [← hX148] at hw
                      have hRX148 : Rng X148 := by rw [hX148]; exact rng_set hR (show (-9223372036854775808) ≤ (f + (X 12 g slot)) ∧ (f + (X 12 g slot)) ≤ 9223372036854775807 by omega)
                      have hVX148 : X148 16 x z4 = (f + (X 12 g slot)) := by rw [hX148]; exact u3_s _ _ _ _ _
                      have hFX148 : Frm [1600, 2602, 2700] X X148 := by rw [hX148]; exact Frm.set Frm.rf (show 1600 ∈ [1600, 2602, 2700] by decide)
                      refine lv_goto (tgt := 192) hx hb dX8_fillField_180 (by decide) ?_
                      refine lv_iconst (v := jI 0) hx hb dX8_fillField_192 rfl ?_
                      rw [hQ9]
                      refine ret_i (mc := 2) (ms := 14) hx hb hr hlocks hw hS (by omega) (by omega) dX8_fillField_193 ?_
                      have q149 : Frm [1600] X X148 := by rw [hX148]; exact Frm.set Frm.rf (show 1600 ∈ [1600] by decide)
                      have hCq150 : CInv cnt X148 Y ln := cinv_frm (M := [1600]) (N := []) hCI q149 Frm.rf (by decide) (by decide)
                      exact ⟨ad, cnt, X148, Y, ln, rfl, hE9 _ _ _ hE, hFx, hOw, hLn, hRX148, hFX148, Frm.rf, hCq150, by omega⟩
              · subst ez105
                refine x_if_neF (tgt := 111) hx hb (by omega) (by decide) dX8_fillField_93 (by decide) ?_
                refine lv_iload hx hb dX8_fillField_96 (lv_at hl 8 rfl) ?_
                refine lv_iconst (v := jI 2) hx hb dX8_fillField_98 rfl ?_
                refine lv_iand hx hb dX8_fillField_99 ?_
                refine x_anyi (fun z151 hz151 => ?_)
                refine x_if_ne (tgt := 106) hx hb (by omega) dX8_fillField_100 (by decide) (fun c152 => ?_) (fun c152 => ?_)
                · refine lv_ldc2 (v := jL (-1)) hx hb hown (hts (.constantLong RX8 88 (-1)) (by decide +kernel)) dX8_fillField_106 ?_
                  refine lv_lstore (lv' := [(8, .long (jL (-1))), (7, .int (jI (X 21 r2 z4))), (6, .int (jI z4)), (0, .ref (ad 0 0)), (1, .ref (ad 15 x)), (2, .ref (ad 7 g)), (3, .int (jI slot)), (4, .int (jI f)), (5, .int (jI rule))]) hx hb dX8_fillField_109 hl (by decide) rfl (fun ls hl => ?_)
                  refine lv_iload hx hb dX8_fillField_111 (lv_at hl 1 rfl) ?_
                  refine gos_i (run_S (As := [.int (jI (X 21 r2 z4))]) (rest := []) hx hb hml hown hts (c_X8_isRowLane l D tc base ad cnt X Y ln (X 21 r2 z4) (by omega)) (cwS 1 hts gX8_fillField_X8_isRowLane rfl rfl rfl (by decide +kernel) ⟨Nat.le_of_ble_eq_true rfl, Nat.le_of_ble_eq_true rfl⟩) hK hw rfl hl.1 rfl (Nat.le_of_ble_eq_true rfl) dX8_fillField_113 ⟨(by show _ ≤ (2 : Nat); omega), (by show _ ≤ (14 : Nat); omega)⟩) hS (fun z153 u154 H locs p155 hw hS => ?_)
                  obtain ⟨eu154, p155⟩ := p155
                  subst eu154
                  rcases p155 with ⟨ez153, p155⟩ | ⟨ez153, p155⟩
                  · subst ez153
                    refine x_if_eqF (tgt := 152) hx hb (by omega) (by decide) dX8_fillField_116 (by decide) ?_
                    refine lv_aload_n hx hb dX8_fillField_119 rfl (lv_at hl 4 rfl) ?_
                    refine x_geto hx hb hf6 hw (by omega) (by omega) sl_15_2 lk158 dX8_fillField_120 ?_
                    refine lv_iload hx hb dX8_fillField_123 (lv_at hl 2 rfl) ?_
                    refine lv_lload hx hb dX8_fillField_125 (lv_at hl 0 rfl) ?_
                    refine lv_ldc2 (v := jL (-1)) hx hb hown (hts (.constantLong RX8 88 (-1)) (by decide +kernel)) dX8_fillField_127 ?_
                    refine x_lcmp hx hb (by omega) (by omega) dX8_fillField_130 ?_
                    obtain ⟨z156, ez156⟩ : ∃ y : Int, y = cmpZ (-1) (-1) := ⟨_, rfl⟩
                    rw [← ez156]
                    have gz156 : (z156 < 0 ↔ ((-1) : Int) < (-1)) ∧ (z156 = 0 ↔ ((-1) : Int) = (-1)) ∧ -1 ≤ z156 ∧ z156 ≤ 1 := by rw [ez156]; exact ⟨cmpZ_lt, cmpZ_eq, (cmpZ_r _ _).1, (cmpZ_r _ _).2⟩
                    clear ez156
                    refine x_if_ne (tgt := 138) hx hb (by omega) dX8_fillField_131 (by decide) (fun c157 => ?_) (fun c157 => ?_)
                    · have hv9 := hv (by omega)
                      refine lv_aload_n hx hb dX8_fillField_138 rfl (lv_at hl 3 rfl) ?_
                      refine lv_aload_n hx hb dX8_fillField_139 rfl (lv_at hl 5 rfl) ?_
                      refine lv_lload hx hb dX8_fillField_140 (lv_at hl 0 rfl) ?_
                      refine x_l2i hx hb dX8_fillField_142 ?_
                      refine lv_iload hx hb dX8_fillField_143 (lv_at hl 1 rfl) ?_
                      refine gos_r (run_V (As := [.ref (ad 7 g), .int (jI (-1)), .int (jI (X 21 r2 z4))]) (rest := [.int (jI z4), .ref (ad 17 x)]) hx hb hml hown hts (c_X8_rowPutBack l D tc base ad cnt X Y ln hR hFx hLn hCI hOw hN g (-1) (X 21 r2 z4) (by omega) (by omega) (by omega)) (cwV 3 hts gX8_fillField_X8_rowPutBack rfl rfl rfl (by decide +kernel) ⟨Nat.le_of_ble_eq_true rfl, Nat.le_of_ble_eq_true rfl⟩) hK hw (by omega) (by omega) sl_0_0 rfl rfl hl.1 rfl (Nat.le_of_ble_eq_true rfl) dX8_fillField_145 ⟨(by show _ ≤ (2 : Nat); omega), (by show _ ≤ (14 : Nat); omega)⟩) hS (fun u159 H locs p160 hw hS => ?_) (fun z158 u159 H locs p160 hw hS => ?_)
                      · obtain ⟨ad, cnt, X161, Y162, ln, eu159, hE163, hFx, hOw, hLn, hRX161, hG164, hJ165, hCIX161, p160⟩ := p160
                        subst eu159
                        obtain ⟨r9, e9, -⟩ := p160
                        cases e9
                      · obtain ⟨ad, cnt, X166, Y167, ln, eu159, hE168, hFx, hOw, hLn, hRX166, hG169, hJ170, hCIX166, p160⟩ := p160
                        subst eu159
                        have hFX166 : Frm [1600, 2602, 2700] X X166 := Frm.tr Frm.rf (Frm.mono hG169 (by decide))
                        have hHY167 : Frm [1700, 600] Y Y167 := Frm.tr Frm.rf (Frm.mono hJ170 (by decide))
                        have hz158 : 0 ≤ z158 ∧ z158 < cnt 26 := by obtain ⟨r9, e9, h1, h2⟩ := p160; cases e9; exact ⟨h1, h2⟩
                        have hE := Ext.tr hE hE168
                        have hm171 := hE168.2.1 19
                        have hm172 := hE168.2.1 25
                        have hm173 := hE168.2.1 26
                        have hN : 0 ≤ cnt 25 ∧ 0 ≤ cnt 26 := by omega
                        have ha174 := hE168.1 0 0 (by omega) (by omega)
                        have ha175 := hE168.1 15 x (by omega) (by omega)
                        have ha176 := hE168.1 7 g (by omega) (by omega)
                        have ha177 := hE168.1 17 x (by omega) (by omega)
                        have hc0 : cnt 0 = 1 := hFx.at 0 1 (by decide)
                        have hc6 : cnt 6 = 1 := hFx.at 6 1 (by decide)
                        have hc7 : cnt 7 = 6 := hFx.at 7 6 (by decide)
                        have hc10 : cnt 10 = 6 := hFx.at 10 6 (by decide)
                        have hc11 : cnt 11 = 6 := hFx.at 11 6 (by decide)
                        have hc12 : cnt 12 = 6 := hFx.at 12 6 (by decide)
                        have hc15 : cnt 15 = 30 := hFx.at 15 30 (by decide)
                        have hc16 : cnt 16 = 30 := hFx.at 16 30 (by decide)
                        have hc17 : cnt 17 = 30 := hFx.at 17 30 (by decide)
                        have hc21 : cnt 21 = cnt 19 := hFx.2.1 21 (by decide)
                        have hc27 : cnt 27 = cnt 26 := hFx.2.2
                        have hl : lv_has ls 10 [(8, .long (jL (-1))), (7, .int (jI (X 21 r2 z4))), (6, .int (jI z4)), (0, .ref (ad 0 0)), (1, .ref (ad 15 x)), (2, .ref (ad 7 g)), (3, .int (jI slot)), (4, .int (jI f)), (5, .int (jI rule))] := by rw [ha174, ha175, ha176]; exact hl
                        refine W.eq (g2 := F0 m 148 ls [.ref (ad 26 z158), .int (jI z4), .ref (ad 17 x)]) (by first | rfl | (rw [ha177]; done) | (rw [ha177]; rfl)) ?_
                        refine x_aast hx hb hK.1 hw hS (by omega) (by omega) ar_17 rfl rfl sl_26_0 (len_E ar_17 (by decide)) (by omega) (by omega) (by omega) (by omega) (by omega) dX8_fillField_148 (fun H locs hw hS => ?_)
                        obtain ⟨Y178, hY178⟩ : ∃ Yq, Yq = u3 Y167 17 x z4 (some z158) := ⟨_, rfl⟩
                        rw [← hY178] at hw
                        have hVY178 : Y178 17 x z4 = (some z158) := by rw [hY178]; exact u3_s _ _ _ _ _
                        have hHY178 : Frm [1700, 600] Y Y178 := by rw [hY178]; exact Frm.set hHY167 (show 1700 ∈ [1700, 600] by decide)
                        refine lv_goto (tgt := 192) hx hb dX8_fillField_149 (by decide) ?_
                        refine lv_iconst (v := jI 0) hx hb dX8_fillField_192 rfl ?_
                        rw [hQ9]
                        refine ret_i (mc := 2) (ms := 14) hx hb hr hlocks hw hS (by omega) (by omega) dX8_fillField_193 ?_
                        have q179 : Frm [1700] Y167 Y178 := by rw [hY178]; exact Frm.set Frm.rf (show 1700 ∈ [1700] by decide)
                        have hCq180 : CInv cnt X166 Y178 ln := cinv_frm (M := []) (N := [1700]) hCIX166 Frm.rf q179 (by decide) (by decide)
                        exact ⟨ad, cnt, X166, Y178, ln, rfl, hE9 _ _ _ hE, hFx, hOw, hLn, hRX166, hFX166, hHY178, hCq180, by omega⟩
                    · refine lv_null hx hb dX8_fillField_134 ?_
                      refine lv_goto (tgt := 148) hx hb dX8_fillField_135 (by decide) ?_
                      refine x_aastn hx hb hK.1 hw hS (by omega) (by omega) ar_17 rfl (len_E ar_17 (by decide)) (by omega) (by omega) (by omega) dX8_fillField_148 (fun H locs hw hS => ?_)
                      obtain ⟨Y181, hY181⟩ : ∃ Yq, Yq = u3 Y 17 x z4 none := ⟨_, rfl⟩
                      rw [← hY181] at hw
                      have hVY181 : Y181 17 x z4 = none := by rw [hY181]; exact u3_s _ _ _ _ _
                      have hHY181 : Frm [1700, 600] Y Y181 := by rw [hY181]; exact Frm.set Frm.rf (show 1700 ∈ [1700, 600] by decide)
                      refine lv_goto (tgt := 192) hx hb dX8_fillField_149 (by decide) ?_
                      refine lv_iconst (v := jI 0) hx hb dX8_fillField_192 rfl ?_
                      rw [hQ9]
                      refine ret_i (mc := 2) (ms := 14) hx hb hr hlocks hw hS (by omega) (by omega) dX8_fillField_193 ?_
                      have q182 : Frm [1700] Y Y181 := by rw [hY181]; exact Frm.set Frm.rf (show 1700 ∈ [1700] by decide)
                      have hCq183 : CInv cnt X Y181 ln := cinv_frm (M := []) (N := [1700]) hCI Frm.rf q182 (by decide) (by decide)
                      exact ⟨ad, cnt, X, Y181, ln, rfl, hE9 _ _ _ hE, hFx, hOw, hLn, hR, Frm.rf, hHY181, hCq183, by omega⟩
                  · subst ez153
                    refine x_if_eqT (tgt := 152) hx hb (by omega) (by decide) dX8_fillField_116 (by decide) ?_
                    refine lv_iload hx hb dX8_fillField_152 (lv_at hl 1 rfl) ?_
                    refine lv_iconst (v := jI 2) hx hb dX8_fillField_154 rfl ?_
                    refine x_icmp_ne (tgt := 183) hx hb (by omega) (by omega) dX8_fillField_155 (by decide) (fun c184 => ?_) (fun c184 => ?_)
                    · refine lv_aload_n hx hb dX8_fillField_183 rfl (lv_at hl 4 rfl) ?_
                      refine x_geto hx hb hf6 hw (by omega) (by omega) sl_15_1 lk193 dX8_fillField_184 ?_
                      refine lv_iload hx hb dX8_fillField_187 (lv_at hl 2 rfl) ?_
                      refine lv_lload hx hb dX8_fillField_189 (lv_at hl 0 rfl) ?_
                      refine x_last hx hb hK.1 hw hS (by omega) (by omega) ar_16 (len_E ar_16 (by decide)) (by omega) (by omega) (by omega) dX8_fillField_191 (fun H locs hw hS => ?_)
                      obtain ⟨X185, hX185⟩ : ∃ Xq, Xq = u3 X 16 x z4 (-1) := ⟨_, rfl⟩
                      rw [← hX185] at hw
                      have hRX185 : Rng X185 := by rw [hX185]; exact rng_set hR (show (-9223372036854775808) ≤ (-1) ∧ (-1) ≤ 9223372036854775807 by omega)
                      have hVX185 : X185 16 x z4 = (-1) := by rw [hX185]; exact u3_s _ _ _ _ _
                      have hFX185 : Frm [1600, 2602, 2700] X X185 := by rw [hX185]; exact Frm.set Frm.rf (show 1600 ∈ [1600, 2602, 2700] by decide)
                      refine lv_iconst (v := jI 0) hx hb dX8_fillField_192 rfl ?_
                      rw [hQ9]
                      refine ret_i (mc := 2) (ms := 14) hx hb hr hlocks hw hS (by omega) (by omega) dX8_fillField_193 ?_
                      have q186 : Frm [1600] X X185 := by rw [hX185]; exact Frm.set Frm.rf (show 1600 ∈ [1600] by decide)
                      have hCq187 : CInv cnt X185 Y ln := cinv_frm (M := [1600]) (N := []) hCI q186 Frm.rf (by decide) (by decide)
                      exact ⟨ad, cnt, X185, Y, ln, rfl, hE9 _ _ _ hE, hFx, hOw, hLn, hRX185, hFX185, Frm.rf, hCq187, by omega⟩
                    · refine lv_lload hx hb dX8_fillField_158 (lv_at hl 0 rfl) ?_
                      refine lv_ldc2 (v := jL (-1)) hx hb hown (hts (.constantLong RX8 88 (-1)) (by decide +kernel)) dX8_fillField_160 ?_
                      refine x_lcmp hx hb (by omega) (by omega) dX8_fillField_163 ?_
                      obtain ⟨z188, ez188⟩ : ∃ y : Int, y = cmpZ (-1) (-1) := ⟨_, rfl⟩
                      rw [← ez188]
                      have gz188 : (z188 < 0 ↔ ((-1) : Int) < (-1)) ∧ (z188 = 0 ↔ ((-1) : Int) = (-1)) ∧ -1 ≤ z188 ∧ z188 ≤ 1 := by rw [ez188]; exact ⟨cmpZ_lt, cmpZ_eq, (cmpZ_r _ _).1, (cmpZ_r _ _).2⟩
                      clear ez188
                      refine x_if_eq (tgt := 183) hx hb (by omega) dX8_fillField_164 (by decide) (fun c189 => ?_) (fun c189 => ?_)
                      · refine lv_aload_n hx hb dX8_fillField_183 rfl (lv_at hl 4 rfl) ?_
                        refine x_geto hx hb hf6 hw (by omega) (by omega) sl_15_1 lk193 dX8_fillField_184 ?_
                        refine lv_iload hx hb dX8_fillField_187 (lv_at hl 2 rfl) ?_
                        refine lv_lload hx hb dX8_fillField_189 (lv_at hl 0 rfl) ?_
                        refine x_last hx hb hK.1 hw hS (by omega) (by omega) ar_16 (len_E ar_16 (by decide)) (by omega) (by omega) (by omega) dX8_fillField_191 (fun H locs hw hS => ?_)
                        obtain ⟨X190, hX190⟩ : ∃ Xq, Xq = u3 X 16 x z4 (-1) := ⟨_, rfl⟩
                        rw [← hX190] at hw
                        have hRX190 : Rng X190 := by rw [hX190]; exact rng_set hR (show (-9223372036854775808) ≤ (-1) ∧ (-1) ≤ 9223372036854775807 by omega)
                        have hVX190 : X190 16 x z4 = (-1) := by rw [hX190]; exact u3_s _ _ _ _ _
                        have hFX190 : Frm [1600, 2602, 2700] X X190 := by rw [hX190]; exact Frm.set Frm.rf (show 1600 ∈ [1600, 2602, 2700] by decide)
                        refine lv_iconst (v := jI 0) hx hb dX8_fillField_192 rfl ?_
                        rw [hQ9]
                        refine ret_i (mc := 2) (ms := 14) hx hb hr hlocks hw hS (by omega) (by omega) dX8_fillField_193 ?_
                        have q191 : Frm [1600] X X190 := by rw [hX190]; exact Frm.set Frm.rf (show 1600 ∈ [1600] by decide)
                        have hCq192 : CInv cnt X190 Y ln := cinv_frm (M := [1600]) (N := []) hCI q191 Frm.rf (by decide) (by decide)
                        exact ⟨ad, cnt, X190, Y, ln, rfl, hE9 _ _ _ hE, hFx, hOw, hLn, hRX190, hFX190, Frm.rf, hCq192, by omega⟩
                      · have hv9 := hv (by omega)
                        refine lv_aload_n hx hb dX8_fillField_167 rfl (lv_at hl 4 rfl) ?_
                        refine x_geto hx hb hf6 hw (by omega) (by omega) sl_15_1 lk193 dX8_fillField_168 ?_
                        refine lv_iload hx hb dX8_fillField_171 (lv_at hl 2 rfl) ?_
                        refine lv_iload hx hb dX8_fillField_173 (lv_at hl 7 rfl) ?_
                        refine x_i2l hx hb (by omega) dX8_fillField_175 ?_
                        refine lv_lload hx hb dX8_fillField_176 (lv_at hl 0 rfl) ?_
                        refine x_ladd hx hb dX8_fillField_178 ?_
                        refine x_last hx hb hK.1 hw hS (by omega) (by omega) ar_16 (len_E ar_16 (by decide)) (by omega) (by omega) (by omega) dX8_fillField_179 (fun H locs hw hS => ?_)
                        obtain ⟨X193, hX193⟩ : ∃ Xq, Xq = u3 X 16 x z4 (f + (-1)) := ⟨_, rfl⟩
                        rw [← hX193] at hw
                        have hRX193 : Rng X193 := by rw [hX193]; exact rng_set hR (show (-9223372036854775808) ≤ (f + (-1)) ∧ (f + (-1)) ≤ 9223372036854775807 by omega)
                        have hVX193 : X193 16 x z4 = (f + (-1)) := by rw [hX193]; exact u3_s _ _ _ _ _
                        have hFX193 : Frm [1600, 2602, 2700] X X193 := by rw [hX193]; exact Frm.set Frm.rf (show 1600 ∈ [1600, 2602, 2700] by decide)
                        refine lv_goto (tgt := 192) hx hb dX8_fillField_180 (by decide) ?_
                        refine lv_iconst (v := jI 0) hx hb dX8_fillField_192 rfl ?_
                        rw [hQ9]
                        refine ret_i (mc := 2) (ms := 14) hx hb hr hlocks hw hS (by omega) (by omega) dX8_fillField_193 ?_
                        have q194 : Frm [1600] X X193 := by rw [hX193]; exact Frm.set Frm.rf (show 1600 ∈ [1600] by decide)
                        have hCq195 : CInv cnt X193 Y ln := cinv_frm (M := [1600]) (N := []) hCI q194 Frm.rf (by decide) (by decide)
                        exact ⟨ad, cnt, X193, Y, ln, rfl, hE9 _ _ _ hE, hFx, hOw, hLn, hRX193, hFX193, Frm.rf, hCq195, by omega⟩
                · refine lv_bipush (v := jI 7) hx hb dX8_fillField_103 (by decide) ?_
                  rw [hQ9]
                  refine ret_i (mc := 2) (ms := 14) hx hb hr hlocks hw hS (by omega) (by omega) dX8_fillField_105 ?_
                  exact ⟨ad, cnt, X, Y, ln, rfl, hE9 _ _ _ hE, hFx, hOw, hLn, hR, Frm.rf, Frm.rf, hCI, by omega⟩
        · subst ez12
          refine x_if_neF (tgt := 64) hx hb (by omega) (by decide) dX8_fillField_58 (by decide) ?_
          refine lv_bipush (v := jI 9) hx hb dX8_fillField_61 (by decide) ?_
          rw [hQ9]
          refine ret_i (mc := 2) (ms := 14) hx hb hr hlocks hw hS (by omega) (by omega) dX8_fillField_63 ?_
          exact ⟨ad, cnt, X, Y, ln, rfl, hE9 _ _ _ hE, hFx, hOw, hLn, hR, Frm.rf, Frm.rf, hCI, by omega⟩
    · refine lv_iload hx hb dX8_fillField_21 (lv_at hl 6 rfl) ?_
      refine lv_iconst (v := jI 1) hx hb dX8_fillField_23 rfl ?_
      refine lv_iand hx hb dX8_fillField_24 ?_
      refine x_anyi (fun z196 hz196 => ?_)
      refine x_if_eq (tgt := 32) hx hb (by omega) dX8_fillField_25 (by decide) (fun c197 => ?_) (fun c197 => ?_)
      · refine lv_bipush (v := jI 8) hx hb dX8_fillField_32 (by decide) ?_
        rw [hQ9]
        refine ret_i (mc := 2) (ms := 14) hx hb hr hlocks hw hS (by omega) (by omega) dX8_fillField_34 ?_
        exact ⟨ad, cnt, X, Y, ln, rfl, hE9 _ _ _ hE, hFx, hOw, hLn, hR, Frm.rf, Frm.rf, hCI, by omega⟩
      · refine lv_iconst (v := jI 0) hx hb dX8_fillField_28 rfl ?_
        refine lv_goto (tgt := 34) hx hb dX8_fillField_29 (by decide) ?_
        rw [hQ9]
        refine ret_i (mc := 2) (ms := 14) hx hb hr hlocks hw hS (by omega) (by omega) dX8_fillField_34 ?_
        exact ⟨ad, cnt, X, Y, ln, rfl, hE9 _ _ _ hE, hFx, hOw, hLn, hR, Frm.rf, Frm.rf, hCI, by omega⟩

set_option maxHeartbeats 4000000 in
set_option maxRecDepth 100000 in
theorem c_X8_fillThings (l : Launch) (D : va_G) (tc : Nat → ClassId) (base : Nat) (ad : Nat → Int → Nat) (cnt : Nat → Int) (X : Nat → Int → Int → Int) (Y : Nat → Int → Int → Option Int) (ln : Int → Int) (hR : Rng X) (hFx : Fx cnt) (hLn : LnOK ln) (hCI : CInv cnt X Y ln) (hOw : Own cnt) (hN : 0 ≤ cnt 25 ∧ 0 ≤ cnt 26) (g f rule : Int) (hg : 0 ≤ g ∧ g < 6) (hf : 0 ≤ f ∧ f + X 7 g 0 ≤ X 0 0 3) (hrule : -2147483648 ≤ rule ∧ rule ≤ 2147483647) (hRv : cRv X) : KI l D tc base yX8_fillThings wsX8_fillThings ({ frames := 5, cells := 300, slots := 2100, locals := 109 } : Room) [.ref (ad 0 0), .ref (ad 7 g), .int (jI f), .int (jI rule)] (ad, cnt, X, Y, ln) 300 2100 (fun z u => ∃ (ad1 : Nat → Int → Nat) (cnt1 : Nat → Int) (X1 : Nat → Int → Int → Int) (Y1 : Nat → Int → Int → Option Int) (ln1 : Int → Int), u = (ad1, cnt1, X1, Y1, ln1) ∧ Ext ad cnt ln ad1 cnt1 ln1 ∧ Fx cnt1 ∧ Own cnt1 ∧ LnOK ln1 ∧ Rng X1 ∧ Frm [1600, 2602, 2700, 3201, 3202, 3203, 3204] X X1 ∧ Frm [1700, 600] Y Y1 ∧ CInv cnt1 X1 Y1 ln1 ∧ (0 ≤ z ∧ z ≤ 10)) := by
  refine K_of (cc := cX8_fillThings) (maxL := 8) (ret := (some .int)) (by decide) rfl (Nat.le_of_ble_eq_true rfl) ?_
  intro p e s m below meth c ls hx hb hr hml hown hts hlocks hl hK hw hS
  have hown : s.vm.findClass RX8 = some m.cls := hown
  have hbs : base ≤ s.heap.size := wd_size hw
  obtain ⟨av9, hav9⟩ : ∃ a9 : Array Value, a9 = ([.ref (ad 0 0), .ref (ad 7 g), .int (jI f), .int (jI rule)] : List Value).toArray := ⟨_, rfl⟩
  rw [← hav9] at hts ⊢
  obtain ⟨Q9, hQ9⟩ : ∃ q : State → Prop, q = MQ below (QI D tc base (fun z u => ∃ (ad1 : Nat → Int → Nat) (cnt1 : Nat → Int) (X1 : Nat → Int → Int → Int) (Y1 : Nat → Int → Int → Option Int) (ln1 : Int → Int), u = (ad1, cnt1, X1, Y1, ln1) ∧ Ext ad cnt ln ad1 cnt1 ln1 ∧ Fx cnt1 ∧ Own cnt1 ∧ LnOK ln1 ∧ Rng X1 ∧ Frm [1600, 2602, 2700, 3201, 3202, 3203, 3204] X X1 ∧ Frm [1700, 600] Y Y1 ∧ CInv cnt1 X1 Y1 ln1 ∧ (0 ≤ z ∧ z ≤ 10))) av9 s 300 2100 (frA base) := ⟨_, rfl⟩
  rw [← hQ9]
  obtain ⟨ad0, ha0⟩ : ∃ a, a = ad := ⟨_, rfl⟩
  obtain ⟨cnt0, hc0⟩ : ∃ a, a = cnt := ⟨_, rfl⟩
  obtain ⟨ln0, hl0⟩ : ∃ a, a = ln := ⟨_, rfl⟩
  have hE9 : ∀ a c n, Ext ad0 cnt0 ln0 a c n → Ext ad cnt ln a c n := by rw [ha0, hc0, hl0]; exact fun _ _ _ h => h
  have hE : Ext ad0 cnt0 ln0 ad cnt ln := by rw [ha0, hc0, hl0]; exact Ext.rf
  clear ha0 hc0 hl0
  have hi4 : ∀ w ∈ wsX40, w ∈ wsX8_fillThings := fun w h => List.mem_cons_of_mem _ (List.mem_append_left _ (List.mem_append_left _ (List.mem_append_left _ (List.mem_append_left _ (List.mem_append_left _ (List.mem_append_right _ h))))))
  have hf4 : fctx s m _ RX8 wsX8_fillThings D tc RX4 TX4 9 4 := ⟨hts, hi4, hown, hK.1, rfl⟩
  have hi8 : ∀ w ∈ wsX80, w ∈ wsX8_fillThings := fun w h => List.mem_cons_of_mem _ (List.mem_append_left _ (List.mem_append_left _ (List.mem_append_left _ (List.mem_append_left _ (List.mem_append_right _ h)))))
  have hf8 : fctx s m _ RX8 wsX8_fillThings D tc RX8 TX8 12 8 := ⟨hts, hi8, hown, hK.1, rfl⟩
  have lk17 := hts (.fieldLink RX8 17 "StateRecords" "things" "[LStateRecords$Thing;") (by decide +kernel)
  have lk44 := hts (.fieldLink RX8 44 "StateRecords" "rowsPutBack" "[LStateRecords$Row;") (by decide +kernel)
  have lk58 := hts (.fieldLink RX8 58 "StateRecords" "latestFault" "LStateRecords$Fault;") (by decide +kernel)
  have lk224 := hts (.fieldLink RX8 224 "StateRecords$Records" "names" "[I") (by decide +kernel)
  have lk231 := hts (.fieldLink RX8 231 "StateRecords$Records" "recordCount" "I") (by decide +kernel)
  have lk234 := hts (.fieldLink RX8 234 "StateRecords$Records" "rowCount" "I") (by decide +kernel)
  have lk338 := hts (.fieldLink RX8 338 "StateRecords$Records" "fieldCounts" "[I") (by decide +kernel)
  have hc0 : cnt 0 = 1 := hFx.at 0 1 (by decide)
  have hc2 : cnt 2 = 1 := hFx.at 2 1 (by decide)
  have hc6 : cnt 6 = 1 := hFx.at 6 1 (by decide)
  have hc7 : cnt 7 = 6 := hFx.at 7 6 (by decide)
  have hc9 : cnt 9 = 6 := hFx.at 9 6 (by decide)
  have hc10 : cnt 10 = 6 := hFx.at 10 6 (by decide)
  have hc15 : cnt 15 = 30 := hFx.at 15 30 (by decide)
  have hc16 : cnt 16 = 30 := hFx.at 16 30 (by decide)
  have hc17 : cnt 17 = 30 := hFx.at 17 30 (by decide)
  have hc27 : cnt 27 = cnt 26 := hFx.2.2
  have hc32 : cnt 32 = 1 := hFx.at 32 1 (by decide)
  have hl : lv_has ls 8 [(0, .ref (ad 0 0)), (1, .ref (ad 7 g)), (2, .int (jI f)), (3, .int (jI rule))] := hl
  have ftc : 0 ≤ X 0 0 3 ∧ X 0 0 3 ≤ 30 := hR 0 0 3
  have fty : 0 ≤ X 0 0 1 ∧ X 0 0 1 ≤ 8 := hR 0 0 1
  have hct : cnt 19 = X 0 0 1 := hCI.2.2.2.1.1
  have hfj : 0 ≤ X 29 0 3 ∧ X 29 0 3 ≤ 4 := hR 29 0 3
  have hfn : 0 ≤ X 29 0 1 ∧ X 29 0 1 ≤ 80 := hR 29 0 1
  have frc : 0 ≤ X 7 g 0 ∧ X 7 g 0 ≤ 30 := hR 7 g 0
  have frw : 0 ≤ X 7 g 6 ∧ X 7 g 6 ≤ 150 := hR 7 g 6
  refine lv_iconst (v := jI 0) hx hb dX8_fillThings_0 rfl ?_
  refine lv_istore (lv' := [(4, .int (jI 0)), (0, .ref (ad 0 0)), (1, .ref (ad 7 g)), (2, .int (jI f)), (3, .int (jI rule))]) hx hb dX8_fillThings_1 hl (by decide) rfl (fun ls hl => ?_)
  have lp3 : ∀ (nn : Nat) (j : Int) (Yz : Nat → Int → Int → Option Int) (H : Heap) (locs : List Loc) (ls : Array Slot), (450 - j) < (nn : Int) → (Frm [600] Y Yz) → (0 ≤ j ∧ j ≤ 450) → wd D tc base (ad, cnt, X, Yz, ln) H → va_S (frA base) s.heap H locs → lv_has ls 8 [(0, .ref (ad 0 0)), (1, .ref (ad 7 g)), (2, .int (jI f)), (3, .int (jI rule)), (4, .int (jI j))] → W p l e ({ frames := 5, cells := 300, slots := 2100, locals := 109 } : Room) s m av9 below meth c H locs 0 0 Q9 (F0 m 3 ls []) := by
    intro nn
    induction nn with
    | zero => intro j Yz H locs ls hm hGYz hj hw hS hl; exfalso; omega
    | succ nn ih3 =>
      intro j Yz H locs ls hm hGYz hj hw hS hl
      have hHYz : Frm [1700, 600] Y Yz := Frm.tr Frm.rf (Frm.mono hGYz (by decide))
      refine lv_iload hx hb dX8_fillThings_3 (lv_at hl 4 rfl) ?_
      refine lv_aload_n hx hb dX8_fillThings_5 rfl (lv_at hl 1 rfl) ?_
      refine x_geti (jz := 6) hx hb hf4 hw (by omega) (by omega) sl_7_6 rfl lk234 dX8_fillThings_6 ?_
      have f1 : 0 ≤ X 7 g 6 ∧ X 7 g 6 ≤ 150 := hR 7 g 6
      refine lv_iconst (v := jI 3) hx hb dX8_fillThings_9 rfl ?_
      refine x_imul hx hb dX8_fillThings_10 ?_
      refine x_icmp_ge (tgt := 28) hx hb (by omega) (by omega) dX8_fillThings_11 (by decide) (fun c2 => ?_) (fun c2 => ?_)
      · refine lv_iconst (v := jI 0) hx hb dX8_fillThings_28 rfl ?_
        refine lv_istore (lv' := [(4, .int (jI 0)), (0, .ref (ad 0 0)), (1, .ref (ad 7 g)), (2, .int (jI f)), (3, .int (jI rule))]) hx hb dX8_fillThings_29 hl (by decide) rfl (fun ls hl => ?_)
        have lp31 : ∀ (nn : Nat) (r : Int) (Xa : Nat → Int → Int → Int) (Ya : Nat → Int → Int → Option Int) (ad : Nat → Int → Nat) (cnt : Nat → Int) (ln : Int → Int) (cl sl : Nat) (H : Heap) (locs : List Loc) (ls : Array Slot), (30 - r) < (nn : Int) → (Rng Xa) → (Frm [1600, 2602, 2700] X Xa) → (Frm [1700, 600] Yz Ya) → (Ext ad0 cnt0 ln0 ad cnt ln) → (Fx cnt) → (Own cnt) → (LnOK ln) → (0 ≤ cnt 25 ∧ 0 ≤ cnt 26) → (0 ≤ r ∧ r ≤ 30) → ((cl : Int) ≤ 10 * r ∧ (sl : Int) ≤ 70 * r) → (CInv cnt Xa Ya ln) → wd D tc base (ad, cnt, Xa, Ya, ln) H → va_S (frA base) s.heap H locs → lv_has ls 8 [(0, .ref (ad 0 0)), (1, .ref (ad 7 g)), (2, .int (jI f)), (3, .int (jI rule)), (4, .int (jI r))] → W p l e ({ frames := 5, cells := 300, slots := 2100, locals := 109 } : Room) s m av9 below meth c H locs cl sl Q9 (F0 m 31 ls []) := by
          intro nn
          induction nn with
          | zero => intro r Xa Ya ad cnt ln cl sl H locs ls hm hRXa hGXa hGYa hE hFx hOw hLn hN hr0 hcl hCIXa hw hS hl; exfalso; omega
          | succ nn ih31 =>
            intro r Xa Ya ad cnt ln cl sl H locs ls hm hRXa hGXa hGYa hE hFx hOw hLn hN hr0 hcl hCIXa hw hS hl
            have hc0 : cnt 0 = 1 := hFx.at 0 1 (by decide)
            have hc2 : cnt 2 = 1 := hFx.at 2 1 (by decide)
            have hc6 : cnt 6 = 1 := hFx.at 6 1 (by decide)
            have hc7 : cnt 7 = 6 := hFx.at 7 6 (by decide)
            have hc9 : cnt 9 = 6 := hFx.at 9 6 (by decide)
            have hc10 : cnt 10 = 6 := hFx.at 10 6 (by decide)
            have hc15 : cnt 15 = 30 := hFx.at 15 30 (by decide)
            have hc16 : cnt 16 = 30 := hFx.at 16 30 (by decide)
            have hc17 : cnt 17 = 30 := hFx.at 17 30 (by decide)
            have hc27 : cnt 27 = cnt 26 := hFx.2.2
            have hc32 : cnt 32 = 1 := hFx.at 32 1 (by decide)
            have hHYa : Frm [1700, 600] Y Ya := Frm.tr hHYz (Frm.mono hGYa (by decide))
            have hFXa : Frm [1600, 2602, 2700, 3201, 3202, 3203, 3204] X Xa := Frm.tr Frm.rf (Frm.mono hGXa (by decide))
            refine lv_iload hx hb dX8_fillThings_31 (lv_at hl 4 rfl) ?_
            refine lv_aload_n hx hb dX8_fillThings_33 rfl (lv_at hl 1 rfl) ?_
            refine x_geti (jz := 0) hx hb hf4 hw (by omega) (by omega) sl_7_0 rfl lk231 dX8_fillThings_34 ?_
            have e3 : Xa 7 g 0 = X 7 g 0 := by rw [hGXa 7 g 0 (show 701 ∉ [1600, 2602, 2700] by decide)]
            rw [e3]
            have f4 : 0 ≤ X 7 g 0 ∧ X 7 g 0 ≤ 30 := hR 7 g 0
            refine x_icmp_ge (tgt := 121) hx hb (by omega) (by omega) dX8_fillThings_37 (by decide) (fun c5 => ?_) (fun c5 => ?_)
            · refine lv_iconst (v := jI 0) hx hb dX8_fillThings_121 rfl ?_
              rw [hQ9]
              refine ret_i (mc := 300) (ms := 2100) hx hb hr hlocks hw hS (by omega) (by omega) dX8_fillThings_122 ?_
              exact ⟨ad, cnt, Xa, Ya, ln, rfl, hE9 _ _ _ hE, hFx, hOw, hLn, hRXa, hFXa, hHYa, hCIXa, by omega⟩
            · refine lv_iconst (v := jI 0) hx hb dX8_fillThings_40 rfl ?_
              refine lv_istore (lv' := [(5, .int (jI 0)), (0, .ref (ad 0 0)), (1, .ref (ad 7 g)), (2, .int (jI f)), (3, .int (jI rule)), (4, .int (jI r))]) hx hb dX8_fillThings_41 hl (by decide) rfl (fun ls hl => ?_)
              have lp43 : ∀ (nn : Nat) (k : Int) (Xb : Nat → Int → Int → Int) (Yb : Nat → Int → Int → Option Int) (ad : Nat → Int → Nat) (cnt : Nat → Int) (ln : Int → Int) (cl sl : Nat) (H : Heap) (locs : List Loc) (ls : Array Slot), (5 - k) < (nn : Int) → (Rng Xb) → (Frm [1600, 2602, 2700] Xa Xb) → (Frm [1700, 600] Ya Yb) → (Ext ad0 cnt0 ln0 ad cnt ln) → (Fx cnt) → (Own cnt) → (LnOK ln) → (0 ≤ cnt 25 ∧ 0 ≤ cnt 26) → (0 ≤ k ∧ k ≤ 5) → ((cl : Int) ≤ 10 * r + 2 * k ∧ (sl : Int) ≤ 70 * r + 14 * k) → (CInv cnt Xb Yb ln) → wd D tc base (ad, cnt, Xb, Yb, ln) H → va_S (frA base) s.heap H locs → lv_has ls 8 [(0, .ref (ad 0 0)), (1, .ref (ad 7 g)), (2, .int (jI f)), (3, .int (jI rule)), (4, .int (jI r)), (5, .int (jI k))] → W p l e ({ frames := 5, cells := 300, slots := 2100, locals := 109 } : Room) s m av9 below meth c H locs cl sl Q9 (F0 m 43 ls []) := by
                intro nn
                induction nn with
                | zero => intro k Xb Yb ad cnt ln cl sl H locs ls hm hRXb hGXb hGYb hE hFx hOw hLn hN hk hcl hCIXb hw hS hl; exfalso; omega
                | succ nn ih43 =>
                  intro k Xb Yb ad cnt ln cl sl H locs ls hm hRXb hGXb hGYb hE hFx hOw hLn hN hk hcl hCIXb hw hS hl
                  have hc0 : cnt 0 = 1 := hFx.at 0 1 (by decide)
                  have hc2 : cnt 2 = 1 := hFx.at 2 1 (by decide)
                  have hc6 : cnt 6 = 1 := hFx.at 6 1 (by decide)
                  have hc7 : cnt 7 = 6 := hFx.at 7 6 (by decide)
                  have hc9 : cnt 9 = 6 := hFx.at 9 6 (by decide)
                  have hc10 : cnt 10 = 6 := hFx.at 10 6 (by decide)
                  have hc15 : cnt 15 = 30 := hFx.at 15 30 (by decide)
                  have hc16 : cnt 16 = 30 := hFx.at 16 30 (by decide)
                  have hc17 : cnt 17 = 30 := hFx.at 17 30 (by decide)
                  have hc27 : cnt 27 = cnt 26 := hFx.2.2
                  have hc32 : cnt 32 = 1 := hFx.at 32 1 (by decide)
                  have hHYb : Frm [1700, 600] Y Yb := Frm.tr hHYa (Frm.mono hGYb (by decide))
                  have hFXb : Frm [1600, 2602, 2700, 3201, 3202, 3203, 3204] X Xb := Frm.tr hFXa (Frm.mono hGXb (by decide))
                  refine lv_iload hx hb dX8_fillThings_43 (lv_at hl 5 rfl) ?_
                  refine lv_aload_n hx hb dX8_fillThings_45 rfl (lv_at hl 1 rfl) ?_
                  refine x_geto hx hb hf4 hw (by omega) (by omega) sl_7_2 lk338 dX8_fillThings_46 ?_
                  refine lv_iload hx hb dX8_fillThings_49 (lv_at hl 4 rfl) ?_
                  refine x_iald hx hb hK.1 hw (by omega) (by omega) ar_9 (len_E ar_9 (by decide)) (by omega) (by omega) (by omega) dX8_fillThings_51 ?_
                  have e6 : ∀ p9 q9 : Int, Xb 9 p9 q9 = X 9 p9 q9 := fun p9 q9 => by rw [hGXb 9 p9 q9 (show 900 ∉ [1600, 2602, 2700] by decide), hGXa 9 p9 q9 (show 900 ∉ [1600, 2602, 2700] by decide)]
                  rw [e6 g r]
                  have f7 : 0 ≤ X 9 g r ∧ X 9 g r ≤ 5 := hR 9 g r
                  refine x_icmp_ge (tgt := 115) hx hb (by omega) (by omega) dX8_fillThings_52 (by decide) (fun c8 => ?_) (fun c8 => ?_)
                  · refine lv_iinc (v := jI (r + 1)) (lv' := [(4, .int (jI (r + 1))), (0, .ref (ad 0 0)), (1, .ref (ad 7 g)), (2, .int (jI f)), (3, .int (jI rule)), (5, .int (jI k))]) hx hb dX8_fillThings_115 hl (k := 4) rfl (jI_add _ _) (by decide) rfl (fun ls hl => ?_)
                    refine lv_goto (tgt := 31) hx hb dX8_fillThings_118 (by decide) ?_
                    have q9 : Frm [1600, 2602, 2700] X Xa := Frm.tr Frm.rf (Frm.mono hGXa (by decide))
                    have q10 : Frm [1600, 2602, 2700] X Xb := Frm.tr q9 (Frm.mono hGXb (by decide))
                    have q11 : Frm [1700, 600] Yz Ya := Frm.tr Frm.rf (Frm.mono hGYa (by decide))
                    have q12 : Frm [1700, 600] Yz Yb := Frm.tr q11 (Frm.mono hGYb (by decide))
                    exact ih31 (r + 1) Xb Yb ad cnt ln _ _ _ _ _ (by omega) hRXb q10 q12 (hE) (hFx) (hOw) (hLn) (hN) (by omega) (by omega) (hCIXb) hw hS (lv_sub hl [1, 2, 3, 4, 0] rfl)
                  · refine lv_iload hx hb dX8_fillThings_55 (lv_at hl 4 rfl) ?_
                    refine lv_iconst (v := jI 5) hx hb dX8_fillThings_57 rfl ?_
                    refine x_imul hx hb dX8_fillThings_58 ?_
                    refine lv_iload hx hb dX8_fillThings_59 (lv_at hl 5 rfl) ?_
                    refine x_iadd hx hb dX8_fillThings_61 ?_
                    refine lv_istore (lv' := [(6, .int (jI ((r * 5) + k))), (0, .ref (ad 0 0)), (1, .ref (ad 7 g)), (2, .int (jI f)), (3, .int (jI rule)), (4, .int (jI r)), (5, .int (jI k))]) hx hb dX8_fillThings_62 hl (by decide) rfl (fun ls hl => ?_)
                    have hv9 := hRv g ((r * 5) + k) (by omega) (by omega) (by omega) (by omega)
                    refine lv_aload_n hx hb dX8_fillThings_64 rfl (lv_at hl 1 rfl) ?_
                    refine lv_aload_n hx hb dX8_fillThings_65 rfl (lv_at hl 1 rfl) ?_
                    refine x_geto hx hb hf8 hw (by omega) (by omega) sl_0_2 lk17 dX8_fillThings_66 ?_
                    refine lv_iload_n hx hb dX8_fillThings_69 rfl (lv_at hl 3 rfl) ?_
                    refine lv_iload hx hb dX8_fillThings_70 (lv_at hl 5 rfl) ?_
                    refine x_iadd hx hb dX8_fillThings_72 ?_
                    refine x_aald hx hb hK.1 hw (by omega) (by omega) ar_2 rfl (len_E ar_2 (by decide)) (by omega) (by omega) (by omega) dX8_fillThings_73 (fun y13 => ?_) (fun r14 y13 gr14 lr14 => ?_)
                    · exfalso
                      have e15 : ∀ p9 q9 : Int, Yb 2 p9 q9 = Y 2 p9 q9 := fun p9 q9 => by rw [hGYb 2 p9 q9 (show 200 ∉ [1700, 600] by decide), hGYa 2 p9 q9 (show 200 ∉ [1700, 600] by decide), hGYz 2 p9 q9 (show 200 ∉ [600] by decide)]
                      rw [e15] at y13
                      have h9 := hCI.1 (f + r) (by omega) (by omega); rw [h9] at y13; cases y13
                    · have e16 : ∀ p9 q9 : Int, Yb 2 p9 q9 = Y 2 p9 q9 := fun p9 q9 => by rw [hGYb 2 p9 q9 (show 200 ∉ [1700, 600] by decide), hGYa 2 p9 q9 (show 200 ∉ [1700, 600] by decide), hGYz 2 p9 q9 (show 200 ∉ [600] by decide)]
                      rw [e16] at y13
                      have er14 : r14 = (f + r) := by have h9 := hCI.1 (f + r) (by omega) (by omega); rw [h9] at y13; cases y13; rfl
                      rw [er14]
                      refine lv_aload_n hx hb dX8_fillThings_74 rfl (lv_at hl 2 rfl) ?_
                      refine lv_iload hx hb dX8_fillThings_75 (lv_at hl 0 rfl) ?_
                      refine lv_iload_n hx hb dX8_fillThings_77 rfl (lv_at hl 3 rfl) ?_
                      refine lv_iload_n hx hb dX8_fillThings_78 rfl (lv_at hl 4 rfl) ?_
                      have e17 : ∀ p9 q9 : Int, Xb 11 p9 q9 = X 11 p9 q9 := fun p9 q9 => by rw [hGXb 11 p9 q9 (show 1100 ∉ [1600, 2602, 2700] by decide), hGXa 11 p9 q9 (show 1100 ∉ [1600, 2602, 2700] by decide)]
                      have e18 : ∀ p9 q9 : Int, Xb 12 p9 q9 = X 12 p9 q9 := fun p9 q9 => by rw [hGXb 12 p9 q9 (show 1200 ∉ [1600, 2602, 2700] by decide), hGXa 12 p9 q9 (show 1200 ∉ [1600, 2602, 2700] by decide)]
                      have e19 : Xb 0 0 3 = X 0 0 3 := by rw [hGXb 0 0 3 (show 4 ∉ [1600, 2602, 2700] by decide), hGXa 0 0 3 (show 4 ∉ [1600, 2602, 2700] by decide)]
                      refine gos_i (run_V (As := [.ref (ad 15 (f + r)), .ref (ad 7 g), .int (jI ((r * 5) + k)), .int (jI f), .int (jI rule)]) (rest := []) hx hb hml hown hts (c_X8_fillField l D tc base ad cnt Xb Yb ln hRXb hFx hLn hCIXb hOw hN (f + r) g ((r * 5) + k) f rule (by omega) (by simp only [e19]; omega) (by omega) (by omega) (by omega) (by omega) (by rw [e17, e18]; exact hv9)) (cwV 5 hts gX8_fillThings_X8_fillField rfl rfl rfl (by decide +kernel) ⟨Nat.le_of_ble_eq_true rfl, Nat.le_of_ble_eq_true rfl⟩) hK hw (by omega) (by omega) sl_0_0 rfl rfl hl.1 rfl (Nat.le_of_ble_eq_true rfl) dX8_fillThings_79 ⟨(by show _ ≤ (300 : Nat); omega), (by show _ ≤ (2100 : Nat); omega)⟩) hS (fun z20 u21 H locs p22 hw hS => ?_)
                      obtain ⟨ad, cnt, X23, Y24, ln, eu21, hE25, hFx, hOw, hLn, hRX23, hG26, hJ27, hCIX23, p22⟩ := p22
                      subst eu21
                      have hFX23 : Frm [1600, 2602, 2700, 3201, 3202, 3203, 3204] X X23 := Frm.tr hFXb (Frm.mono hG26 (by decide))
                      have hHY24 : Frm [1700, 600] Y Y24 := Frm.tr hHYb (Frm.mono hJ27 (by decide))
                      have hE := Ext.tr hE hE25
                      have hm28 := hE25.2.1 19
                      have hm29 := hE25.2.1 25
                      have hm30 := hE25.2.1 26
                      have hN : 0 ≤ cnt 25 ∧ 0 ≤ cnt 26 := by omega
                      have ha31 := hE25.1 0 0 (by omega) (by omega)
                      have ha32 := hE25.1 7 g (by omega) (by omega)
                      have hc0 : cnt 0 = 1 := hFx.at 0 1 (by decide)
                      have hc2 : cnt 2 = 1 := hFx.at 2 1 (by decide)
                      have hc6 : cnt 6 = 1 := hFx.at 6 1 (by decide)
                      have hc7 : cnt 7 = 6 := hFx.at 7 6 (by decide)
                      have hc9 : cnt 9 = 6 := hFx.at 9 6 (by decide)
                      have hc10 : cnt 10 = 6 := hFx.at 10 6 (by decide)
                      have hc15 : cnt 15 = 30 := hFx.at 15 30 (by decide)
                      have hc16 : cnt 16 = 30 := hFx.at 16 30 (by decide)
                      have hc17 : cnt 17 = 30 := hFx.at 17 30 (by decide)
                      have hc27 : cnt 27 = cnt 26 := hFx.2.2
                      have hc32 : cnt 32 = 1 := hFx.at 32 1 (by decide)
                      have hl : lv_has ls 8 [(6, .int (jI ((r * 5) + k))), (0, .ref (ad 0 0)), (1, .ref (ad 7 g)), (2, .int (jI f)), (3, .int (jI rule)), (4, .int (jI r)), (5, .int (jI k))] := by rw [ha31, ha32]; exact hl
                      refine W.eq (g2 := F0 m 82 ls [.int (jI z20)]) rfl ?_
                      refine lv_istore (lv' := [(7, .int (jI z20)), (6, .int (jI ((r * 5) + k))), (0, .ref (ad 0 0)), (1, .ref (ad 7 g)), (2, .int (jI f)), (3, .int (jI rule)), (4, .int (jI r)), (5, .int (jI k))]) hx hb dX8_fillThings_82 hl (by decide) rfl (fun ls hl => ?_)
                      refine lv_iload hx hb dX8_fillThings_84 (lv_at hl 0 rfl) ?_
                      refine x_if_eq (tgt := 109) hx hb (by omega) dX8_fillThings_86 (by decide) (fun c33 => ?_) (fun c33 => ?_)
                      · refine lv_iinc (v := jI (k + 1)) (lv' := [(5, .int (jI (k + 1))), (7, .int (jI z20)), (6, .int (jI ((r * 5) + k))), (0, .ref (ad 0 0)), (1, .ref (ad 7 g)), (2, .int (jI f)), (3, .int (jI rule)), (4, .int (jI r))]) hx hb dX8_fillThings_109 hl (k := 7) rfl (jI_add _ _) (by decide) rfl (fun ls hl => ?_)
                        refine lv_goto (tgt := 43) hx hb dX8_fillThings_112 (by decide) ?_
                        have q34 : Frm [1600, 2602, 2700] Xa Xb := Frm.tr Frm.rf (Frm.mono hGXb (by decide))
                        have q35 : Frm [1600, 2602, 2700] Xa X23 := Frm.tr q34 (Frm.mono hG26 (by decide))
                        have q36 : Frm [1700, 600] Ya Yb := Frm.tr Frm.rf (Frm.mono hGYb (by decide))
                        have q37 : Frm [1700, 600] Ya Y24 := Frm.tr q36 (Frm.mono hJ27 (by decide))
                        exact ih43 (k + 1) X23 Y24 ad cnt ln _ _ _ _ _ (by omega) hRX23 q35 q37 (hE) (hFx) (hOw) (hLn) (hN) (by omega) (by omega) (hCIX23) hw hS (lv_sub hl [3, 4, 5, 6, 7, 0] rfl)
                      · refine lv_aload_n hx hb dX8_fillThings_89 rfl (lv_at hl 2 rfl) ?_
                        refine x_geto hx hb hf8 hw (by omega) (by omega) sl_0_11 lk58 dX8_fillThings_90 ?_
                        refine lv_iload hx hb dX8_fillThings_93 (lv_at hl 6 rfl) ?_
                        refine lv_aload_n hx hb dX8_fillThings_95 rfl (lv_at hl 3 rfl) ?_
                        refine x_geto hx hb hf4 hw (by omega) (by omega) sl_7_3 lk224 dX8_fillThings_96 ?_
                        refine lv_iload hx hb dX8_fillThings_99 (lv_at hl 1 rfl) ?_
                        refine x_iald hx hb hK.1 hw (by omega) (by omega) ar_10 (len_E ar_10 (by decide)) (by omega) (by omega) (by omega) dX8_fillThings_101 ?_
                        have e38 : ∀ p9 q9 : Int, X23 10 p9 q9 = X 10 p9 q9 := fun p9 q9 => by rw [hG26 10 p9 q9 (show 1000 ∉ [1600, 2602, 2700] by decide), hGXb 10 p9 q9 (show 1000 ∉ [1600, 2602, 2700] by decide), hGXa 10 p9 q9 (show 1000 ∉ [1600, 2602, 2700] by decide)]
                        rw [e38 g ((r * 5) + k)]
                        have f39 : 0 ≤ X 10 g ((r * 5) + k) ∧ X 10 g ((r * 5) + k) ≤ 19 := hR 10 g ((r * 5) + k)
                        refine lv_iconst (v := jI (-1)) hx hb dX8_fillThings_102 rfl ?_
                        refine gos_v (run_V (As := [.int (jI r), .int (jI (X 10 g ((r * 5) + k))), .int (jI (-1))]) (rest := []) hx hb hml hown hts (c_X1_tell l D tc base ad cnt X23 Y24 ln hRX23 hFx hLn hCIX23 r (X 10 g ((r * 5) + k)) (-1) (by omega) (by omega) (by omega)) (cwV 3 hts gX8_fillThings_X1_tell rfl rfl rfl (by decide +kernel) ⟨Nat.le_of_ble_eq_true rfl, Nat.le_of_ble_eq_true rfl⟩) hK hw (by omega) (by omega) sl_32_0 rfl rfl hl.1 rfl (Nat.le_of_ble_eq_true rfl) dX8_fillThings_103 ⟨(by show _ ≤ (300 : Nat); omega), (by show _ ≤ (2100 : Nat); omega)⟩) hS (fun u41 H locs p42 hw hS => ?_)
                        obtain ⟨X43, eu41, hRX43, hG44, hCIX43, p42⟩ := p42
                        subst eu41
                        have hFX43 : Frm [1600, 2602, 2700, 3201, 3202, 3203, 3204] X X43 := Frm.tr hFX23 (Frm.mono hG44 (by decide))
                        refine lv_iload hx hb dX8_fillThings_106 (lv_at hl 0 rfl) ?_
                        rw [hQ9]
                        refine ret_i (mc := 300) (ms := 2100) hx hb hr hlocks hw hS (by omega) (by omega) dX8_fillThings_108 ?_
                        exact ⟨ad, cnt, X43, Y24, ln, rfl, hE9 _ _ _ hE, hFx, hOw, hLn, hRX43, hFX43, hHY24, hCIX43, by omega⟩
              exact lp43 (5 - 0 : Int).toNat.succ 0 Xa Ya ad cnt ln _ _ _ _ _ (by omega) hRXa Frm.rf Frm.rf (hE) (hFx) (hOw) (hLn) (hN) (by omega) (by omega) (hCIXa) hw hS (lv_sub hl [1, 2, 3, 4, 5, 0] rfl)
        have q45 : Frm [600] Y Yz := Frm.tr Frm.rf (Frm.mono hGYz (by decide))
        have hCq46 : CInv cnt X Yz ln := cinv_frm (M := []) (N := [600]) hCI Frm.rf q45 (by decide) (by decide)
        exact lp31 (30 - 0 : Int).toNat.succ 0 X Yz ad cnt ln _ _ _ _ _ (by omega) hR Frm.rf Frm.rf (hE) (hFx) (hOw) (hLn) (hN) (by omega) (by omega) (hCq46) hw hS (lv_sub hl [1, 2, 3, 4, 0] rfl)
      · refine lv_aload_n hx hb dX8_fillThings_14 rfl (lv_at hl 0 rfl) ?_
        refine x_geto hx hb hf8 hw (by omega) (by omega) sl_0_9 lk44 dX8_fillThings_15 ?_
        refine lv_iload hx hb dX8_fillThings_18 (lv_at hl 4 rfl) ?_
        refine lv_null hx hb dX8_fillThings_20 ?_
        refine x_aastn hx hb hK.1 hw hS (by omega) (by omega) ar_6 rfl (len_E ar_6 (by decide)) (by omega) (by omega) (by omega) dX8_fillThings_21 (fun H locs hw hS => ?_)
        obtain ⟨Y47, hY47⟩ : ∃ Yq, Yq = u3 Yz 6 0 j none := ⟨_, rfl⟩
        rw [← hY47] at hw
        have hVY47 : Y47 6 0 j = none := by rw [hY47]; exact u3_s _ _ _ _ _
        have hHY47 : Frm [1700, 600] Y Y47 := by rw [hY47]; exact Frm.set hHYz (show 600 ∈ [1700, 600] by decide)
        refine lv_iinc (v := jI (j + 1)) (lv' := [(4, .int (jI (j + 1))), (0, .ref (ad 0 0)), (1, .ref (ad 7 g)), (2, .int (jI f)), (3, .int (jI rule))]) hx hb dX8_fillThings_22 hl (k := 4) rfl (jI_add _ _) (by decide) rfl (fun ls hl => ?_)
        refine lv_goto (tgt := 3) hx hb dX8_fillThings_25 (by decide) ?_
        have q48 : Frm [600] Y Yz := Frm.tr Frm.rf (Frm.mono hGYz (by decide))
        have q49 : Frm [600] Y Y47 := by rw [hY47]; exact Frm.set q48 (show 600 ∈ [600] by decide)
        exact ih3 (j + 1) Y47 _ _ _ (by omega) q49 (by omega) hw hS (lv_sub hl [1, 2, 3, 4, 0] rfl)
  exact lp3 (450 - 0 : Int).toNat.succ 0 Y _ _ _ (by omega) Frm.rf (by omega) hw hS (lv_sub hl [1, 2, 3, 4, 0] rfl)

set_option maxHeartbeats 4000000 in
set_option maxRecDepth 100000 in
theorem c_X8_restore (l : Launch) (D : va_G) (tc : Nat → ClassId) (base : Nat) (ad : Nat → Int → Nat) (cnt : Nat → Int) (X : Nat → Int → Int → Int) (Y : Nat → Int → Int → Option Int) (ln : Int → Int) (hR : Rng X) (hFx : Fx cnt) (hLn : LnOK ln) (hCI : CInv cnt X Y ln) (hOw : Own cnt) (hN : 0 ≤ cnt 25 ∧ 0 ≤ cnt 26) (sv rule : Int) (hsv : -2147483648 ≤ sv ∧ sv ≤ 2147483647) (hrule : -2147483648 ≤ rule ∧ rule ≤ 2147483647) (hRv : cRv X) : KI l D tc base yX8_restore wsX8_restore ({ frames := 7, cells := 300, slots := 2100, locals := 155 } : Room) [.ref (ad 0 0), .int (jI sv), .int (jI rule)] (ad, cnt, X, Y, ln) 300 2100 (fun z u => ∃ (ad1 : Nat → Int → Nat) (cnt1 : Nat → Int) (X1 : Nat → Int → Int → Int) (Y1 : Nat → Int → Int → Option Int) (ln1 : Int → Int), u = (ad1, cnt1, X1, Y1, ln1) ∧ Ext ad cnt ln ad1 cnt1 ln1 ∧ Fx cnt1 ∧ Own cnt1 ∧ LnOK ln1 ∧ Rng X1 ∧ Frm [4, 1600, 2602, 2700, 3201, 3202, 3203, 3204] X X1 ∧ Frm [1501, 1700, 600] Y Y1 ∧ CInv cnt1 X1 Y1 ln1 ∧ (-2147483648 ≤ z ∧ z ≤ 2147483647)) := by
  refine K_of (cc := cX8_restore) (maxL := 5) (ret := (some .int)) (by decide) rfl (Nat.le_of_ble_eq_true rfl) ?_
  intro p e s m below meth c ls hx hb hr hml hown hts hlocks hl hK hw hS
  have hown : s.vm.findClass RX8 = some m.cls := hown
  have hbs : base ≤ s.heap.size := wd_size hw
  obtain ⟨av9, hav9⟩ : ∃ a9 : Array Value, a9 = ([.ref (ad 0 0), .int (jI sv), .int (jI rule)] : List Value).toArray := ⟨_, rfl⟩
  rw [← hav9] at hts ⊢
  obtain ⟨Q9, hQ9⟩ : ∃ q : State → Prop, q = MQ below (QI D tc base (fun z u => ∃ (ad1 : Nat → Int → Nat) (cnt1 : Nat → Int) (X1 : Nat → Int → Int → Int) (Y1 : Nat → Int → Int → Option Int) (ln1 : Int → Int), u = (ad1, cnt1, X1, Y1, ln1) ∧ Ext ad cnt ln ad1 cnt1 ln1 ∧ Fx cnt1 ∧ Own cnt1 ∧ LnOK ln1 ∧ Rng X1 ∧ Frm [4, 1600, 2602, 2700, 3201, 3202, 3203, 3204] X X1 ∧ Frm [1501, 1700, 600] Y Y1 ∧ CInv cnt1 X1 Y1 ln1 ∧ (-2147483648 ≤ z ∧ z ≤ 2147483647))) av9 s 300 2100 (frA base) := ⟨_, rfl⟩
  rw [← hQ9]
  obtain ⟨ad0, ha0⟩ : ∃ a, a = ad := ⟨_, rfl⟩
  obtain ⟨cnt0, hc0⟩ : ∃ a, a = cnt := ⟨_, rfl⟩
  obtain ⟨ln0, hl0⟩ : ∃ a, a = ln := ⟨_, rfl⟩
  have hE9 : ∀ a c n, Ext ad0 cnt0 ln0 a c n → Ext ad cnt ln a c n := by rw [ha0, hc0, hl0]; exact fun _ _ _ h => h
  have hE : Ext ad0 cnt0 ln0 ad cnt ln := by rw [ha0, hc0, hl0]; exact Ext.rf
  clear ha0 hc0 hl0
  have hi4 : ∀ w ∈ wsX40, w ∈ wsX8_restore := fun w h => List.mem_cons_of_mem _ (List.mem_append_left _ (List.mem_append_left _ (List.mem_append_left _ (List.mem_append_left _ (List.mem_append_left _ (List.mem_append_right _ h))))))
  have hf4 : fctx s m _ RX8 wsX8_restore D tc RX4 TX4 9 4 := ⟨hts, hi4, hown, hK.1, rfl⟩
  have hi8 : ∀ w ∈ wsX80, w ∈ wsX8_restore := fun w h => List.mem_cons_of_mem _ (List.mem_append_left _ (List.mem_append_left _ (List.mem_append_left _ (List.mem_append_left _ (List.mem_append_left _ (List.mem_append_left _ (List.mem_append_right _ h)))))))
  have hf8 : fctx s m _ RX8 wsX8_restore D tc RX8 TX8 12 8 := ⟨hts, hi8, hown, hK.1, rfl⟩
  have lk27 := hts (.fieldLink RX8 27 "StateRecords" "saves" "[LStateRecords$Records;") (by decide +kernel)
  have lk94 := hts (.fieldLink RX8 94 "StateRecords" "thingCount" "I") (by decide +kernel)
  have lk231 := hts (.fieldLink RX8 231 "StateRecords$Records" "recordCount" "I") (by decide +kernel)
  have hc0 : cnt 0 = 1 := hFx.at 0 1 (by decide)
  have hc4 : cnt 4 = 1 := hFx.at 4 1 (by decide)
  have hc7 : cnt 7 = 6 := hFx.at 7 6 (by decide)
  have hl : lv_has ls 5 [(0, .ref (ad 0 0)), (1, .int (jI sv)), (2, .int (jI rule))] := hl
  have ftc : 0 ≤ X 0 0 3 ∧ X 0 0 3 ≤ 30 := hR 0 0 3
  have fty : 0 ≤ X 0 0 1 ∧ X 0 0 1 ≤ 8 := hR 0 0 1
  have hct : cnt 19 = X 0 0 1 := hCI.2.2.2.1.1
  have hfj : 0 ≤ X 29 0 3 ∧ X 29 0 3 ≤ 4 := hR 29 0 3
  have hfn : 0 ≤ X 29 0 1 ∧ X 29 0 1 ≤ 80 := hR 29 0 1
  refine lv_iload_n hx hb dX8_restore_0 rfl (lv_at hl 1 rfl) ?_
  refine lv_iconst (v := jI 4) hx hb dX8_restore_1 rfl ?_
  refine gos_i (run_S (As := [.int (jI sv), .int (jI 4)]) (rest := []) hx hb hml hown hts (c_X8_isBelow l D tc base ad cnt X Y ln sv 4 (by omega) (by omega)) (cwS 2 hts gX8_restore_X8_isBelow rfl rfl rfl (by decide +kernel) ⟨Nat.le_of_ble_eq_true rfl, Nat.le_of_ble_eq_true rfl⟩) hK hw rfl hl.1 rfl (Nat.le_of_ble_eq_true rfl) dX8_restore_2 ⟨(by show _ ≤ (300 : Nat); omega), (by show _ ≤ (2100 : Nat); omega)⟩) hS (fun z1 u2 H locs p3 hw hS => ?_)
  obtain ⟨eu2, p3⟩ := p3
  subst eu2
  rcases p3 with ⟨ez1, p3⟩ | ⟨ez1, p3⟩
  · subst ez1
    refine x_if_eqF (tgt := 20) hx hb (by omega) (by decide) dX8_restore_5 (by decide) ?_
    refine lv_aload_n hx hb dX8_restore_8 rfl (lv_at hl 0 rfl) ?_
    refine x_geto hx hb hf8 hw (by omega) (by omega) sl_0_5 lk27 dX8_restore_9 ?_
    refine lv_iload_n hx hb dX8_restore_12 rfl (lv_at hl 1 rfl) ?_
    refine x_aald hx hb hK.1 hw (by omega) (by omega) ar_4 rfl (len_E ar_4 (by decide)) (by omega) (by omega) (by omega) dX8_restore_13 (fun y4 => ?_) (fun r5 y4 gr5 lr5 => ?_)
    · exfalso
      exact absurd y4 (hCI.2.2.1.1 sv (by omega) (by omega))
    · refine x_geti (jz := 0) hx hb hf4 hw (by omega) (by omega) sl_7_0 rfl lk231 dX8_restore_14 ?_
      have f6 : 0 ≤ X 7 r5 0 ∧ X 7 r5 0 ≤ 30 := hR 7 r5 0
      refine x_if_ne (tgt := 22) hx hb (by omega) dX8_restore_17 (by decide) (fun c7 => ?_) (fun c7 => ?_)
      · refine lv_iload_n hx hb dX8_restore_22 rfl (lv_at hl 2 rfl) ?_
        refine lv_iconst (v := jI 4) hx hb dX8_restore_23 rfl ?_
        refine gos_i (run_S (As := [.int (jI rule), .int (jI 4)]) (rest := []) hx hb hml hown hts (c_X8_isBelow l D tc base ad cnt X Y ln rule 4 (by omega) (by omega)) (cwS 2 hts gX8_restore_X8_isBelow rfl rfl rfl (by decide +kernel) ⟨Nat.le_of_ble_eq_true rfl, Nat.le_of_ble_eq_true rfl⟩) hK hw rfl hl.1 rfl (Nat.le_of_ble_eq_true rfl) dX8_restore_24 ⟨(by show _ ≤ (300 : Nat); omega), (by show _ ≤ (2100 : Nat); omega)⟩) hS (fun z8 u9 H locs p10 hw hS => ?_)
        obtain ⟨eu9, p10⟩ := p10
        subst eu9
        rcases p10 with ⟨ez8, p10⟩ | ⟨ez8, p10⟩
        · subst ez8
          refine x_if_neT (tgt := 33) hx hb (by omega) (by decide) dX8_restore_27 (by decide) ?_
          refine lv_aload_n hx hb dX8_restore_33 rfl (lv_at hl 0 rfl) ?_
          refine x_geti (jz := 3) hx hb hf8 hw (by omega) (by omega) sl_0_3 rfl lk94 dX8_restore_34 ?_
          have f11 : 0 ≤ X 0 0 3 ∧ X 0 0 3 ≤ 30 := hR 0 0 3
          refine lv_istore_n (lv' := [(3, .int (jI (X 0 0 3))), (0, .ref (ad 0 0)), (1, .int (jI sv)), (2, .int (jI rule))]) hx hb dX8_restore_37 rfl hl (by decide) rfl (fun ls hl => ?_)
          refine lv_iload_n hx hb dX8_restore_38 rfl (lv_at hl 0 rfl) ?_
          refine lv_aload_n hx hb dX8_restore_39 rfl (lv_at hl 1 rfl) ?_
          refine x_geto hx hb hf8 hw (by omega) (by omega) sl_0_5 lk27 dX8_restore_40 ?_
          refine lv_iload_n hx hb dX8_restore_43 rfl (lv_at hl 2 rfl) ?_
          refine x_aald hx hb hK.1 hw (by omega) (by omega) ar_4 rfl (len_E ar_4 (by decide)) (by omega) (by omega) (by omega) dX8_restore_44 (fun y12 => ?_) (fun r13 y12 gr13 lr13 => ?_)
          · exfalso
            rw [y4] at y12; cases y12
          · have er13 : r13 = r5 := by rw [y4] at y12; cases y12; rfl
            rw [er13]
            refine x_geti (jz := 0) hx hb hf4 hw (by omega) (by omega) sl_7_0 rfl lk231 dX8_restore_45 ?_
            have f14 : 0 ≤ X 7 r5 0 ∧ X 7 r5 0 ≤ 30 := hR 7 r5 0
            refine x_iadd hx hb dX8_restore_48 ?_
            refine lv_bipush (v := jI 30) hx hb dX8_restore_49 (by decide) ?_
            refine x_icmp_le (tgt := 57) hx hb (by omega) (by omega) dX8_restore_51 (by decide) (fun c15 => ?_) (fun c15 => ?_)
            · refine lv_aload_n hx hb dX8_restore_57 rfl (lv_at hl 1 rfl) ?_
              refine lv_aload_n hx hb dX8_restore_58 rfl (lv_at hl 1 rfl) ?_
              refine x_geto hx hb hf8 hw (by omega) (by omega) sl_0_5 lk27 dX8_restore_59 ?_
              refine lv_iload_n hx hb dX8_restore_62 rfl (lv_at hl 2 rfl) ?_
              refine x_aald hx hb hK.1 hw (by omega) (by omega) ar_4 rfl (len_E ar_4 (by decide)) (by omega) (by omega) (by omega) dX8_restore_63 (fun y16 => ?_) (fun r17 y16 gr17 lr17 => ?_)
              · exfalso
                rw [y4] at y16; cases y16
              · have er17 : r17 = r5 := by rw [y4] at y16; cases y16; rfl
                rw [er17]
                refine gos_v (run_V (As := [.ref (ad 7 r5)]) (rest := []) hx hb hml hown hts (c_X8_addThings l D tc base ad cnt X Y ln hR hFx hLn hCI r5 (by omega) (by omega)) (cwV 1 hts gX8_restore_X8_addThings rfl rfl rfl (by decide +kernel) ⟨Nat.le_of_ble_eq_true rfl, Nat.le_of_ble_eq_true rfl⟩) hK hw (by omega) (by omega) sl_0_0 rfl rfl hl.1 rfl (Nat.le_of_ble_eq_true rfl) dX8_restore_64 ⟨(by show _ ≤ (300 : Nat); omega), (by show _ ≤ (2100 : Nat); omega)⟩) hS (fun u19 H locs p20 hw hS => ?_)
                obtain ⟨X21, Y22, eu19, hRX21, hG23, hJ24, hCIX21, p20, htcX21⟩ := p20
                subst eu19
                have hFX21 : Frm [4, 1600, 2602, 2700, 3201, 3202, 3203, 3204] X X21 := Frm.tr Frm.rf (Frm.mono hG23 (by decide))
                have hHY22 : Frm [1501, 1700, 600] Y Y22 := Frm.tr Frm.rf (Frm.mono hJ24 (by decide))
                refine lv_aload_n hx hb dX8_restore_67 rfl (lv_at hl 1 rfl) ?_
                refine lv_aload_n hx hb dX8_restore_68 rfl (lv_at hl 1 rfl) ?_
                refine x_geto hx hb hf8 hw (by omega) (by omega) sl_0_5 lk27 dX8_restore_69 ?_
                refine lv_iload_n hx hb dX8_restore_72 rfl (lv_at hl 2 rfl) ?_
                refine x_aald hx hb hK.1 hw (by omega) (by omega) ar_4 rfl (len_E ar_4 (by decide)) (by omega) (by omega) (by omega) dX8_restore_73 (fun y25 => ?_) (fun r26 y25 gr26 lr26 => ?_)
                · exfalso
                  have e27 : ∀ p9 q9 : Int, Y22 4 p9 q9 = Y 4 p9 q9 := fun p9 q9 => by rw [hJ24 4 p9 q9 (show 400 ∉ [1501, 1700] by decide)]
                  rw [e27] at y25
                  rw [y4] at y25; cases y25
                · have e28 : ∀ p9 q9 : Int, Y22 4 p9 q9 = Y 4 p9 q9 := fun p9 q9 => by rw [hJ24 4 p9 q9 (show 400 ∉ [1501, 1700] by decide)]
                  rw [e28] at y25
                  have er26 : r26 = r5 := by rw [y4] at y25; cases y25; rfl
                  rw [er26]
                  refine lv_iload_n hx hb dX8_restore_74 rfl (lv_at hl 0 rfl) ?_
                  refine lv_iload_n hx hb dX8_restore_75 rfl (lv_at hl 3 rfl) ?_
                  have e29 : X21 7 r5 0 = X 7 r5 0 := by rw [hG23 7 r5 0 (show 701 ∉ [4, 1600] by decide)]
                  have q31 : Frm [4, 1600] X X21 := Frm.tr Frm.rf (Frm.mono hG23 (by decide))
                  have hRq30 : cRv X21 := hRv.frm q31 (by decide)
                  refine gos_i (run_V (As := [.ref (ad 7 r5), .int (jI (X 0 0 3)), .int (jI rule)]) (rest := []) hx hb hml hown hts (c_X8_fillThings l D tc base ad cnt X21 Y22 ln hRX21 hFx hLn hCIX21 hOw hN r5 (X 0 0 3) rule (by omega) (by simp only [e29]; omega) (by omega) hRq30) (cwV 3 hts gX8_restore_X8_fillThings rfl rfl rfl (by decide +kernel) ⟨Nat.le_of_ble_eq_true rfl, Nat.le_of_ble_eq_true rfl⟩) hK hw (by omega) (by omega) sl_0_0 rfl rfl hl.1 rfl (Nat.le_of_ble_eq_true rfl) dX8_restore_76 ⟨(by show _ ≤ (300 : Nat); omega), (by show _ ≤ (2100 : Nat); omega)⟩) hS (fun z32 u33 H locs p34 hw hS => ?_)
                  obtain ⟨ad, cnt, X35, Y36, ln, eu33, hE37, hFx, hOw, hLn, hRX35, hG38, hJ39, hCIX35, p34⟩ := p34
                  subst eu33
                  have hFX35 : Frm [4, 1600, 2602, 2700, 3201, 3202, 3203, 3204] X X35 := Frm.tr hFX21 (Frm.mono hG38 (by decide))
                  have hHY36 : Frm [1501, 1700, 600] Y Y36 := Frm.tr hHY22 (Frm.mono hJ39 (by decide))
                  have hE := Ext.tr hE hE37
                  have hm40 := hE37.2.1 19
                  have hm41 := hE37.2.1 25
                  have hm42 := hE37.2.1 26
                  have hN : 0 ≤ cnt 25 ∧ 0 ≤ cnt 26 := by omega
                  have ha43 := hE37.1 0 0 (by omega) (by omega)
                  have hc0 : cnt 0 = 1 := hFx.at 0 1 (by decide)
                  have hc4 : cnt 4 = 1 := hFx.at 4 1 (by decide)
                  have hc7 : cnt 7 = 6 := hFx.at 7 6 (by decide)
                  have hl : lv_has ls 5 [(3, .int (jI (X 0 0 3))), (0, .ref (ad 0 0)), (1, .int (jI sv)), (2, .int (jI rule))] := by rw [ha43]; exact hl
                  refine W.eq (g2 := F0 m 79 ls [.int (jI z32)]) rfl ?_
                  refine lv_istore (lv' := [(4, .int (jI z32)), (3, .int (jI (X 0 0 3))), (0, .ref (ad 0 0)), (1, .int (jI sv)), (2, .int (jI rule))]) hx hb dX8_restore_79 hl (by decide) rfl (fun ls hl => ?_)
                  refine lv_iload hx hb dX8_restore_81 (lv_at hl 0 rfl) ?_
                  refine x_if_ne (tgt := 93) hx hb (by omega) dX8_restore_83 (by decide) (fun c44 => ?_) (fun c44 => ?_)
                  · refine lv_iload hx hb dX8_restore_93 (lv_at hl 0 rfl) ?_
                    refine x_if_eq (tgt := 109) hx hb (by omega) dX8_restore_95 (by decide) (fun c45 => ?_) (fun c45 => ?_)
                    · refine lv_iload_n hx hb dX8_restore_109 rfl (lv_at hl 1 rfl) ?_
                      rw [hQ9]
                      refine ret_i (mc := 300) (ms := 2100) hx hb hr hlocks hw hS (by omega) (by omega) dX8_restore_110 ?_
                      exact ⟨ad, cnt, X35, Y36, ln, rfl, hE9 _ _ _ hE, hFx, hOw, hLn, hRX35, hFX35, hHY36, hCIX35, by omega⟩
                    · refine lv_aload_n hx hb dX8_restore_98 rfl (lv_at hl 2 rfl) ?_
                      refine lv_iload_n hx hb dX8_restore_99 rfl (lv_at hl 1 rfl) ?_
                      refine x_puti (jz := 3) hx hb hf8 ⟨tyX8_ok, nmX8⟩ hw hS (by omega) (by omega) sl_0_3 rfl lk94 rfl (tyX8_ok 3 (by decide)) rfl rfl dX8_restore_100 (fun H locs hw hS => ?_)
                      obtain ⟨X46, hX46⟩ : ∃ Xq, Xq = u3 X35 0 0 3 (X 0 0 3) := ⟨_, rfl⟩
                      rw [← hX46] at hw
                      have hRX46 : Rng X46 := by rw [hX46]; exact rng_set hRX35 (show 0 ≤ (X 0 0 3) ∧ (X 0 0 3) ≤ 30 by omega)
                      have hVX46 : X46 0 0 3 = (X 0 0 3) := by rw [hX46]; exact u3_s _ _ _ _ _
                      have hFX46 : Frm [4, 1600, 2602, 2700, 3201, 3202, 3203, 3204] X X46 := by rw [hX46]; exact Frm.set hFX35 (show 4 ∈ [4, 1600, 2602, 2700, 3201, 3202, 3203, 3204] by decide)
                      refine lv_iload hx hb dX8_restore_103 (lv_at hl 0 rfl) ?_
                      refine gos_i (run_S (As := [.int (jI z32)]) (rest := []) hx hb hml hown hts (c_X8_failed l D tc base ad cnt X46 Y36 ln z32 (by omega)) (cwS 1 hts gX8_restore_X8_failed rfl rfl rfl (by decide +kernel) ⟨Nat.le_of_ble_eq_true rfl, Nat.le_of_ble_eq_true rfl⟩) hK hw rfl hl.1 rfl (Nat.le_of_ble_eq_true rfl) dX8_restore_105 ⟨(by show _ ≤ (300 : Nat); omega), (by show _ ≤ (2100 : Nat); omega)⟩) hS (fun z47 u48 H locs p49 hw hS => ?_)
                      obtain ⟨eu48, p49⟩ := p49
                      subst eu48
                      rw [hQ9]
                      refine ret_i (mc := 300) (ms := 2100) hx hb hr hlocks hw hS (by omega) (by omega) dX8_restore_108 ?_
                      have e50 : X35 0 0 3 = X21 0 0 3 := (by rw [hG38 0 0 3 (show 4 ∉ [1600, 2602, 2700, 3201, 3202, 3203, 3204] by decide)])
                      have q51 : Frm [4] X35 X46 := by rw [hX46]; exact Frm.set Frm.rf (show 4 ∈ [4] by decide)
                      exact ⟨ad, cnt, X46, Y36, ln, rfl, hE9 _ _ _ hE, hFx, hOw, hLn, hRX46, hFX46, hHY36, (cinv_things hCIX35 q51 (fun x9 a b c => by rw [hVX46] at b; rw [e50] at c; omega)), by omega⟩
                  · refine lv_aload_n hx hb dX8_restore_86 rfl (lv_at hl 2 rfl) ?_
                    refine lv_iload_n hx hb dX8_restore_87 rfl (lv_at hl 1 rfl) ?_
                    refine gos_i (run_V (As := [.int (jI (X 0 0 3))]) (rest := []) hx hb hml hown hts (c_X8_judgeThings l D tc base ad cnt X35 Y36 ln hRX35 hFx hLn hCIX35 (X 0 0 3) (by omega)) (cwV 1 hts gX8_restore_X8_judgeThings rfl rfl rfl (by decide +kernel) ⟨Nat.le_of_ble_eq_true rfl, Nat.le_of_ble_eq_true rfl⟩) hK hw (by omega) (by omega) sl_0_0 rfl rfl hl.1 rfl (Nat.le_of_ble_eq_true rfl) dX8_restore_88 ⟨(by show _ ≤ (300 : Nat); omega), (by show _ ≤ (2100 : Nat); omega)⟩) hS (fun z52 u53 H locs p54 hw hS => ?_)
                    obtain ⟨X55, eu53, hRX55, hG56, hCIX55, p54⟩ := p54
                    subst eu53
                    have hFX55 : Frm [4, 1600, 2602, 2700, 3201, 3202, 3203, 3204] X X55 := Frm.tr hFX35 (Frm.mono hG56 (by decide))
                    refine lv_istore (lv' := [(4, .int (jI z52)), (3, .int (jI (X 0 0 3))), (0, .ref (ad 0 0)), (1, .int (jI sv)), (2, .int (jI rule))]) hx hb dX8_restore_91 hl (by decide) rfl (fun ls hl => ?_)
                    refine lv_iload hx hb dX8_restore_93 (lv_at hl 0 rfl) ?_
                    refine x_if_eq (tgt := 109) hx hb (by omega) dX8_restore_95 (by decide) (fun c57 => ?_) (fun c57 => ?_)
                    · refine lv_iload_n hx hb dX8_restore_109 rfl (lv_at hl 1 rfl) ?_
                      rw [hQ9]
                      refine ret_i (mc := 300) (ms := 2100) hx hb hr hlocks hw hS (by omega) (by omega) dX8_restore_110 ?_
                      exact ⟨ad, cnt, X55, Y36, ln, rfl, hE9 _ _ _ hE, hFx, hOw, hLn, hRX55, hFX55, hHY36, hCIX55, by omega⟩
                    · refine lv_aload_n hx hb dX8_restore_98 rfl (lv_at hl 2 rfl) ?_
                      refine lv_iload_n hx hb dX8_restore_99 rfl (lv_at hl 1 rfl) ?_
                      refine x_puti (jz := 3) hx hb hf8 ⟨tyX8_ok, nmX8⟩ hw hS (by omega) (by omega) sl_0_3 rfl lk94 rfl (tyX8_ok 3 (by decide)) rfl rfl dX8_restore_100 (fun H locs hw hS => ?_)
                      obtain ⟨X58, hX58⟩ : ∃ Xq, Xq = u3 X55 0 0 3 (X 0 0 3) := ⟨_, rfl⟩
                      rw [← hX58] at hw
                      have hRX58 : Rng X58 := by rw [hX58]; exact rng_set hRX55 (show 0 ≤ (X 0 0 3) ∧ (X 0 0 3) ≤ 30 by omega)
                      have hVX58 : X58 0 0 3 = (X 0 0 3) := by rw [hX58]; exact u3_s _ _ _ _ _
                      have hFX58 : Frm [4, 1600, 2602, 2700, 3201, 3202, 3203, 3204] X X58 := by rw [hX58]; exact Frm.set hFX55 (show 4 ∈ [4, 1600, 2602, 2700, 3201, 3202, 3203, 3204] by decide)
                      refine lv_iload hx hb dX8_restore_103 (lv_at hl 0 rfl) ?_
                      refine gos_i (run_S (As := [.int (jI z52)]) (rest := []) hx hb hml hown hts (c_X8_failed l D tc base ad cnt X58 Y36 ln z52 (by omega)) (cwS 1 hts gX8_restore_X8_failed rfl rfl rfl (by decide +kernel) ⟨Nat.le_of_ble_eq_true rfl, Nat.le_of_ble_eq_true rfl⟩) hK hw rfl hl.1 rfl (Nat.le_of_ble_eq_true rfl) dX8_restore_105 ⟨(by show _ ≤ (300 : Nat); omega), (by show _ ≤ (2100 : Nat); omega)⟩) hS (fun z59 u60 H locs p61 hw hS => ?_)
                      obtain ⟨eu60, p61⟩ := p61
                      subst eu60
                      rw [hQ9]
                      refine ret_i (mc := 300) (ms := 2100) hx hb hr hlocks hw hS (by omega) (by omega) dX8_restore_108 ?_
                      have e62 : X55 0 0 3 = X21 0 0 3 := (by rw [hG56 0 0 3 (show 4 ∉ [3201, 3202, 3203, 3204] by decide), hG38 0 0 3 (show 4 ∉ [1600, 2602, 2700, 3201, 3202, 3203, 3204] by decide)])
                      have q63 : Frm [4] X55 X58 := by rw [hX58]; exact Frm.set Frm.rf (show 4 ∈ [4] by decide)
                      exact ⟨ad, cnt, X58, Y36, ln, rfl, hE9 _ _ _ hE, hFx, hOw, hLn, hRX58, hFX58, hHY36, (cinv_things hCIX55 q63 (fun x9 a b c => by rw [hVX58] at b; rw [e62] at c; omega)), by omega⟩
            · refine lv_bipush (v := jI (-4)) hx hb dX8_restore_54 (by decide) ?_
              rw [hQ9]
              refine ret_i (mc := 300) (ms := 2100) hx hb hr hlocks hw hS (by omega) (by omega) dX8_restore_56 ?_
              exact ⟨ad, cnt, X, Y, ln, rfl, hE9 _ _ _ hE, hFx, hOw, hLn, hR, Frm.rf, Frm.rf, hCI, by omega⟩
        · subst ez8
          refine x_if_neF (tgt := 33) hx hb (by omega) (by decide) dX8_restore_27 (by decide) ?_
          refine lv_bipush (v := jI (-2)) hx hb dX8_restore_30 (by decide) ?_
          rw [hQ9]
          refine ret_i (mc := 300) (ms := 2100) hx hb hr hlocks hw hS (by omega) (by omega) dX8_restore_32 ?_
          exact ⟨ad, cnt, X, Y, ln, rfl, hE9 _ _ _ hE, hFx, hOw, hLn, hR, Frm.rf, Frm.rf, hCI, by omega⟩
      · refine lv_iconst (v := jI (-1)) hx hb dX8_restore_20 rfl ?_
        rw [hQ9]
        refine ret_i (mc := 300) (ms := 2100) hx hb hr hlocks hw hS (by omega) (by omega) dX8_restore_21 ?_
        exact ⟨ad, cnt, X, Y, ln, rfl, hE9 _ _ _ hE, hFx, hOw, hLn, hR, Frm.rf, Frm.rf, hCI, by omega⟩
  · subst ez1
    refine x_if_eqT (tgt := 20) hx hb (by omega) (by decide) dX8_restore_5 (by decide) ?_
    refine lv_iconst (v := jI (-1)) hx hb dX8_restore_20 rfl ?_
    rw [hQ9]
    refine ret_i (mc := 300) (ms := 2100) hx hb hr hlocks hw hS (by omega) (by omega) dX8_restore_21 ?_
    exact ⟨ad, cnt, X, Y, ln, rfl, hE9 _ _ _ hE, hFx, hOw, hLn, hR, Frm.rf, Frm.rf, hCI, by omega⟩

