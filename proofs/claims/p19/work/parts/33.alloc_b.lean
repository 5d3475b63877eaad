set_option maxHeartbeats 4000000 in
set_option maxRecDepth 100000 in
theorem c_X8_fillThings (l : Launch) (D : va_G) (tc : Nat → ClassId) (base : Nat) (ad : Nat → Int → Nat) (cnt : Nat → Int) (X : Nat → Int → Int → Int) (Y : Nat → Int → Int → Option Int) (ln : Int → Int) (hR : Rng X) (hFx : Fx cnt) (hLn : LnOK ln) (hCI : CInv cnt X Y ln) (hOw : Own cnt) (hN : 0 ≤ cnt 25 ∧ 0 ≤ cnt 26) (g f rule : Int) (hg : 0 ≤ g ∧ g < 6) (hf : 0 ≤ f ∧ f + X 7 g 0 ≤ X 0 0 3) (hrule : -2147483648 ≤ rule ∧ rule ≤ 2147483647) (hRv : cRv X) : KI l D tc base yX8_fillThings wsX8_fillThings ({ frames := 5, cells := 300, slots := 2100, locals := 109 } : Room) [.ref (ad 0 0), .ref (ad 7 g), .int (jI f), .int (jI rule)] (ad, cnt, X, Y, ln) 300 2100 (fun z u => ∃ (ad1 : Nat → Int → Nat) (cnt1 : Nat → Int) (X1 : Nat → Int → Int → Int) (Y1 : Nat → Int → Int → Option Int) (ln1 : Int → Int), u = (ad1, cnt1, X1, Y1, ln1) ∧ Ext ad cnt ln ad1 cnt1 ln1 ∧ Fx cnt1 ∧ Own cnt1 ∧ LnOK ln1 ∧ Rng X1 ∧ Frm [1600, 2602, 2700, 3201, 3202, 3203, 3204] X X1 ∧ Frm [1700, 600] Y Y1 ∧ CInv cnt1 X1 Y1 ln1 ∧ (0 ≤ z ∧ z ≤ 10) ∧ ∃ Yz : Nat → Int → Int → Option Int, Frm [600] Y Yz ∧ (∀ j, 0 ≤ j → j < 3 * X 7 g 6 → Yz 6 0 j = none) ∧ ((z = 0 ∧ rTrC g f rule (X 7 g 0).toNat (cnt 26) X Yz ln (cnt1 26) X1 Y1 ln1) ∨ (z ≠ 0 ∧ ∃ (r k cA cP : Int) (XA XP : Nat → Int → Int → Int) (YA YP : Nat → Int → Int → Option Int) (lA lP : Int → Int), 0 ≤ r ∧ r < X 7 g 0 ∧ 0 ≤ k ∧ k < X 9 g r ∧ rTrC g f rule r.toNat (cnt 26) X Yz ln cA XA YA lA ∧ fTrC g r f rule k.toNat cA XA YA lA cP XP YP lP ∧ fvC XP YP (f + r) g (5 * r + k) rule = z ∧ cnt1 26 = cP ∧ Y1 = YP ∧ ln1 = lP ∧ Frm [3201, 3202, 3203, 3204] XP X1))) := by
  refine K_of (cc := cX8_fillThings) (maxL := 8) (ret := (some .int)) (by decide) rfl (Nat.le_of_ble_eq_true rfl) ?_
  intro p e s m below meth c ls hx hb hr hml hown hts hlocks hl hK hw hS
  have hown : s.vm.findClass RX8 = some m.cls := hown
  have hbs : base ≤ s.heap.size := wd_size hw
  obtain ⟨av9, hav9⟩ : ∃ a9 : Array Value, a9 = ([.ref (ad 0 0), .ref (ad 7 g), .int (jI f), .int (jI rule)] : List Value).toArray := ⟨_, rfl⟩
  rw [← hav9] at hts ⊢
  obtain ⟨Q9, hQ9⟩ : ∃ q9Q : State → Prop, q9Q = MQ below (QI D tc base (fun z u => ∃ (ad1 : Nat → Int → Nat) (cnt1 : Nat → Int) (X1 : Nat → Int → Int → Int) (Y1 : Nat → Int → Int → Option Int) (ln1 : Int → Int), u = (ad1, cnt1, X1, Y1, ln1) ∧ Ext ad cnt ln ad1 cnt1 ln1 ∧ Fx cnt1 ∧ Own cnt1 ∧ LnOK ln1 ∧ Rng X1 ∧ Frm [1600, 2602, 2700, 3201, 3202, 3203, 3204] X X1 ∧ Frm [1700, 600] Y Y1 ∧ CInv cnt1 X1 Y1 ln1 ∧ (0 ≤ z ∧ z ≤ 10) ∧ ∃ Yz : Nat → Int → Int → Option Int, Frm [600] Y Yz ∧ (∀ j, 0 ≤ j → j < 3 * X 7 g 6 → Yz 6 0 j = none) ∧ ((z = 0 ∧ rTrC g f rule (X 7 g 0).toNat (cnt 26) X Yz ln (cnt1 26) X1 Y1 ln1) ∨ (z ≠ 0 ∧ ∃ (r k cA cP : Int) (XA XP : Nat → Int → Int → Int) (YA YP : Nat → Int → Int → Option Int) (lA lP : Int → Int), 0 ≤ r ∧ r < X 7 g 0 ∧ 0 ≤ k ∧ k < X 9 g r ∧ rTrC g f rule r.toNat (cnt 26) X Yz ln cA XA YA lA ∧ fTrC g r f rule k.toNat cA XA YA lA cP XP YP lP ∧ fvC XP YP (f + r) g (5 * r + k) rule = z ∧ cnt1 26 = cP ∧ Y1 = YP ∧ ln1 = lP ∧ Frm [3201, 3202, 3203, 3204] XP X1)))) av9 s 300 2100 (frA base) := ⟨_, rfl⟩
  rw [← hQ9]
  obtain ⟨ad0, ha0⟩ : ∃ a, a = ad := ⟨_, rfl⟩
  obtain ⟨cnt0, hc0⟩ : ∃ a, a = cnt := ⟨_, rfl⟩
  obtain ⟨ln0, hl0⟩ : ∃ a, a = ln := ⟨_, rfl⟩
  have hE9 : ∀ a c n, Ext ad0 cnt0 ln0 a c n → Ext ad cnt ln a c n := by rw [ha0, hc0, hl0]; exact fun _ _ _ h => h
  have hE : Ext ad0 cnt0 ln0 ad cnt ln := by rw [ha0, hc0, hl0]; exact Ext.rf
  clear ha0 hc0 hl0
  have hi4 : ∀ w ∈ wsX40, w ∈ wsX8_fillThings := fun w h => List.mem_cons_of_mem _ (List.mem_append_left _ (List.mem_append_left _ (List.mem_append_left _ (List.mem_append_left _ (List.mem_append_left _ (List.mem_append_right _ h))))))
  have hf4 : fctx s m _ RX8 wsX8_fillThings D tc RX4 TX4 9 4 := ⟨hts, hi4, hown, hK.1, rfl⟩
  have hi8 : ∀ w ∈ wsX80, w ∈ wsX8_fillThings := fun w h => List.mem_cons_of_mem _ (List.mem_append_left _ (List.mem_append_left _ (List.mem_append_left _ (List.mem_append_left _ (List.mem_append_right _ h)))))
  have hf8 : fctx s m _ RX8 wsX8_fillThings D tc RX8 TX8 12 8 := ⟨hts, hi8, hown, hK.1, rfl⟩
  have lk17 := hts (.fieldLink RX8 17 (TX8 2).1 (TX8 2).2.1 (TX8 2).2.2.1) (gj_X8_fillThings_0 _ (gp_4 gp_h))
  have lk44 := hts (.fieldLink RX8 44 (TX8 9).1 (TX8 9).2.1 (TX8 9).2.2.1) (gj_X8_fillThings_0 _ (gp_1 gp_h))
  have lk58 := hts (.fieldLink RX8 58 (TX8 11).1 (TX8 11).2.1 (TX8 11).2.2.1) (gj_X8_fillThings_0 _ (gp_4 (gp_1 gp_h)))
  have lk224 := hts (.fieldLink RX8 224 (TX4 3).1 (TX4 3).2.1 (TX4 3).2.2.1) (gj_X8_fillThings_0 _ (gp_4 (gp_1 (gp_1 gp_h))))
  have lk231 := hts (.fieldLink RX8 231 (TX4 0).1 (TX4 0).2.1 (TX4 0).2.2.1) (gj_X8_fillThings_0 _ (gp_1 (gp_1 gp_h)))
  have lk234 := hts (.fieldLink RX8 234 (TX4 6).1 (TX4 6).2.1 (TX4 6).2.2.1) (gj_X8_fillThings_0 _ (gp_h))
  have lk338 := hts (.fieldLink RX8 338 (TX4 2).1 (TX4 2).2.1 (TX4 2).2.2.1) (gj_X8_fillThings_0 _ (gp_1 (gp_1 (gp_1 gp_h))))
  have hc0 : cnt 0 = 1 := hFx.at 0 1 (by decide)
  have hc2 : cnt 2 = 1 := hFx.at 2 1 (by decide)
  have hc6 : cnt 6 = 1 := hFx.at 6 1 (by decide)
  have hc7 : cnt 7 = 6 := hFx.at 7 6 (by decide)
  have hc9 : cnt 9 = 6 := hFx.at 9 6 (by decide)
  have hc10 : cnt 10 = 6 := hFx.at 10 6 (by decide)
  have hc15 : cnt 15 = 30 := hFx.at 15 30 (by decide)
  have hc16 : cnt 16 = 30 := hFx.at 16 30 (by decide)
  have hc17 : cnt 17 = 30 := hFx.at 17 30 (by decide)
  have hc27 : cnt 27 = cnt 26 := hFx.2.2
  have hc32 : cnt 32 = 1 := hFx.at 32 1 (by decide)
  have hl : lv_has ls 8 [(0, .ref (ad 0 0)), (1, .ref (ad 7 g)), (2, .int (jI f)), (3, .int (jI rule))] := hl
  have ftc : 0 ≤ X 0 0 3 ∧ X 0 0 3 ≤ 30 := hR 0 0 3
  have fty : 0 ≤ X 0 0 1 ∧ X 0 0 1 ≤ 8 := hR 0 0 1
  have hct : cnt 19 = X 0 0 1 := hCI.2.2.2.1.1
  have hfj : 0 ≤ X 29 0 3 ∧ X 29 0 3 ≤ 4 := hR 29 0 3
  have hfn : 0 ≤ X 29 0 1 ∧ X 29 0 1 ≤ 80 := hR 29 0 1
  have frc : 0 ≤ X 7 g 0 ∧ X 7 g 0 ≤ 30 := hR 7 g 0
  have frw : 0 ≤ X 7 g 6 ∧ X 7 g 6 ≤ 150 := hR 7 g 6
  refine lv_iconst (v := jI 0) hx hb dX8_fillThings_0 rfl ?_
  refine lv_istore (lv' := [(4, .int (jI 0)), (0, .ref (ad 0 0)), (1, .ref (ad 7 g)), (2, .int (jI f)), (3, .int (jI rule))]) hx hb dX8_fillThings_1 hl (by decide) rfl (fun ls hl => ?_)
  have lp3 : ∀ (nn : Nat) (j : Int) (Yz : Nat → Int → Int → Option Int) (H : Heap) (locs : List Loc) (ls : Array Slot), (450 - j) < (nn : Int) → (Frm [600] Y Yz) → (0 ≤ j ∧ j ≤ 450) → (∀ j9, 0 ≤ j9 → j9 < j → Yz 6 0 j9 = none) → wd D tc base (ad, cnt, X, Yz, ln) H → va_S (frA base) s.heap H locs → lv_has ls 8 [(0, .ref (ad 0 0)), (1, .ref (ad 7 g)), (2, .int (jI f)), (3, .int (jI rule)), (4, .int (jI j))] → W p l e ({ frames := 5, cells := 300, slots := 2100, locals := 109 } : Room) s m av9 below meth c H locs 0 0 Q9 (F0 m 3 ls []) := by
    intro nn
    induction nn with
    | zero => intro j Yz H locs ls hm hGYz hj hnul hw hS hl; exfalso; omega
    | succ nn ih3 =>
      intro j Yz H locs ls hm hGYz hj hnul hw hS hl
      have hHYz : Frm [1700, 600] Y Yz := Frm.tr Frm.rf (Frm.mono hGYz (by first | exact nls_of rfl | decide))
      refine lv_iload hx hb dX8_fillThings_3 (lv_at hl 4 rfl) ?_
      refine lv_aload_n hx hb dX8_fillThings_5 rfl (lv_at hl 1 rfl) ?_
      refine x_geti (jz := 6) hx hb hf4 hw (by omega) (by omega) sl_7_6 rfl lk234 dX8_fillThings_6 ?_
      have f1 : 0 ≤ X 7 g 6 ∧ X 7 g 6 ≤ 150 := hR 7 g 6
      refine lv_iconst (v := jI 3) hx hb dX8_fillThings_9 rfl ?_
      refine x_imul hx hb dX8_fillThings_10 ?_
      refine x_icmp_ge (tgt := 28) hx hb (by omega) (by omega) dX8_fillThings_11 (by decide) (fun c2 => ?_) (fun c2 => ?_)
      · obtain ⟨cB, hcB⟩ : ∃ q : Int, q = cnt 26 := ⟨_, rfl⟩
        obtain ⟨lnB, hlB⟩ : ∃ q : Int → Int, q = ln := ⟨_, rfl⟩
        refine lv_iconst (v := jI 0) hx hb dX8_fillThings_28 rfl ?_
        refine lv_istore (lv' := [(4, .int (jI 0)), (0, .ref (ad 0 0)), (1, .ref (ad 7 g)), (2, .int (jI f)), (3, .int (jI rule))]) hx hb dX8_fillThings_29 hl (by decide) rfl (fun ls hl => ?_)
        have lp31 : ∀ (nn : Nat) (r : Int) (Xa : Nat → Int → Int → Int) (Ya : Nat → Int → Int → Option Int) (ad : Nat → Int → Nat) (cnt : Nat → Int) (ln : Int → Int) (cl sl : Nat) (H : Heap) (locs : List Loc) (ls : Array Slot), (30 - r) < (nn : Int) → (Rng Xa) → (Frm [1600, 2602, 2700] X Xa) → (Frm [1700, 600] Yz Ya) → (Ext ad0 cnt0 ln0 ad cnt ln) → (Fx cnt) → (Own cnt) → (LnOK ln) → (0 ≤ cnt 25 ∧ 0 ≤ cnt 26) → (0 ≤ r ∧ r ≤ 30) → ((cl : Int) ≤ 10 * r ∧ (sl : Int) ≤ 70 * r) → (CInv cnt Xa Ya ln) → (r ≤ X 7 g 0) → (rTrC g f rule r.toNat cB X Yz lnB (cnt 26) Xa Ya ln) → wd D tc base (ad, cnt, Xa, Ya, ln) H → va_S (frA base) s.heap H locs → lv_has ls 8 [(0, .ref (ad 0 0)), (1, .ref (ad 7 g)), (2, .int (jI f)), (3, .int (jI rule)), (4, .int (jI r))] → W p l e ({ frames := 5, cells := 300, slots := 2100, locals := 109 } : Room) s m av9 below meth c H locs cl sl Q9 (F0 m 31 ls []) := by
          intro nn
          induction nn with
          | zero => intro r Xa Ya ad cnt ln cl sl H locs ls hm hRXa hGXa hGYa hE hFx hOw hLn hN hr0 hcl hCIXa hrf hTr hw hS hl; exfalso; omega
          | succ nn ih31 =>
            intro r Xa Ya ad cnt ln cl sl H locs ls hm hRXa hGXa hGYa hE hFx hOw hLn hN hr0 hcl hCIXa hrf hTr hw hS hl
            have hc0 : cnt 0 = 1 := hFx.at 0 1 (by decide)
            have hc2 : cnt 2 = 1 := hFx.at 2 1 (by decide)
            have hc6 : cnt 6 = 1 := hFx.at 6 1 (by decide)
            have hc7 : cnt 7 = 6 := hFx.at 7 6 (by decide)
            have hc9 : cnt 9 = 6 := hFx.at 9 6 (by decide)
            have hc10 : cnt 10 = 6 := hFx.at 10 6 (by decide)
            have hc15 : cnt 15 = 30 := hFx.at 15 30 (by decide)
            have hc16 : cnt 16 = 30 := hFx.at 16 30 (by decide)
            have hc17 : cnt 17 = 30 := hFx.at 17 30 (by decide)
            have hc27 : cnt 27 = cnt 26 := hFx.2.2
            have hc32 : cnt 32 = 1 := hFx.at 32 1 (by decide)
            have hHYa : Frm [1700, 600] Y Ya := Frm.tr hHYz (Frm.mono hGYa (by first | exact nls_of rfl | decide))
            have hFXa : Frm [1600, 2602, 2700, 3201, 3202, 3203, 3204] X Xa := Frm.tr Frm.rf (Frm.mono hGXa (by first | exact nls_of rfl | decide))
            obtain ⟨cA, hcA⟩ : ∃ q : Int, q = cnt 26 := ⟨_, rfl⟩
            obtain ⟨lnA, hlA⟩ : ∃ q : Int → Int, q = ln := ⟨_, rfl⟩
            have hTr9 : rTrC g f rule r.toNat cB X Yz lnB cA Xa Ya lnA := by rw [hcA, hlA]; exact hTr
            refine lv_iload hx hb dX8_fillThings_31 (lv_at hl 4 rfl) ?_
            refine lv_aload_n hx hb dX8_fillThings_33 rfl (lv_at hl 1 rfl) ?_
            refine x_geti (jz := 0) hx hb hf4 hw (by omega) (by omega) sl_7_0 rfl lk231 dX8_fillThings_34 ?_
            have e3 : Xa 7 g 0 = X 7 g 0 := by rw [hGXa 7 g 0 (show 701 ∉ [1600, 2602, 2700] by first | exact nlm_ni rfl | decide)]
            rw [e3]
            have f4 : 0 ≤ X 7 g 0 ∧ X 7 g 0 ≤ 30 := hR 7 g 0
            refine x_icmp_ge (tgt := 121) hx hb (by omega) (by omega) dX8_fillThings_37 (by decide) (fun c5 => ?_) (fun c5 => ?_)
            · refine lv_iconst (v := jI 0) hx hb dX8_fillThings_121 rfl ?_
              rw [hQ9]
              refine ret_i (mc := 300) (ms := 2100) hx hb hr hlocks hw hS (by first | exact Nat.le_of_ble_eq_true rfl | omega) (by first | exact Nat.le_of_ble_eq_true rfl | omega) dX8_fillThings_122 ?_
              exact ⟨ad, cnt, Xa, Ya, ln, rfl, hE9 _ _ _ hE, hFx, hOw, hLn, hRXa, hFXa, hHYa, hCIXa, by omega, ⟨Yz, hGYz, (fun j9 a b => hnul j9 a (by omega)), Or.inl ⟨rfl, (by rw [← hcB, ← hlB, show X 7 g 0 = r by omega]; exact hTr)⟩⟩⟩
            · refine lv_iconst (v := jI 0) hx hb dX8_fillThings_40 rfl ?_
              refine lv_istore (lv' := [(5, .int (jI 0)), (0, .ref (ad 0 0)), (1, .ref (ad 7 g)), (2, .int (jI f)), (3, .int (jI rule)), (4, .int (jI r))]) hx hb dX8_fillThings_41 hl (by decide) rfl (fun ls hl => ?_)
              have lp43 : ∀ (nn : Nat) (k : Int) (Xb : Nat → Int → Int → Int) (Yb : Nat → Int → Int → Option Int) (ad : Nat → Int → Nat) (cnt : Nat → Int) (ln : Int → Int) (cl sl : Nat) (H : Heap) (locs : List Loc) (ls : Array Slot), (5 - k) < (nn : Int) → (Rng Xb) → (Frm [1600, 2602, 2700] Xa Xb) → (Frm [1700, 600] Ya Yb) → (Ext ad0 cnt0 ln0 ad cnt ln) → (Fx cnt) → (Own cnt) → (LnOK ln) → (0 ≤ cnt 25 ∧ 0 ≤ cnt 26) → (0 ≤ k ∧ k ≤ 5) → ((cl : Int) ≤ 10 * r + 2 * k ∧ (sl : Int) ≤ 70 * r + 14 * k) → (CInv cnt Xb Yb ln) → (k ≤ X 9 g r) → (fTrC g r f rule k.toNat cA Xa Ya lnA (cnt 26) Xb Yb ln) → wd D tc base (ad, cnt, Xb, Yb, ln) H → va_S (frA base) s.heap H locs → lv_has ls 8 [(0, .ref (ad 0 0)), (1, .ref (ad 7 g)), (2, .int (jI f)), (3, .int (jI rule)), (4, .int (jI r)), (5, .int (jI k))] → W p l e ({ frames := 5, cells := 300, slots := 2100, locals := 109 } : Room) s m av9 below meth c H locs cl sl Q9 (F0 m 43 ls []) := by
                intro nn
                induction nn with
                | zero => intro k Xb Yb ad cnt ln cl sl H locs ls hm hRXb hGXb hGYb hE hFx hOw hLn hN hk hcl hCIXb hkf hTk hw hS hl; exfalso; omega
                | succ nn ih43 =>
                  intro k Xb Yb ad cnt ln cl sl H locs ls hm hRXb hGXb hGYb hE hFx hOw hLn hN hk hcl hCIXb hkf hTk hw hS hl
                  have hc0 : cnt 0 = 1 := hFx.at 0 1 (by decide)
                  have hc2 : cnt 2 = 1 := hFx.at 2 1 (by decide)
                  have hc6 : cnt 6 = 1 := hFx.at 6 1 (by decide)
                  have hc7 : cnt 7 = 6 := hFx.at 7 6 (by decide)
                  have hc9 : cnt 9 = 6 := hFx.at 9 6 (by decide)
                  have hc10 : cnt 10 = 6 := hFx.at 10 6 (by decide)
                  have hc15 : cnt 15 = 30 := hFx.at 15 30 (by decide)
                  have hc16 : cnt 16 = 30 := hFx.at 16 30 (by decide)
                  have hc17 : cnt 17 = 30 := hFx.at 17 30 (by decide)
                  have hc27 : cnt 27 = cnt 26 := hFx.2.2
                  have hc32 : cnt 32 = 1 := hFx.at 32 1 (by decide)
                  have hHYb : Frm [1700, 600] Y Yb := Frm.tr hHYa (Frm.mono hGYb (by first | exact nls_of rfl | decide))
                  have hFXb : Frm [1600, 2602, 2700, 3201, 3202, 3203, 3204] X Xb := Frm.tr hFXa (Frm.mono hGXb (by first | exact nls_of rfl | decide))
                  refine lv_iload hx hb dX8_fillThings_43 (lv_at hl 5 rfl) ?_
                  refine lv_aload_n hx hb dX8_fillThings_45 rfl (lv_at hl 1 rfl) ?_
                  refine x_geto hx hb hf4 hw (by omega) (by omega) sl_7_2 lk338 dX8_fillThings_46 ?_
                  refine lv_iload hx hb dX8_fillThings_49 (lv_at hl 4 rfl) ?_
                  refine x_iald hx hb hK.1 hw (by omega) (by omega) ar_9 (len_E ar_9 (by first | exact Nat.ne_of_beq_eq_false rfl | decide)) (by omega) (by omega) (by omega) dX8_fillThings_51 ?_
                  have e6 : ∀ p9 q9 : Int, Xb 9 p9 q9 = X 9 p9 q9 := fun p9 q9 => by rw [hGXb 9 p9 q9 (show 900 ∉ [1600, 2602, 2700] by first | exact nlm_ni rfl | decide), hGXa 9 p9 q9 (show 900 ∉ [1600, 2602, 2700] by first | exact nlm_ni rfl | decide)]
                  rw [e6 g r]
                  have f7 : 0 ≤ X 9 g r ∧ X 9 g r ≤ 5 := hR 9 g r
                  refine x_icmp_ge (tgt := 115) hx hb (by omega) (by omega) dX8_fillThings_52 (by decide) (fun c8 => ?_) (fun c8 => ?_)
                  · refine lv_iinc (v := jI (r + 1)) (lv' := [(4, .int (jI (r + 1))), (0, .ref (ad 0 0)), (1, .ref (ad 7 g)), (2, .int (jI f)), (3, .int (jI rule)), (5, .int (jI k))]) hx hb dX8_fillThings_115 hl (k := 4) rfl (jI_add _ _) (by decide) rfl (fun ls hl => ?_)
                    refine lv_goto (tgt := 31) hx hb dX8_fillThings_118 (by decide) ?_
                    have q9 : Frm [1600, 2602, 2700] X Xa := Frm.tr Frm.rf (Frm.mono hGXa (by first | exact nls_of rfl | decide))
                    have q10 : Frm [1600, 2602, 2700] X Xb := Frm.tr q9 (Frm.mono hGXb (by first | exact nls_of rfl | decide))
                    have q11 : Frm [1700, 600] Yz Ya := Frm.tr Frm.rf (Frm.mono hGYa (by first | exact nls_of rfl | decide))
                    have q12 : Frm [1700, 600] Yz Yb := Frm.tr q11 (Frm.mono hGYb (by first | exact nls_of rfl | decide))
                    exact ih31 (r + 1) Xb Yb ad cnt ln _ _ _ _ _ (by omega) hRXb q10 q12 (hE) (hFx) (hOw) (hLn) (hN) (by omega) (by omega) (hCIXb) (by omega) ((rTrC.push (c1 := cA) (ln1 := lnA) hTr9 (by omega) (by rw [show Xa 9 g r = X 9 g r from (by rw [hGXa 9 g r (show 900 ∉ [1600, 2602, 2700] by first | exact nlm_ni rfl | decide)]), show X 9 g r = k by omega]; exact hTk))) hw hS (lv_sub hl [1, 2, 3, 4, 0] rfl)
                  · refine lv_iload hx hb dX8_fillThings_55 (lv_at hl 4 rfl) ?_
                    refine lv_iconst (v := jI 5) hx hb dX8_fillThings_57 rfl ?_
                    refine x_imul hx hb dX8_fillThings_58 ?_
                    refine lv_iload hx hb dX8_fillThings_59 (lv_at hl 5 rfl) ?_
                    refine x_iadd hx hb dX8_fillThings_61 ?_
                    refine lv_istore (lv' := [(6, .int (jI ((r * 5) + k))), (0, .ref (ad 0 0)), (1, .ref (ad 7 g)), (2, .int (jI f)), (3, .int (jI rule)), (4, .int (jI r)), (5, .int (jI k))]) hx hb dX8_fillThings_62 hl (by decide) rfl (fun ls hl => ?_)
                    have hv9 := hRv g ((r * 5) + k) (by omega) (by omega) (by omega) (by omega)
                    refine lv_aload_n hx hb dX8_fillThings_64 rfl (lv_at hl 1 rfl) ?_
                    refine lv_aload_n hx hb dX8_fillThings_65 rfl (lv_at hl 1 rfl) ?_
                    refine x_geto hx hb hf8 hw (by first | exact Int.le_refl 0 | omega) (by first | exact zlt hc0 | omega) sl_0_2 lk17 dX8_fillThings_66 ?_
                    refine lv_iload_n hx hb dX8_fillThings_69 rfl (lv_at hl 3 rfl) ?_
                    refine lv_iload hx hb dX8_fillThings_70 (lv_at hl 5 rfl) ?_
                    refine x_iadd hx hb dX8_fillThings_72 ?_
                    refine x_aald hx hb hK.1 hw (by first | exact Int.le_refl 0 | omega) (by first | exact zlt hc2 | omega) ar_2 rfl (len_E ar_2 (by first | exact Nat.ne_of_beq_eq_false rfl | decide)) (by omega) (by omega) (by omega) dX8_fillThings_73 (fun y13 => ?_) (fun r14 y13 gr14 lr14 => ?_)
                    · exfalso
                      have e15 : ∀ p9 q9 : Int, Yb 2 p9 q9 = Y 2 p9 q9 := fun p9 q9 => by rw [hGYb 2 p9 q9 (show 200 ∉ [1700, 600] by first | exact nlm_ni rfl | decide), hGYa 2 p9 q9 (show 200 ∉ [1700, 600] by first | exact nlm_ni rfl | decide), hGYz 2 p9 q9 (show 200 ∉ [600] by first | exact nlm_ni rfl | decide)]
                      rw [e15] at y13
                      have h9 := hCI.1 (f + r) (by omega) (by omega); rw [h9] at y13; cases y13
                    · have e16 : ∀ p9 q9 : Int, Yb 2 p9 q9 = Y 2 p9 q9 := fun p9 q9 => by rw [hGYb 2 p9 q9 (show 200 ∉ [1700, 600] by first | exact nlm_ni rfl | decide), hGYa 2 p9 q9 (show 200 ∉ [1700, 600] by first | exact nlm_ni rfl | decide), hGYz 2 p9 q9 (show 200 ∉ [600] by first | exact nlm_ni rfl | decide)]
                      rw [e16] at y13
                      have er14 : r14 = (f + r) := by have h9 := hCI.1 (f + r) (by omega) (by omega); rw [h9] at y13; cases y13; rfl
                      rw [er14]
                      refine lv_aload_n hx hb dX8_fillThings_74 rfl (lv_at hl 2 rfl) ?_
                      refine lv_iload hx hb dX8_fillThings_75 (lv_at hl 0 rfl) ?_
                      refine lv_iload_n hx hb dX8_fillThings_77 rfl (lv_at hl 3 rfl) ?_
                      refine lv_iload_n hx hb dX8_fillThings_78 rfl (lv_at hl 4 rfl) ?_
                      have e17 : ∀ p9 q9 : Int, Xb 11 p9 q9 = X 11 p9 q9 := fun p9 q9 => by rw [hGXb 11 p9 q9 (show 1100 ∉ [1600, 2602, 2700] by first | exact nlm_ni rfl | decide), hGXa 11 p9 q9 (show 1100 ∉ [1600, 2602, 2700] by first | exact nlm_ni rfl | decide)]
                      have e18 : ∀ p9 q9 : Int, Xb 12 p9 q9 = X 12 p9 q9 := fun p9 q9 => by rw [hGXb 12 p9 q9 (show 1200 ∉ [1600, 2602, 2700] by first | exact nlm_ni rfl | decide), hGXa 12 p9 q9 (show 1200 ∉ [1600, 2602, 2700] by first | exact nlm_ni rfl | decide)]
                      have e19 : Xb 0 0 3 = X 0 0 3 := by rw [hGXb 0 0 3 (show 4 ∉ [1600, 2602, 2700] by first | exact nlm_ni rfl | decide), hGXa 0 0 3 (show 4 ∉ [1600, 2602, 2700] by first | exact nlm_ni rfl | decide)]
                      refine gos_i (run_V (As := [.ref (ad 15 (f + r)), .ref (ad 7 g), .int (jI ((r * 5) + k)), .int (jI f), .int (jI rule)]) (rest := []) hx hb hml hown hts (c_X8_fillField l D tc base ad cnt Xb Yb ln hRXb hFx hLn hCIXb hOw hN (f + r) g ((r * 5) + k) f rule (by omega) (by simp only [e19]; omega) (by omega) (by omega) (by omega) (by omega) (by rw [e17, e18]; exact hv9)) (cwV 5 hts gX8_fillThings_X8_fillField rfl rfl rfl (by first | exact hd_X8_fillField | decide +kernel) ⟨Nat.le_of_ble_eq_true rfl, Nat.le_of_ble_eq_true rfl⟩) hK hw (by first | exact Int.le_refl 0 | omega) (by first | exact zlt hc0 | omega) sl_0_0 rfl rfl hl.1 rfl (Nat.le_of_ble_eq_true rfl) dX8_fillThings_79 ⟨(by show _ ≤ (300 : Nat); omega), (by show _ ≤ (2100 : Nat); omega)⟩) hS (fun z20 u21 H locs p22 hw hS => ?_)
                      obtain ⟨ad, cnt, X23, Y24, ln, eu21, hE25, hFx, hOw, hLn, hRX23, hG26, hJ27, hCIX23, p22, hfzX23, hfnX23, hfsX23⟩ := p22
                      subst eu21
                      have hFX23 : Frm [1600, 2602, 2700, 3201, 3202, 3203, 3204] X X23 := Frm.tr hFXb (Frm.mono hG26 (by first | exact nls_of rfl | decide))
                      have hHY24 : Frm [1700, 600] Y Y24 := Frm.tr hHYb (Frm.mono hJ27 (by first | exact nls_of rfl | decide))
                      have hE := Ext.tr hE hE25
                      have hm28 := hE25.2.1 19
                      have hm29 := hE25.2.1 25
                      have hm30 := hE25.2.1 26
                      have hN : 0 ≤ cnt 25 ∧ 0 ≤ cnt 26 := by omega
                      have ha31 := hE25.1 0 0 (by omega) (by omega)
                      have ha32 := hE25.1 7 g (by omega) (by omega)
                      have hc0 : cnt 0 = 1 := hFx.at 0 1 (by decide)
                      have hc2 : cnt 2 = 1 := hFx.at 2 1 (by decide)
                      have hc6 : cnt 6 = 1 := hFx.at 6 1 (by decide)
                      have hc7 : cnt 7 = 6 := hFx.at 7 6 (by decide)
                      have hc9 : cnt 9 = 6 := hFx.at 9 6 (by decide)
                      have hc10 : cnt 10 = 6 := hFx.at 10 6 (by decide)
                      have hc15 : cnt 15 = 30 := hFx.at 15 30 (by decide)
                      have hc16 : cnt 16 = 30 := hFx.at 16 30 (by decide)
                      have hc17 : cnt 17 = 30 := hFx.at 17 30 (by decide)
                      have hc27 : cnt 27 = cnt 26 := hFx.2.2
                      have hc32 : cnt 32 = 1 := hFx.at 32 1 (by decide)
                      have hl : lv_has ls 8 [(6, .int (jI ((r * 5) + k))), (0, .ref (ad 0 0)), (1, .ref (ad 7 g)), (2, .int (jI f)), (3, .int (jI rule)), (4, .int (jI r)), (5, .int (jI k))] := by rw [ha31, ha32]; exact hl
                      refine W.eq (g2 := F0 m 82 ls [.int (jI z20)]) rfl ?_
                      refine lv_istore (lv' := [(7, .int (jI z20)), (6, .int (jI ((r * 5) + k))), (0, .ref (ad 0 0)), (1, .ref (ad 7 g)), (2, .int (jI f)), (3, .int (jI rule)), (4, .int (jI r)), (5, .int (jI k))]) hx hb dX8_fillThings_82 hl (by decide) rfl (fun ls hl => ?_)
                      refine lv_iload hx hb dX8_fillThings_84 (lv_at hl 0 rfl) ?_
                      refine x_if_eq (tgt := 109) hx hb (by omega) dX8_fillThings_86 (by decide) (fun c33 => ?_) (fun c33 => ?_)
                      · refine lv_iinc (v := jI (k + 1)) (lv' := [(5, .int (jI (k + 1))), (7, .int (jI z20)), (6, .int (jI ((r * 5) + k))), (0, .ref (ad 0 0)), (1, .ref (ad 7 g)), (2, .int (jI f)), (3, .int (jI rule)), (4, .int (jI r))]) hx hb dX8_fillThings_109 hl (k := 7) rfl (jI_add _ _) (by decide) rfl (fun ls hl => ?_)
                        refine lv_goto (tgt := 43) hx hb dX8_fillThings_112 (by decide) ?_
                        have q34 : Frm [1600, 2602, 2700] Xa Xb := Frm.tr Frm.rf (Frm.mono hGXb (by first | exact nls_of rfl | decide))
                        have q35 : Frm [1600, 2602, 2700] Xa X23 := Frm.tr q34 (Frm.mono hG26 (by first | exact nls_of rfl | decide))
                        have q36 : Frm [1700, 600] Ya Yb := Frm.tr Frm.rf (Frm.mono hGYb (by first | exact nls_of rfl | decide))
                        have q37 : Frm [1700, 600] Ya Y24 := Frm.tr q36 (Frm.mono hJ27 (by first | exact nls_of rfl | decide))
                        exact ih43 (k + 1) X23 Y24 ad cnt ln _ _ _ _ _ (by omega) hRX23 q35 q37 (hE) (hFx) (hOw) (hLn) (hN) (by omega) (by omega) (hCIX23) (by omega) ((by have h9 := hfzX23; have h8 := hfsX23 (by omega); rw [show r * 5 + k = 5 * r + k by omega] at h8 h9; exact fTrC.push hTk (by omega) (by omega) h8)) hw hS (lv_sub hl [3, 4, 5, 6, 7, 0] rfl)
                      · refine lv_aload_n hx hb dX8_fillThings_89 rfl (lv_at hl 2 rfl) ?_
                        refine x_geto hx hb hf8 hw (by first | exact Int.le_refl 0 | omega) (by first | exact zlt hc0 | omega) sl_0_11 lk58 dX8_fillThings_90 ?_
                        refine lv_iload hx hb dX8_fillThings_93 (lv_at hl 6 rfl) ?_
                        refine lv_aload_n hx hb dX8_fillThings_95 rfl (lv_at hl 3 rfl) ?_
                        refine x_geto hx hb hf4 hw (by omega) (by omega) sl_7_3 lk224 dX8_fillThings_96 ?_
                        refine lv_iload hx hb dX8_fillThings_99 (lv_at hl 1 rfl) ?_
                        refine x_iald hx hb hK.1 hw (by omega) (by omega) ar_10 (len_E ar_10 (by first | exact Nat.ne_of_beq_eq_false rfl | decide)) (by omega) (by omega) (by omega) dX8_fillThings_101 ?_
                        have e38 : ∀ p9 q9 : Int, X23 10 p9 q9 = X 10 p9 q9 := fun p9 q9 => by rw [hG26 10 p9 q9 (show 1000 ∉ [1600, 2602, 2700] by first | exact nlm_ni rfl | decide), hGXb 10 p9 q9 (show 1000 ∉ [1600, 2602, 2700] by first | exact nlm_ni rfl | decide), hGXa 10 p9 q9 (show 1000 ∉ [1600, 2602, 2700] by first | exact nlm_ni rfl | decide)]
                        rw [e38 g ((r * 5) + k)]
                        have f39 : 0 ≤ X 10 g ((r * 5) + k) ∧ X 10 g ((r * 5) + k) ≤ 19 := hR 10 g ((r * 5) + k)
                        refine lv_iconst (v := jI (-1)) hx hb dX8_fillThings_102 rfl ?_
                        refine gos_v (run_V (As := [.int (jI r), .int (jI (X 10 g ((r * 5) + k))), .int (jI (-1))]) (rest := []) hx hb hml hown hts (c_X1_tell l D tc base ad cnt X23 Y24 ln hRX23 hFx hLn hCIX23 r (X 10 g ((r * 5) + k)) (-1) (by omega) (by omega) (by omega)) (cwV 3 hts gX8_fillThings_X1_tell rfl rfl rfl (by first | exact hd_X1_tell | decide +kernel) ⟨Nat.le_of_ble_eq_true rfl, Nat.le_of_ble_eq_true rfl⟩) hK hw (by first | exact Int.le_refl 0 | omega) (by first | exact zlt hc32 | omega) sl_32_0 rfl rfl hl.1 rfl (Nat.le_of_ble_eq_true rfl) dX8_fillThings_103 ⟨(by show _ ≤ (300 : Nat); omega), (by show _ ≤ (2100 : Nat); omega)⟩) hS (fun u41 H locs p42 hw hS => ?_)
                        obtain ⟨X43, eu41, hRX43, hG44, hCIX43, p42⟩ := p42
                        subst eu41
                        have hFX43 : Frm [1600, 2602, 2700, 3201, 3202, 3203, 3204] X X43 := Frm.tr hFX23 (Frm.mono hG44 (by first | exact nls_of rfl | decide))
                        refine lv_iload hx hb dX8_fillThings_106 (lv_at hl 0 rfl) ?_
                        rw [hQ9]
                        refine ret_i (mc := 300) (ms := 2100) hx hb hr hlocks hw hS (by first | exact Nat.le_of_ble_eq_true rfl | omega) (by first | exact Nat.le_of_ble_eq_true rfl | omega) dX8_fillThings_108 ?_
                        have q45 : Frm [3201, 3202, 3203, 3204] X23 X43 := Frm.tr Frm.rf (Frm.mono hG44 (by first | exact nls_of rfl | decide))
                        exact ⟨ad, cnt, X43, Y24, ln, rfl, hE9 _ _ _ hE, hFx, hOw, hLn, hRX43, hFX43, hHY24, hCIX43, by omega, ⟨Yz, hGYz, (fun j9 a b => hnul j9 a (by omega)), Or.inr ⟨by omega, (by have h9 := hfzX23; obtain ⟨q1, q2, q3, q4⟩ := hfnX23 (by omega); rw [show r * 5 + k = 5 * r + k by omega] at h9; exact ⟨r, k, cA, _, Xa, Xb, Ya, Yb, lnA, _, by omega, by omega, by omega, by omega, (by rw [← hcB, ← hlB]; exact hTr9), hTk, h9.symm, q1, q3, q4, (by rw [← q2]; exact q45)⟩)⟩⟩⟩
              exact lp43 (5 - 0 : Int).toNat.succ 0 Xa Ya ad cnt ln _ _ _ _ _ (by omega) hRXa Frm.rf Frm.rf (hE) (hFx) (hOw) (hLn) (hN) (by omega) (by omega) (hCIXa) ((hR 9 g r).1) (⟨hcA.symm, rfl, rfl, hlA.symm⟩) hw hS (lv_sub hl [1, 2, 3, 4, 5, 0] rfl)
        have q46 : Frm [600] Y Yz := Frm.tr Frm.rf (Frm.mono hGYz (by first | exact nls_of rfl | decide))
        have hCq47 : CInv cnt X Yz ln := cinv_frm (M := []) (N := [600]) hCI Frm.rf q46 (by decide) (by decide)
        exact lp31 (30 - 0 : Int).toNat.succ 0 X Yz ad cnt ln _ _ _ _ _ (by omega) hR Frm.rf Frm.rf (hE) (hFx) (hOw) (hLn) (hN) (by omega) (by omega) (hCq47) (by omega) (⟨hcB.symm, rfl, rfl, hlB.symm⟩) hw hS (lv_sub hl [1, 2, 3, 4, 0] rfl)
      · refine lv_aload_n hx hb dX8_fillThings_14 rfl (lv_at hl 0 rfl) ?_
        refine x_geto hx hb hf8 hw (by first | exact Int.le_refl 0 | omega) (by first | exact zlt hc0 | omega) sl_0_9 lk44 dX8_fillThings_15 ?_
        refine lv_iload hx hb dX8_fillThings_18 (lv_at hl 4 rfl) ?_
        refine lv_null hx hb dX8_fillThings_20 ?_
        refine x_aastn hx hb hK.1 hw hS (by first | exact Int.le_refl 0 | omega) (by first | exact zlt hc6 | omega) ar_6 rfl (len_E ar_6 (by first | exact Nat.ne_of_beq_eq_false rfl | decide)) (by omega) (by omega) (by omega) dX8_fillThings_21 (fun H locs hw hS => ?_)
        obtain ⟨Y48, hY48⟩ : ∃ Yq, Yq = u3 Yz 6 0 j none := ⟨_, rfl⟩
        rw [← hY48] at hw
        have hVY48 : Y48 6 0 j = none := by rw [hY48]; exact u3_s _ _ _ _ _
        have hHY48 : Frm [1700, 600] Y Y48 := by rw [hY48]; exact Frm.set hHYz (show 600 ∈ [1700, 600] by first | exact nlm_in rfl | decide)
        refine lv_iinc (v := jI (j + 1)) (lv' := [(4, .int (jI (j + 1))), (0, .ref (ad 0 0)), (1, .ref (ad 7 g)), (2, .int (jI f)), (3, .int (jI rule))]) hx hb dX8_fillThings_22 hl (k := 4) rfl (jI_add _ _) (by decide) rfl (fun ls hl => ?_)
        refine lv_goto (tgt := 3) hx hb dX8_fillThings_25 (by decide) ?_
        have q49 : Frm [600] Y Yz := Frm.tr Frm.rf (Frm.mono hGYz (by first | exact nls_of rfl | decide))
        have q50 : Frm [600] Y Y48 := by rw [hY48]; exact Frm.set q49 (show 600 ∈ [600] by first | exact nlm_in rfl | decide)
        exact ih3 (j + 1) Y48 _ _ _ (by omega) q50 (by omega) (fun j9 a b => if hj9 : j9 = j then (by rw [hj9]; exact hVY48) else (by rw [hY48, u3_ij (fun q9 => hj9 q9.2)]; exact hnul j9 a (by omega))) hw hS (lv_sub hl [1, 2, 3, 4, 0] rfl)
  exact lp3 (450 - 0 : Int).toNat.succ 0 Y _ _ _ (by omega) Frm.rf (by omega) (fun j9 a b => by omega) hw hS (lv_sub hl [1, 2, 3, 4, 0] rfl)

set_option maxHeartbeats 4000000 in
set_option maxRecDepth 100000 in
theorem c_X8_restore (l : Launch) (D : va_G) (tc : Nat → ClassId) (base : Nat) (ad : Nat → Int → Nat) (cnt : Nat → Int) (X : Nat → Int → Int → Int) (Y : Nat → Int → Int → Option Int) (ln : Int → Int) (hR : Rng X) (hFx : Fx cnt) (hLn : LnOK ln) (hCI : CInv cnt X Y ln) (hOw : Own cnt) (hN : 0 ≤ cnt 25 ∧ 0 ≤ cnt 26) (sv rule : Int) (hsv : -2147483648 ≤ sv ∧ sv ≤ 2147483647) (hrule : -2147483648 ≤ rule ∧ rule ≤ 2147483647) (hRv : cRv X) : KI l D tc base yX8_restore wsX8_restore ({ frames := 7, cells := 300, slots := 2100, locals := 155 } : Room) [.ref (ad 0 0), .int (jI sv), .int (jI rule)] (ad, cnt, X, Y, ln) 300 2100 (fun z u => ∃ (ad1 : Nat → Int → Nat) (cnt1 : Nat → Int) (X1 : Nat → Int → Int → Int) (Y1 : Nat → Int → Int → Option Int) (ln1 : Int → Int), u = (ad1, cnt1, X1, Y1, ln1) ∧ Ext ad cnt ln ad1 cnt1 ln1 ∧ Fx cnt1 ∧ Own cnt1 ∧ LnOK ln1 ∧ Rng X1 ∧ Frm [4, 1600, 2602, 2700, 3201, 3202, 3203, 3204] X X1 ∧ Frm [1501, 1700, 600] Y Y1 ∧ CInv cnt1 X1 Y1 ln1 ∧ (-2147483648 ≤ z ∧ z ≤ 2147483647) ∧ ((¬ (0 ≤ sv ∧ sv < 4 ∧ X 7 (tyo (Y 4 0 sv)) 0 ≠ 0) ∧ z = -1 ∧ X1 = X ∧ Y1 = Y ∧ cnt1 26 = cnt 26 ∧ ln1 = ln) ∨ ((0 ≤ sv ∧ sv < 4 ∧ X 7 (tyo (Y 4 0 sv)) 0 ≠ 0) ∧ ¬ (0 ≤ rule ∧ rule < 4) ∧ z = -2 ∧ X1 = X ∧ Y1 = Y ∧ cnt1 26 = cnt 26 ∧ ln1 = ln) ∨ ((0 ≤ sv ∧ sv < 4 ∧ X 7 (tyo (Y 4 0 sv)) 0 ≠ 0) ∧ (0 ≤ rule ∧ rule < 4) ∧ 30 < X 0 0 3 + X 7 (tyo (Y 4 0 sv)) 0 ∧ z = -4 ∧ X1 = X ∧ Y1 = Y ∧ cnt1 26 = cnt 26 ∧ ln1 = ln) ∨ ((0 ≤ sv ∧ sv < 4 ∧ X 7 (tyo (Y 4 0 sv)) 0 ≠ 0) ∧ (0 ≤ rule ∧ rule < 4) ∧ X 0 0 3 + X 7 (tyo (Y 4 0 sv)) 0 ≤ 30 ∧ ∃ (g : Int) (A B : Nat → Int → Int → Int) (YA YB : Nat → Int → Int → Option Int) (cB zf : Int) (lB : Int → Int), Y 4 0 sv = some g ∧ (A 0 0 3 = X 0 0 3 + X 7 g 0 ∧ (∀ r9, 0 ≤ r9 → r9 < X 7 g 0 → YA 15 (X 0 0 3 + r9) 0 = some (X 8 g r9) ∧ ∀ j, 0 ≤ j → j < X 19 (X 8 g r9) 1 → A 16 (X 0 0 3 + r9) j = X 22 (X 8 g r9) j ∧ YA 17 (X 0 0 3 + r9) j = none) ∧ (∀ y, y < X 0 0 3 → YA 15 y 0 = Y 15 y 0 ∧ ∀ j, A 16 y j = X 16 y j ∧ YA 17 y j = Y 17 y j) ∧ Frm [4, 1600] X A ∧ Frm [1501, 1700] Y YA) ∧ (∃ Yz : Nat → Int → Int → Option Int, Frm [600] YA Yz ∧ (∀ j, 0 ≤ j → j < 3 * A 7 g 6 → Yz 6 0 j = none) ∧ ((zf = 0 ∧ rTrC g (X 0 0 3) rule (A 7 g 0).toNat (cnt 26) A Yz ln (cB) B YB lB) ∨ (zf ≠ 0 ∧ ∃ (r k cA cP : Int) (XA XP : Nat → Int → Int → Int) (YA YP : Nat → Int → Int → Option Int) (lA lP : Int → Int), 0 ≤ r ∧ r < A 7 g 0 ∧ 0 ≤ k ∧ k < A 9 g r ∧ rTrC g (X 0 0 3) rule r.toNat (cnt 26) A Yz ln cA XA YA lA ∧ fTrC g r (X 0 0 3) rule k.toNat cA XA YA lA cP XP YP lP ∧ fvC XP YP (X 0 0 3 + r) g (5 * r + k) rule = zf ∧ cB = cP ∧ YB = YP ∧ lB = lP ∧ Frm [3201, 3202, 3203, 3204] XP B))) ∧ ((zf = 0 ∧ (∀ y, X 0 0 3 ≤ y → y < B 0 0 3 → jdC B YB lB y 0) ∧ z = X 0 0 3 ∧ Frm [3201, 3202, 3203, 3204] B X1 ∧ Y1 = YB ∧ cnt1 26 = cB ∧ ln1 = lB) ∨ (X1 0 0 3 = X 0 0 3 ∧ Frm [4, 3201, 3202, 3203, 3204] B X1 ∧ Y1 = YB ∧ cnt1 26 = cB ∧ ln1 = lB ∧ ((zf ≠ 0 ∧ z = -10 - zf) ∨ (zf = 0 ∧ ∃ y how, X 0 0 3 ≤ y ∧ y < B 0 0 3 ∧ (∀ y', X 0 0 3 ≤ y' → y' < y → jdC B YB lB y' 0) ∧ how ≠ 0 ∧ jdC B YB lB y how ∧ z = -10 - how))))))) := by
  refine K_of (cc := cX8_restore) (maxL := 5) (ret := (some .int)) (by decide) rfl (Nat.le_of_ble_eq_true rfl) ?_
  intro p e s m below meth c ls hx hb hr hml hown hts hlocks hl hK hw hS
  have hown : s.vm.findClass RX8 = some m.cls := hown
  have hbs : base ≤ s.heap.size := wd_size hw
  obtain ⟨av9, hav9⟩ : ∃ a9 : Array Value, a9 = ([.ref (ad 0 0), .int (jI sv), .int (jI rule)] : List Value).toArray := ⟨_, rfl⟩
  rw [← hav9] at hts ⊢
  obtain ⟨Q9, hQ9⟩ : ∃ q9Q : State → Prop, q9Q = MQ below (QI D tc base (fun z u => ∃ (ad1 : Nat → Int → Nat) (cnt1 : Nat → Int) (X1 : Nat → Int → Int → Int) (Y1 : Nat → Int → Int → Option Int) (ln1 : Int → Int), u = (ad1, cnt1, X1, Y1, ln1) ∧ Ext ad cnt ln ad1 cnt1 ln1 ∧ Fx cnt1 ∧ Own cnt1 ∧ LnOK ln1 ∧ Rng X1 ∧ Frm [4, 1600, 2602, 2700, 3201, 3202, 3203, 3204] X X1 ∧ Frm [1501, 1700, 600] Y Y1 ∧ CInv cnt1 X1 Y1 ln1 ∧ (-2147483648 ≤ z ∧ z ≤ 2147483647) ∧ ((¬ (0 ≤ sv ∧ sv < 4 ∧ X 7 (tyo (Y 4 0 sv)) 0 ≠ 0) ∧ z = -1 ∧ X1 = X ∧ Y1 = Y ∧ cnt1 26 = cnt 26 ∧ ln1 = ln) ∨ ((0 ≤ sv ∧ sv < 4 ∧ X 7 (tyo (Y 4 0 sv)) 0 ≠ 0) ∧ ¬ (0 ≤ rule ∧ rule < 4) ∧ z = -2 ∧ X1 = X ∧ Y1 = Y ∧ cnt1 26 = cnt 26 ∧ ln1 = ln) ∨ ((0 ≤ sv ∧ sv < 4 ∧ X 7 (tyo (Y 4 0 sv)) 0 ≠ 0) ∧ (0 ≤ rule ∧ rule < 4) ∧ 30 < X 0 0 3 + X 7 (tyo (Y 4 0 sv)) 0 ∧ z = -4 ∧ X1 = X ∧ Y1 = Y ∧ cnt1 26 = cnt 26 ∧ ln1 = ln) ∨ ((0 ≤ sv ∧ sv < 4 ∧ X 7 (tyo (Y 4 0 sv)) 0 ≠ 0) ∧ (0 ≤ rule ∧ rule < 4) ∧ X 0 0 3 + X 7 (tyo (Y 4 0 sv)) 0 ≤ 30 ∧ ∃ (g : Int) (A B : Nat → Int → Int → Int) (YA YB : Nat → Int → Int → Option Int) (cB zf : Int) (lB : Int → Int), Y 4 0 sv = some g ∧ (A 0 0 3 = X 0 0 3 + X 7 g 0 ∧ (∀ r9, 0 ≤ r9 → r9 < X 7 g 0 → YA 15 (X 0 0 3 + r9) 0 = some (X 8 g r9) ∧ ∀ j, 0 ≤ j → j < X 19 (X 8 g r9) 1 → A 16 (X 0 0 3 + r9) j = X 22 (X 8 g r9) j ∧ YA 17 (X 0 0 3 + r9) j = none) ∧ (∀ y, y < X 0 0 3 → YA 15 y 0 = Y 15 y 0 ∧ ∀ j, A 16 y j = X 16 y j ∧ YA 17 y j = Y 17 y j) ∧ Frm [4, 1600] X A ∧ Frm [1501, 1700] Y YA) ∧ (∃ Yz : Nat → Int → Int → Option Int, Frm [600] YA Yz ∧ (∀ j, 0 ≤ j → j < 3 * A 7 g 6 → Yz 6 0 j = none) ∧ ((zf = 0 ∧ rTrC g (X 0 0 3) rule (A 7 g 0).toNat (cnt 26) A Yz ln (cB) B YB lB) ∨ (zf ≠ 0 ∧ ∃ (r k cA cP : Int) (XA XP : Nat → Int → Int → Int) (YA YP : Nat → Int → Int → Option Int) (lA lP : Int → Int), 0 ≤ r ∧ r < A 7 g 0 ∧ 0 ≤ k ∧ k < A 9 g r ∧ rTrC g (X 0 0 3) rule r.toNat (cnt 26) A Yz ln cA XA YA lA ∧ fTrC g r (X 0 0 3) rule k.toNat cA XA YA lA cP XP YP lP ∧ fvC XP YP (X 0 0 3 + r) g (5 * r + k) rule = zf ∧ cB = cP ∧ YB = YP ∧ lB = lP ∧ Frm [3201, 3202, 3203, 3204] XP B))) ∧ ((zf = 0 ∧ (∀ y, X 0 0 3 ≤ y → y < B 0 0 3 → jdC B YB lB y 0) ∧ z = X 0 0 3 ∧ Frm [3201, 3202, 3203, 3204] B X1 ∧ Y1 = YB ∧ cnt1 26 = cB ∧ ln1 = lB) ∨ (X1 0 0 3 = X 0 0 3 ∧ Frm [4, 3201, 3202, 3203, 3204] B X1 ∧ Y1 = YB ∧ cnt1 26 = cB ∧ ln1 = lB ∧ ((zf ≠ 0 ∧ z = -10 - zf) ∨ (zf = 0 ∧ ∃ y how, X 0 0 3 ≤ y ∧ y < B 0 0 3 ∧ (∀ y', X 0 0 3 ≤ y' → y' < y → jdC B YB lB y' 0) ∧ how ≠ 0 ∧ jdC B YB lB y how ∧ z = -10 - how)))))))) av9 s 300 2100 (frA base) := ⟨_, rfl⟩
  rw [← hQ9]
  obtain ⟨ad0, ha0⟩ : ∃ a, a = ad := ⟨_, rfl⟩
  obtain ⟨cnt0, hc0⟩ : ∃ a, a = cnt := ⟨_, rfl⟩
  obtain ⟨ln0, hl0⟩ : ∃ a, a = ln := ⟨_, rfl⟩
  have hE9 : ∀ a c n, Ext ad0 cnt0 ln0 a c n → Ext ad cnt ln a c n := by rw [ha0, hc0, hl0]; exact fun _ _ _ h => h
  have hE : Ext ad0 cnt0 ln0 ad cnt ln := by rw [ha0, hc0, hl0]; exact Ext.rf
  clear ha0 hc0 hl0
  have hi4 : ∀ w ∈ wsX40, w ∈ wsX8_restore := fun w h => List.mem_cons_of_mem _ (List.mem_append_left _ (List.mem_append_left _ (List.mem_append_left _ (List.mem_append_left _ (List.mem_append_left _ (List.mem_append_right _ h))))))
  have hf4 : fctx s m _ RX8 wsX8_restore D tc RX4 TX4 9 4 := ⟨hts, hi4, hown, hK.1, rfl⟩
  have hi8 : ∀ w ∈ wsX80, w ∈ wsX8_restore := fun w h => List.mem_cons_of_mem _ (List.mem_append_left _ (List.mem_append_left _ (List.mem_append_left _ (List.mem_append_left _ (List.mem_append_left _ (List.mem_append_left _ (List.mem_append_right _ h)))))))
  have hf8 : fctx s m _ RX8 wsX8_restore D tc RX8 TX8 12 8 := ⟨hts, hi8, hown, hK.1, rfl⟩
  have lk27 := hts (.fieldLink RX8 27 (TX8 5).1 (TX8 5).2.1 (TX8 5).2.2.1) (gj_X8_restore_0 _ (gp_h))
  have lk94 := hts (.fieldLink RX8 94 (TX8 3).1 (TX8 3).2.1 (TX8 3).2.2.1) (gj_X8_restore_0 _ (gp_1 (gp_1 gp_h)))
  have lk231 := hts (.fieldLink RX8 231 (TX4 0).1 (TX4 0).2.1 (TX4 0).2.2.1) (gj_X8_restore_0 _ (gp_1 gp_h))
  have hc0 : cnt 0 = 1 := hFx.at 0 1 (by decide)
  have hc4 : cnt 4 = 1 := hFx.at 4 1 (by decide)
  have hc7 : cnt 7 = 6 := hFx.at 7 6 (by decide)
  have hl : lv_has ls 5 [(0, .ref (ad 0 0)), (1, .int (jI sv)), (2, .int (jI rule))] := hl
  have ftc : 0 ≤ X 0 0 3 ∧ X 0 0 3 ≤ 30 := hR 0 0 3
  have fty : 0 ≤ X 0 0 1 ∧ X 0 0 1 ≤ 8 := hR 0 0 1
  have hct : cnt 19 = X 0 0 1 := hCI.2.2.2.1.1
  have hfj : 0 ≤ X 29 0 3 ∧ X 29 0 3 ≤ 4 := hR 29 0 3
  have hfn : 0 ≤ X 29 0 1 ∧ X 29 0 1 ≤ 80 := hR 29 0 1
  refine lv_iload_n hx hb dX8_restore_0 rfl (lv_at hl 1 rfl) ?_
  refine lv_iconst (v := jI 4) hx hb dX8_restore_1 rfl ?_
  refine gos_i (run_S (As := [.int (jI sv), .int (jI 4)]) (rest := []) hx hb hml hown hts (c_X8_isBelow l D tc base ad cnt X Y ln sv 4 (by omega) (by omega)) (cwS 2 hts gX8_restore_X8_isBelow rfl rfl rfl (by first | exact hd_X8_isBelow | decide +kernel) ⟨Nat.le_of_ble_eq_true rfl, Nat.le_of_ble_eq_true rfl⟩) hK hw rfl hl.1 rfl (Nat.le_of_ble_eq_true rfl) dX8_restore_2 ⟨(by show _ ≤ (300 : Nat); omega), (by show _ ≤ (2100 : Nat); omega)⟩) hS (fun z1 u2 H locs p3 hw hS => ?_)
  obtain ⟨eu2, p3⟩ := p3
  subst eu2
  rcases p3 with ⟨ez1, p3⟩ | ⟨ez1, p3⟩
  · subst ez1
    refine x_if_eqF (tgt := 20) hx hb (by omega) (by decide) dX8_restore_5 (by decide) ?_
    refine lv_aload_n hx hb dX8_restore_8 rfl (lv_at hl 0 rfl) ?_
    refine x_geto hx hb hf8 hw (by first | exact Int.le_refl 0 | omega) (by first | exact zlt hc0 | omega) sl_0_5 lk27 dX8_restore_9 ?_
    refine lv_iload_n hx hb dX8_restore_12 rfl (lv_at hl 1 rfl) ?_
    refine x_aald hx hb hK.1 hw (by first | exact Int.le_refl 0 | omega) (by first | exact zlt hc4 | omega) ar_4 rfl (len_E ar_4 (by first | exact Nat.ne_of_beq_eq_false rfl | decide)) (by omega) (by omega) (by omega) dX8_restore_13 (fun y4 => ?_) (fun r5 y4 gr5 lr5 => ?_)
    · exfalso
      exact absurd y4 (hCI.2.2.1.1 sv (by omega) (by omega))
    · refine x_geti (jz := 0) hx hb hf4 hw (by omega) (by omega) sl_7_0 rfl lk231 dX8_restore_14 ?_
      have f6 : 0 ≤ X 7 r5 0 ∧ X 7 r5 0 ≤ 30 := hR 7 r5 0
      refine x_if_ne (tgt := 22) hx hb (by omega) dX8_restore_17 (by decide) (fun c7 => ?_) (fun c7 => ?_)
      · refine lv_iload_n hx hb dX8_restore_22 rfl (lv_at hl 2 rfl) ?_
        refine lv_iconst (v := jI 4) hx hb dX8_restore_23 rfl ?_
        refine gos_i (run_S (As := [.int (jI rule), .int (jI 4)]) (rest := []) hx hb hml hown hts (c_X8_isBelow l D tc base ad cnt X Y ln rule 4 (by omega) (by omega)) (cwS 2 hts gX8_restore_X8_isBelow rfl rfl rfl (by first | exact hd_X8_isBelow | decide +kernel) ⟨Nat.le_of_ble_eq_true rfl, Nat.le_of_ble_eq_true rfl⟩) hK hw rfl hl.1 rfl (Nat.le_of_ble_eq_true rfl) dX8_restore_24 ⟨(by show _ ≤ (300 : Nat); omega), (by show _ ≤ (2100 : Nat); omega)⟩) hS (fun z8 u9 H locs p10 hw hS => ?_)
        obtain ⟨eu9, p10⟩ := p10
        subst eu9
        rcases p10 with ⟨ez8, p10⟩ | ⟨ez8, p10⟩
        · subst ez8
          refine x_if_neT (tgt := 33) hx hb (by omega) (by decide) dX8_restore_27 (by decide) ?_
          refine lv_aload_n hx hb dX8_restore_33 rfl (lv_at hl 0 rfl) ?_
          refine x_geti (jz := 3) hx hb hf8 hw (by first | exact Int.le_refl 0 | omega) (by first | exact zlt hc0 | omega) sl_0_3 rfl lk94 dX8_restore_34 ?_
          have f11 : 0 ≤ X 0 0 3 ∧ X 0 0 3 ≤ 30 := hR 0 0 3
          refine lv_istore_n (lv' := [(3, .int (jI (X 0 0 3))), (0, .ref (ad 0 0)), (1, .int (jI sv)), (2, .int (jI rule))]) hx hb dX8_restore_37 rfl hl (by decide) rfl (fun ls hl => ?_)
          refine lv_iload_n hx hb dX8_restore_38 rfl (lv_at hl 0 rfl) ?_
          refine lv_aload_n hx hb dX8_restore_39 rfl (lv_at hl 1 rfl) ?_
          refine x_geto hx hb hf8 hw (by first | exact Int.le_refl 0 | omega) (by first | exact zlt hc0 | omega) sl_0_5 lk27 dX8_restore_40 ?_
          refine lv_iload_n hx hb dX8_restore_43 rfl (lv_at hl 2 rfl) ?_
          refine x_aald hx hb hK.1 hw (by first | exact Int.le_refl 0 | omega) (by first | exact zlt hc4 | omega) ar_4 rfl (len_E ar_4 (by first | exact Nat.ne_of_beq_eq_false rfl | decide)) (by omega) (by omega) (by omega) dX8_restore_44 (fun y12 => ?_) (fun r13 y12 gr13 lr13 => ?_)
          · exfalso
            rw [y4] at y12; cases y12
          · have er13 : r13 = r5 := by rw [y4] at y12; cases y12; rfl
            rw [er13]
            refine x_geti (jz := 0) hx hb hf4 hw (by omega) (by omega) sl_7_0 rfl lk231 dX8_restore_45 ?_
            have f14 : 0 ≤ X 7 r5 0 ∧ X 7 r5 0 ≤ 30 := hR 7 r5 0
            refine x_iadd hx hb dX8_restore_48 ?_
            refine lv_bipush (v := jI 30) hx hb dX8_restore_49 (by decide) ?_
            refine x_icmp_le (tgt := 57) hx hb (by omega) (by omega) dX8_restore_51 (by decide) (fun c15 => ?_) (fun c15 => ?_)
            · refine lv_aload_n hx hb dX8_restore_57 rfl (lv_at hl 1 rfl) ?_
              refine lv_aload_n hx hb dX8_restore_58 rfl (lv_at hl 1 rfl) ?_
              refine x_geto hx hb hf8 hw (by first | exact Int.le_refl 0 | omega) (by first | exact zlt hc0 | omega) sl_0_5 lk27 dX8_restore_59 ?_
              refine lv_iload_n hx hb dX8_restore_62 rfl (lv_at hl 2 rfl) ?_
              refine x_aald hx hb hK.1 hw (by first | exact Int.le_refl 0 | omega) (by first | exact zlt hc4 | omega) ar_4 rfl (len_E ar_4 (by first | exact Nat.ne_of_beq_eq_false rfl | decide)) (by omega) (by omega) (by omega) dX8_restore_63 (fun y16 => ?_) (fun r17 y16 gr17 lr17 => ?_)
              · exfalso
                rw [y4] at y16; cases y16
              · have er17 : r17 = r5 := by rw [y4] at y16; cases y16; rfl
                rw [er17]
                refine gos_v (run_V (As := [.ref (ad 7 r5)]) (rest := []) hx hb hml hown hts (c_X8_addThings l D tc base ad cnt X Y ln hR hFx hLn hCI r5 (by omega) (by omega)) (cwV 1 hts gX8_restore_X8_addThings rfl rfl rfl (by first | exact hd_X8_addThings | decide +kernel) ⟨Nat.le_of_ble_eq_true rfl, Nat.le_of_ble_eq_true rfl⟩) hK hw (by first | exact Int.le_refl 0 | omega) (by first | exact zlt hc0 | omega) sl_0_0 rfl rfl hl.1 rfl (Nat.le_of_ble_eq_true rfl) dX8_restore_64 ⟨(by show _ ≤ (300 : Nat); omega), (by show _ ≤ (2100 : Nat); omega)⟩) hS (fun u19 H locs p20 hw hS => ?_)
                obtain ⟨X21, Y22, eu19, hRX21, hG23, hJ24, hCIX21, p20, htcX21, hnaX21, hoaX21⟩ := p20
                subst eu19
                have hFX21 : Frm [4, 1600, 2602, 2700, 3201, 3202, 3203, 3204] X X21 := Frm.tr Frm.rf (Frm.mono hG23 (by first | exact nls_of rfl | decide))
                have hHY22 : Frm [1501, 1700, 600] Y Y22 := Frm.tr Frm.rf (Frm.mono hJ24 (by first | exact nls_of rfl | decide))
                refine lv_aload_n hx hb dX8_restore_67 rfl (lv_at hl 1 rfl) ?_
                refine lv_aload_n hx hb dX8_restore_68 rfl (lv_at hl 1 rfl) ?_
                refine x_geto hx hb hf8 hw (by first | exact Int.le_refl 0 | omega) (by first | exact zlt hc0 | omega) sl_0_5 lk27 dX8_restore_69 ?_
                refine lv_iload_n hx hb dX8_restore_72 rfl (lv_at hl 2 rfl) ?_
                refine x_aald hx hb hK.1 hw (by first | exact Int.le_refl 0 | omega) (by first | exact zlt hc4 | omega) ar_4 rfl (len_E ar_4 (by first | exact Nat.ne_of_beq_eq_false rfl | decide)) (by omega) (by omega) (by omega) dX8_restore_73 (fun y25 => ?_) (fun r26 y25 gr26 lr26 => ?_)
                · exfalso
                  have e27 : ∀ p9 q9 : Int, Y22 4 p9 q9 = Y 4 p9 q9 := fun p9 q9 => by rw [hJ24 4 p9 q9 (show 400 ∉ [1501, 1700] by first | exact nlm_ni rfl | decide)]
                  rw [e27] at y25
                  rw [y4] at y25; cases y25
                · have e28 : ∀ p9 q9 : Int, Y22 4 p9 q9 = Y 4 p9 q9 := fun p9 q9 => by rw [hJ24 4 p9 q9 (show 400 ∉ [1501, 1700] by first | exact nlm_ni rfl | decide)]
                  rw [e28] at y25
                  have er26 : r26 = r5 := by rw [y4] at y25; cases y25; rfl
                  rw [er26]
                  refine lv_iload_n hx hb dX8_restore_74 rfl (lv_at hl 0 rfl) ?_
                  refine lv_iload_n hx hb dX8_restore_75 rfl (lv_at hl 3 rfl) ?_
                  have e29 : X21 7 r5 0 = X 7 r5 0 := by rw [hG23 7 r5 0 (show 701 ∉ [4, 1600] by first | exact nlm_ni rfl | decide)]
                  have q31 : Frm [4, 1600] X X21 := Frm.tr Frm.rf (Frm.mono hG23 (by first | exact nls_of rfl | decide))
                  have hRq30 : cRv X21 := hRv.frm q31 (by decide)
                  refine gos_i (run_V (As := [.ref (ad 7 r5), .int (jI (X 0 0 3)), .int (jI rule)]) (rest := []) hx hb hml hown hts (c_X8_fillThings l D tc base ad cnt X21 Y22 ln hRX21 hFx hLn hCIX21 hOw hN r5 (X 0 0 3) rule (by omega) (by simp only [e29]; omega) (by omega) hRq30) (cwV 3 hts gX8_restore_X8_fillThings rfl rfl rfl (by first | exact hd_X8_fillThings | decide +kernel) ⟨Nat.le_of_ble_eq_true rfl, Nat.le_of_ble_eq_true rfl⟩) hK hw (by first | exact Int.le_refl 0 | omega) (by first | exact zlt hc0 | omega) sl_0_0 rfl rfl hl.1 rfl (Nat.le_of_ble_eq_true rfl) dX8_restore_76 ⟨(by show _ ≤ (300 : Nat); omega), (by show _ ≤ (2100 : Nat); omega)⟩) hS (fun z32 u33 H locs p34 hw hS => ?_)
                  obtain ⟨ad, cnt, X35, Y36, ln, eu33, hE37, hFx, hOw, hLn, hRX35, hG38, hJ39, hCIX35, p34, hftX35⟩ := p34
                  subst eu33
                  have hFX35 : Frm [4, 1600, 2602, 2700, 3201, 3202, 3203, 3204] X X35 := Frm.tr hFX21 (Frm.mono hG38 (by first | exact nls_of rfl | decide))
                  have hHY36 : Frm [1501, 1700, 600] Y Y36 := Frm.tr hHY22 (Frm.mono hJ39 (by first | exact nls_of rfl | decide))
                  have hE := Ext.tr hE hE37
                  have hm40 := hE37.2.1 19
                  have hm41 := hE37.2.1 25
                  have hm42 := hE37.2.1 26
                  have hN : 0 ≤ cnt 25 ∧ 0 ≤ cnt 26 := by omega
                  have ha43 := hE37.1 0 0 (by omega) (by omega)
                  have hc0 : cnt 0 = 1 := hFx.at 0 1 (by decide)
                  have hc4 : cnt 4 = 1 := hFx.at 4 1 (by decide)
                  have hc7 : cnt 7 = 6 := hFx.at 7 6 (by decide)
                  have hl : lv_has ls 5 [(3, .int (jI (X 0 0 3))), (0, .ref (ad 0 0)), (1, .int (jI sv)), (2, .int (jI rule))] := by rw [ha43]; exact hl
                  refine W.eq (g2 := F0 m 79 ls [.int (jI z32)]) rfl ?_
                  refine lv_istore (lv' := [(4, .int (jI z32)), (3, .int (jI (X 0 0 3))), (0, .ref (ad 0 0)), (1, .int (jI sv)), (2, .int (jI rule))]) hx hb dX8_restore_79 hl (by decide) rfl (fun ls hl => ?_)
                  refine lv_iload hx hb dX8_restore_81 (lv_at hl 0 rfl) ?_
                  refine x_if_ne (tgt := 93) hx hb (by omega) dX8_restore_83 (by decide) (fun c44 => ?_) (fun c44 => ?_)
                  · refine lv_iload hx hb dX8_restore_93 (lv_at hl 0 rfl) ?_
                    refine x_if_eq (tgt := 109) hx hb (by omega) dX8_restore_95 (by decide) (fun c45 => ?_) (fun c45 => ?_)
                    · refine lv_iload_n hx hb dX8_restore_109 rfl (lv_at hl 1 rfl) ?_
                      rw [hQ9]
                      refine ret_i (mc := 300) (ms := 2100) hx hb hr hlocks hw hS (by first | exact Nat.le_of_ble_eq_true rfl | omega) (by first | exact Nat.le_of_ble_eq_true rfl | omega) dX8_restore_110 ?_
                      exact ⟨ad, cnt, X35, Y36, ln, rfl, hE9 _ _ _ hE, hFx, hOw, hLn, hRX35, hFX35, hHY36, hCIX35, by omega, (by exfalso; omega)⟩
                    · refine lv_aload_n hx hb dX8_restore_98 rfl (lv_at hl 2 rfl) ?_
                      refine lv_iload_n hx hb dX8_restore_99 rfl (lv_at hl 1 rfl) ?_
                      refine x_puti (jz := 3) hx hb hf8 ⟨tyX8_ok, nmX8⟩ hw hS (by first | exact Int.le_refl 0 | omega) (by first | exact zlt hc0 | omega) sl_0_3 rfl lk94 rfl (tyX8_ok 3 (by decide)) rfl rfl dX8_restore_100 (fun H locs hw hS => ?_)
                      obtain ⟨X46, hX46⟩ : ∃ Xq, Xq = u3 X35 0 0 3 (X 0 0 3) := ⟨_, rfl⟩
                      rw [← hX46] at hw
                      have hRX46 : Rng X46 := by rw [hX46]; exact rng_set hRX35 (show 0 ≤ (X 0 0 3) ∧ (X 0 0 3) ≤ 30 by omega)
                      have hVX46 : X46 0 0 3 = (X 0 0 3) := by rw [hX46]; exact u3_s _ _ _ _ _
                      have hFX46 : Frm [4, 1600, 2602, 2700, 3201, 3202, 3203, 3204] X X46 := by rw [hX46]; exact Frm.set hFX35 (show 4 ∈ [4, 1600, 2602, 2700, 3201, 3202, 3203, 3204] by first | exact nlm_in rfl | decide)
                      refine lv_iload hx hb dX8_restore_103 (lv_at hl 0 rfl) ?_
                      refine gos_i (run_S (As := [.int (jI z32)]) (rest := []) hx hb hml hown hts (c_X8_failed l D tc base ad cnt X46 Y36 ln z32 (by omega)) (cwS 1 hts gX8_restore_X8_failed rfl rfl rfl (by first | exact hd_X8_failed | decide +kernel) ⟨Nat.le_of_ble_eq_true rfl, Nat.le_of_ble_eq_true rfl⟩) hK hw rfl hl.1 rfl (Nat.le_of_ble_eq_true rfl) dX8_restore_105 ⟨(by show _ ≤ (300 : Nat); omega), (by show _ ≤ (2100 : Nat); omega)⟩) hS (fun z47 u48 H locs p49 hw hS => ?_)
                      obtain ⟨eu48, p49⟩ := p49
                      subst eu48
                      rw [hQ9]
                      refine ret_i (mc := 300) (ms := 2100) hx hb hr hlocks hw hS (by first | exact Nat.le_of_ble_eq_true rfl | omega) (by first | exact Nat.le_of_ble_eq_true rfl | omega) dX8_restore_108 ?_
                      have e50 : X35 0 0 3 = X21 0 0 3 := (by rw [hG38 0 0 3 (show 4 ∉ [1600, 2602, 2700, 3201, 3202, 3203, 3204] by first | exact nlm_ni rfl | decide)])
                      have q51 : Frm [4] X35 X46 := by rw [hX46]; exact Frm.set Frm.rf (show 4 ∈ [4] by first | exact nlm_in rfl | decide)
                      have q52 : Frm [4, 3201, 3202, 3203, 3204] X35 X46 := by rw [hX46]; exact Frm.set Frm.rf (show 4 ∈ [4, 3201, 3202, 3203, 3204] by first | exact nlm_in rfl | decide)
                      refine ⟨ad, cnt, X46, Y36, ln, rfl, hE9 _ _ _ hE, hFx, hOw, hLn, hRX46, hFX46, hHY36, ?g9p814, ?g9p815, ?g9p816⟩
                      case g9p814 => exact (cinv_things hCIX35 q51 (fun x9 a b c => by rw [hVX46] at b; rw [e50] at c; omega))
                      case g9p815 => omega
                      case g9p816 => exact Or.inr (Or.inr (Or.inr ⟨(by rw [tyo_some y4]; (try delta Hid at *); omega), (by (try delta Hid at *); omega), (by rw [tyo_some y4]; (try delta Hid at *); omega), r5, X21, X35, Y22, Y36, _, z32, _, y4, ⟨htcX21, hnaX21, hoaX21, hG23, hJ24⟩, hftX35, Or.inr ⟨hVX46, q52, rfl, rfl, rfl, Or.inl ⟨by omega, by omega⟩⟩⟩))
                  · refine lv_aload_n hx hb dX8_restore_86 rfl (lv_at hl 2 rfl) ?_
                    refine lv_iload_n hx hb dX8_restore_87 rfl (lv_at hl 1 rfl) ?_
                    refine gos_i (run_V (As := [.int (jI (X 0 0 3))]) (rest := []) hx hb hml hown hts (c_X8_judgeThings l D tc base ad cnt X35 Y36 ln hRX35 hFx hLn hCIX35 (X 0 0 3) (by omega)) (cwV 1 hts gX8_restore_X8_judgeThings rfl rfl rfl (by first | exact hd_X8_judgeThings | decide +kernel) ⟨Nat.le_of_ble_eq_true rfl, Nat.le_of_ble_eq_true rfl⟩) hK hw (by first | exact Int.le_refl 0 | omega) (by first | exact zlt hc0 | omega) sl_0_0 rfl rfl hl.1 rfl (Nat.le_of_ble_eq_true rfl) dX8_restore_88 ⟨(by show _ ≤ (300 : Nat); omega), (by show _ ≤ (2100 : Nat); omega)⟩) hS (fun z53 u54 H locs p55 hw hS => ?_)
                    obtain ⟨X56, eu54, hRX56, hG57, hCIX56, p55, hjtX56⟩ := p55
                    subst eu54
                    have hFX56 : Frm [4, 1600, 2602, 2700, 3201, 3202, 3203, 3204] X X56 := Frm.tr hFX35 (Frm.mono hG57 (by first | exact nls_of rfl | decide))
                    refine lv_istore (lv' := [(4, .int (jI z53)), (3, .int (jI (X 0 0 3))), (0, .ref (ad 0 0)), (1, .int (jI sv)), (2, .int (jI rule))]) hx hb dX8_restore_91 hl (by decide) rfl (fun ls hl => ?_)
                    refine lv_iload hx hb dX8_restore_93 (lv_at hl 0 rfl) ?_
                    refine x_if_eq (tgt := 109) hx hb (by omega) dX8_restore_95 (by decide) (fun c58 => ?_) (fun c58 => ?_)
                    · refine lv_iload_n hx hb dX8_restore_109 rfl (lv_at hl 1 rfl) ?_
                      rw [hQ9]
                      refine ret_i (mc := 300) (ms := 2100) hx hb hr hlocks hw hS (by first | exact Nat.le_of_ble_eq_true rfl | omega) (by first | exact Nat.le_of_ble_eq_true rfl | omega) dX8_restore_110 ?_
                      have q59 : Frm [3201, 3202, 3203, 3204] X35 X56 := Frm.tr Frm.rf (Frm.mono hG57 (by first | exact nls_of rfl | decide))
                      exact ⟨ad, cnt, X56, Y36, ln, rfl, hE9 _ _ _ hE, hFx, hOw, hLn, hRX56, hFX56, hHY36, hCIX56, by omega, Or.inr (Or.inr (Or.inr ⟨(by rw [tyo_some y4]; (try delta Hid at *); omega), (by (try delta Hid at *); omega), (by rw [tyo_some y4]; (try delta Hid at *); omega), r5, X21, X35, Y22, Y36, _, z32, _, y4, ⟨htcX21, hnaX21, hoaX21, hG23, hJ24⟩, hftX35, Or.inl ⟨by omega, (by rcases hjtX56 with ⟨-, q9⟩ | ⟨q9, -⟩; exact q9; exfalso; omega), by omega, q59, rfl, rfl, rfl⟩⟩))⟩
                    · refine lv_aload_n hx hb dX8_restore_98 rfl (lv_at hl 2 rfl) ?_
                      refine lv_iload_n hx hb dX8_restore_99 rfl (lv_at hl 1 rfl) ?_
                      refine x_puti (jz := 3) hx hb hf8 ⟨tyX8_ok, nmX8⟩ hw hS (by first | exact Int.le_refl 0 | omega) (by first | exact zlt hc0 | omega) sl_0_3 rfl lk94 rfl (tyX8_ok 3 (by decide)) rfl rfl dX8_restore_100 (fun H locs hw hS => ?_)
                      obtain ⟨X60, hX60⟩ : ∃ Xq, Xq = u3 X56 0 0 3 (X 0 0 3) := ⟨_, rfl⟩
                      rw [← hX60] at hw
                      have hRX60 : Rng X60 := by rw [hX60]; exact rng_set hRX56 (show 0 ≤ (X 0 0 3) ∧ (X 0 0 3) ≤ 30 by omega)
                      have hVX60 : X60 0 0 3 = (X 0 0 3) := by rw [hX60]; exact u3_s _ _ _ _ _
                      have hFX60 : Frm [4, 1600, 2602, 2700, 3201, 3202, 3203, 3204] X X60 := by rw [hX60]; exact Frm.set hFX56 (show 4 ∈ [4, 1600, 2602, 2700, 3201, 3202, 3203, 3204] by first | exact nlm_in rfl | decide)
                      refine lv_iload hx hb dX8_restore_103 (lv_at hl 0 rfl) ?_
                      refine gos_i (run_S (As := [.int (jI z53)]) (rest := []) hx hb hml hown hts (c_X8_failed l D tc base ad cnt X60 Y36 ln z53 (by omega)) (cwS 1 hts gX8_restore_X8_failed rfl rfl rfl (by first | exact hd_X8_failed | decide +kernel) ⟨Nat.le_of_ble_eq_true rfl, Nat.le_of_ble_eq_true rfl⟩) hK hw rfl hl.1 rfl (Nat.le_of_ble_eq_true rfl) dX8_restore_105 ⟨(by show _ ≤ (300 : Nat); omega), (by show _ ≤ (2100 : Nat); omega)⟩) hS (fun z61 u62 H locs p63 hw hS => ?_)
                      obtain ⟨eu62, p63⟩ := p63
                      subst eu62
                      rw [hQ9]
                      refine ret_i (mc := 300) (ms := 2100) hx hb hr hlocks hw hS (by first | exact Nat.le_of_ble_eq_true rfl | omega) (by first | exact Nat.le_of_ble_eq_true rfl | omega) dX8_restore_108 ?_
                      have e64 : X56 0 0 3 = X21 0 0 3 := (by rw [hG57 0 0 3 (show 4 ∉ [3201, 3202, 3203, 3204] by first | exact nlm_ni rfl | decide), hG38 0 0 3 (show 4 ∉ [1600, 2602, 2700, 3201, 3202, 3203, 3204] by first | exact nlm_ni rfl | decide)])
                      have q65 : Frm [4] X56 X60 := by rw [hX60]; exact Frm.set Frm.rf (show 4 ∈ [4] by first | exact nlm_in rfl | decide)
                      have q66 : Frm [4, 3201, 3202, 3203, 3204] X35 X56 := Frm.tr Frm.rf (Frm.mono hG57 (by first | exact nls_of rfl | decide))
                      have q67 : Frm [4, 3201, 3202, 3203, 3204] X35 X60 := by rw [hX60]; exact Frm.set q66 (show 4 ∈ [4, 3201, 3202, 3203, 3204] by first | exact nlm_in rfl | decide)
                      refine ⟨ad, cnt, X60, Y36, ln, rfl, hE9 _ _ _ hE, hFx, hOw, hLn, hRX60, hFX60, hHY36, ?g9p817, ?g9p818, ?g9p819⟩
                      case g9p817 => exact (cinv_things hCIX56 q65 (fun x9 a b c => by rw [hVX60] at b; rw [e64] at c; omega))
                      case g9p818 => omega
                      case g9p819 => exact Or.inr (Or.inr (Or.inr ⟨(by rw [tyo_some y4]; (try delta Hid at *); omega), (by (try delta Hid at *); omega), (by rw [tyo_some y4]; (try delta Hid at *); omega), r5, X21, X35, Y22, Y36, _, z32, _, y4, ⟨htcX21, hnaX21, hoaX21, hG23, hJ24⟩, hftX35, Or.inr ⟨hVX60, q67, rfl, rfl, rfl, Or.inr ⟨by omega, (by rcases hjtX56 with ⟨q9, -⟩ | ⟨q1, y9, q2, q3, q4, q5⟩; exfalso; omega; exact ⟨y9, z53, q2, q3, q4, by omega, q5, by omega⟩)⟩⟩⟩))
            · refine lv_bipush (v := jI (-4)) hx hb dX8_restore_54 (by decide) ?_
              rw [hQ9]
              refine ret_i (mc := 300) (ms := 2100) hx hb hr hlocks hw hS (by first | exact Nat.le_of_ble_eq_true rfl | omega) (by first | exact Nat.le_of_ble_eq_true rfl | omega) dX8_restore_56 ?_
              exact ⟨ad, cnt, X, Y, ln, rfl, hE9 _ _ _ hE, hFx, hOw, hLn, hR, Frm.rf, Frm.rf, hCI, by omega, Or.inr (Or.inr (Or.inl ⟨(by rw [tyo_some y4]; (try delta Hid at *); omega), (by (try delta Hid at *); omega), (by rw [tyo_some y4]; (try delta Hid at *); omega), by omega, rfl, rfl, rfl, rfl⟩))⟩
        · subst ez8
          refine x_if_neF (tgt := 33) hx hb (by omega) (by decide) dX8_restore_27 (by decide) ?_
          refine lv_bipush (v := jI (-2)) hx hb dX8_restore_30 (by decide) ?_
          rw [hQ9]
          refine ret_i (mc := 300) (ms := 2100) hx hb hr hlocks hw hS (by first | exact Nat.le_of_ble_eq_true rfl | omega) (by first | exact Nat.le_of_ble_eq_true rfl | omega) dX8_restore_32 ?_
          exact ⟨ad, cnt, X, Y, ln, rfl, hE9 _ _ _ hE, hFx, hOw, hLn, hR, Frm.rf, Frm.rf, hCI, by omega, Or.inr (Or.inl ⟨(by rw [tyo_some y4]; (try delta Hid at *); omega), (fun q9 => by (try delta Hid at *); omega), by omega, rfl, rfl, rfl, rfl⟩)⟩
      · refine lv_iconst (v := jI (-1)) hx hb dX8_restore_20 rfl ?_
        rw [hQ9]
        refine ret_i (mc := 300) (ms := 2100) hx hb hr hlocks hw hS (by first | exact Nat.le_of_ble_eq_true rfl | omega) (by first | exact Nat.le_of_ble_eq_true rfl | omega) dX8_restore_21 ?_
        exact ⟨ad, cnt, X, Y, ln, rfl, hE9 _ _ _ hE, hFx, hOw, hLn, hR, Frm.rf, Frm.rf, hCI, by omega, Or.inl ⟨(fun q9 => by rw [tyo_some y4] at q9; (try delta Hid at *); omega), by omega, rfl, rfl, rfl, rfl⟩⟩
  · subst ez1
    refine x_if_eqT (tgt := 20) hx hb (by omega) (by decide) dX8_restore_5 (by decide) ?_
    refine lv_iconst (v := jI (-1)) hx hb dX8_restore_20 rfl ?_
    rw [hQ9]
    refine ret_i (mc := 300) (ms := 2100) hx hb hr hlocks hw hS (by first | exact Nat.le_of_ble_eq_true rfl | omega) (by first | exact Nat.le_of_ble_eq_true rfl | omega) dX8_restore_21 ?_
    exact ⟨ad, cnt, X, Y, ln, rfl, hE9 _ _ _ hE, hFx, hOw, hLn, hR, Frm.rf, Frm.rf, hCI, by omega, Or.inl ⟨(fun q9 => by (try delta Hid at *); omega), by omega, rfl, rfl, rfl, rfl⟩⟩

