set_option maxHeartbeats 4000000 in
set_option maxRecDepth 100000 in
theorem c_X9_restore (l : Launch) (D : va_G) (tc : Nat → ClassId) (base : Nat) (ad : Nat → Int → Nat) (cnt : Nat → Int) (X : Nat → Int → Int → Int) (Y : Nat → Int → Int → Option Int) (ln : Int → Int) (hR : Rng X) (hFx : Fx cnt) (hMI : MInv X) (sv rule : Int) (hsv : -2147483648 ≤ sv ∧ sv ≤ 2147483647) (hrule : -2147483648 ≤ rule ∧ rule ≤ 2147483647) : KI l D tc base yX9_restore wsX9_restore ({ frames := 4, cells := 0, slots := 0, locals := 105 } : Room) [.ref (ad 40 0), .int (jI sv), .int (jI rule)] (ad, cnt, X, Y, ln) 0 0 (fun z u => ∃ X1 : Nat → Int → Int → Int, u = (ad, cnt, X1, Y, ln) ∧ Rng X1 ∧ Frm [4001, 4014, 5500, 5600, 4029, 6000, 5700, 5800, 5900, 8500, 4042, 4043, 4044] X X1 ∧ MInv X1 ∧ (-2147483648 ≤ z ∧ z ≤ 2147483647) ∧ ((¬ (0 ≤ sv ∧ sv < 4 ∧ X 70 0 sv ≠ 0) ∧ z = -1 ∧ Frm [4001] X X1) ∨ ((0 ≤ sv ∧ sv < 4 ∧ X 70 0 sv ≠ 0) ∧ ¬ (0 ≤ rule ∧ rule ≤ 3) ∧ z = -2 ∧ Frm [4001] X X1) ∨ ((0 ≤ sv ∧ sv < 4 ∧ X 70 0 sv ≠ 0) ∧ (0 ≤ rule ∧ rule ≤ 3) ∧ 30 < X 40 0 13 + X 70 0 sv ∧ z = -4 ∧ Frm [4001] X X1) ∨ ((0 ≤ sv ∧ sv < 4 ∧ X 70 0 sv ≠ 0) ∧ (0 ≤ rule ∧ rule ≤ 3) ∧ X 40 0 13 + X 70 0 sv ≤ 30 ∧ ∃ A : Nat → Int → Int → Int, rsI X A sv ∧ ((∃ B : Nat → Int → Int → Int, (Rng B ∧ MInv B) ∧ rTrM sv rule (X 40 0 13) (X 70 0 sv).toNat A B ∧ (((∀ r, 0 ≤ r → r < X 70 0 sv → jdM B (X 40 0 13 + r) 0) ∧ z = X 40 0 13 ∧ Frm [4029] B X1) ∨ (∃ r how, 0 ≤ r ∧ r < X 70 0 sv ∧ (∀ r', 0 ≤ r' → r' < r → jdM B (X 40 0 13 + r') 0) ∧ how ≠ 0 ∧ jdM B (X 40 0 13 + r) how ∧ z = -10 - how ∧ X1 40 0 13 = X 40 0 13 ∧ Frm [4014, 4029, 4042, 4043, 4044] B X1))) ∨ (∃ (r : Int) (B P : Nat → Int → Int → Int), 0 ≤ r ∧ r < X 70 0 sv ∧ rTrM sv rule (X 40 0 13) r.toNat A B ∧ fEndM sv r rule (X 40 0 13) z B P ∧ z ≠ 0 ∧ X1 40 0 13 = X 40 0 13 ∧ Frm [4014] P X1))))) := by
  refine K_of (cc := cX9_restore) (maxL := 8) (ret := (some .int)) (by decide) rfl (Nat.le_of_ble_eq_true rfl) ?_
  intro p e s m below meth c ls hx hb hr hml hown hts hlocks hl hK hw hS
  have hown : s.vm.findClass RX9 = some m.cls := hown
  obtain ⟨av9, hav9⟩ : ∃ a9 : Array Value, a9 = ([.ref (ad 40 0), .int (jI sv), .int (jI rule)] : List Value).toArray := ⟨_, rfl⟩
  rw [← hav9] at hts ⊢
  obtain ⟨Q9, hQ9⟩ : ∃ q : State → Prop, q = MQ below (QI D tc base (fun z u => ∃ X1 : Nat → Int → Int → Int, u = (ad, cnt, X1, Y, ln) ∧ Rng X1 ∧ Frm [4001, 4014, 5500, 5600, 4029, 6000, 5700, 5800, 5900, 8500, 4042, 4043, 4044] X X1 ∧ MInv X1 ∧ (-2147483648 ≤ z ∧ z ≤ 2147483647) ∧ ((¬ (0 ≤ sv ∧ sv < 4 ∧ X 70 0 sv ≠ 0) ∧ z = -1 ∧ Frm [4001] X X1) ∨ ((0 ≤ sv ∧ sv < 4 ∧ X 70 0 sv ≠ 0) ∧ ¬ (0 ≤ rule ∧ rule ≤ 3) ∧ z = -2 ∧ Frm [4001] X X1) ∨ ((0 ≤ sv ∧ sv < 4 ∧ X 70 0 sv ≠ 0) ∧ (0 ≤ rule ∧ rule ≤ 3) ∧ 30 < X 40 0 13 + X 70 0 sv ∧ z = -4 ∧ Frm [4001] X X1) ∨ ((0 ≤ sv ∧ sv < 4 ∧ X 70 0 sv ≠ 0) ∧ (0 ≤ rule ∧ rule ≤ 3) ∧ X 40 0 13 + X 70 0 sv ≤ 30 ∧ ∃ A : Nat → Int → Int → Int, rsI X A sv ∧ ((∃ B : Nat → Int → Int → Int, (Rng B ∧ MInv B) ∧ rTrM sv rule (X 40 0 13) (X 70 0 sv).toNat A B ∧ (((∀ r, 0 ≤ r → r < X 70 0 sv → jdM B (X 40 0 13 + r) 0) ∧ z = X 40 0 13 ∧ Frm [4029] B X1) ∨ (∃ r how, 0 ≤ r ∧ r < X 70 0 sv ∧ (∀ r', 0 ≤ r' → r' < r → jdM B (X 40 0 13 + r') 0) ∧ how ≠ 0 ∧ jdM B (X 40 0 13 + r) how ∧ z = -10 - how ∧ X1 40 0 13 = X 40 0 13 ∧ Frm [4014, 4029, 4042, 4043, 4044] B X1))) ∨ (∃ (r : Int) (B P : Nat → Int → Int → Int), 0 ≤ r ∧ r < X 70 0 sv ∧ rTrM sv rule (X 40 0 13) r.toNat A B ∧ fEndM sv r rule (X 40 0 13) z B P ∧ z ≠ 0 ∧ X1 40 0 13 = X 40 0 13 ∧ Frm [4014] P X1)))))) av9 s 0 0 (frA base) := ⟨_, rfl⟩
  rw [← hQ9]
  have hi9 : ∀ w ∈ wsX90, w ∈ wsX9_restore := fun w h => List.mem_cons_of_mem _ (List.mem_append_right _ h)
  have hf9 : fctx s m _ RX9 wsX9_restore D tc RX9 TX9 51 9 := ⟨hts, hi9, hown, hK.1, rfl⟩
  have lk13 := hts (.fieldLink RX9 13 (TX9 3).1 (TX9 3).2.1 (TX9 3).2.2.1) (gj_X9_restore_0 _ (gp_4 (gp_1 (gp_1 gp_h))))
  have lk23 := hts (.fieldLink RX9 23 (TX9 6).1 (TX9 6).2.1 (TX9 6).2.2.1) (gj_X9_restore_0 _ (gp_4 (gp_4 gp_h)))
  have lk45 := hts (.fieldLink RX9 45 (TX9 14).1 (TX9 14).2.1 (TX9 14).2.2.1) (gj_X9_restore_0 _ (gp_4 (gp_1 gp_h)))
  have lk48 := hts (.fieldLink RX9 48 (TX9 15).1 (TX9 15).2.1 (TX9 15).2.2.1) (gj_X9_restore_0 _ (gp_4 (gp_1 (gp_1 (gp_1 gp_h)))))
  have lk81 := hts (.fieldLink RX9 81 (TX9 29).1 (TX9 29).2.1 (TX9 29).2.2.1) (gj_X9_restore_0 _ (gp_1 gp_h))
  have lk84 := hts (.fieldLink RX9 84 (TX9 30).1 (TX9 30).2.1 (TX9 30).2.2.1) (gj_X9_restore_0 _ (gp_4 gp_h))
  have lk127 := hts (.fieldLink RX9 127 (TX9 44).1 (TX9 44).2.1 (TX9 44).2.2.1) (gj_X9_restore_0 _ (gp_1 (gp_1 (gp_1 gp_h))))
  have lk145 := hts (.fieldLink RX9 145 (TX9 0).1 (TX9 0).2.1 (TX9 0).2.2.1) (gj_X9_restore_0 _ (gp_h))
  have lk151 := hts (.fieldLink RX9 151 (TX9 13).1 (TX9 13).2.1 (TX9 13).2.2.1) (gj_X9_restore_0 _ (gp_1 (gp_1 gp_h)))
  have lk206 := hts (.fieldLink RX9 206 (TX9 28).1 (TX9 28).2.1 (TX9 28).2.2.1) (gj_X9_restore_0 _ (gp_4 (gp_4 (gp_1 gp_h))))
  have hc40 : cnt 40 = 1 := hFx.at 40 1 (by decide)
  have hc44 : cnt 44 = 1 := hFx.at 44 1 (by decide)
  have hc47 : cnt 47 = 1 := hFx.at 47 1 (by decide)
  have hc55 : cnt 55 = 1 := hFx.at 55 1 (by decide)
  have hc56 : cnt 56 = 1 := hFx.at 56 1 (by decide)
  have hc70 : cnt 70 = 1 := hFx.at 70 1 (by decide)
  have hc71 : cnt 71 = 1 := hFx.at 71 1 (by decide)
  have hc85 : cnt 85 = 1 := hFx.at 85 1 (by decide)
  have hl : lv_has ls 8 [(0, .ref (ad 40 0)), (1, .int (jI sv)), (2, .int (jI rule))] := hl
  have fstypes : 0 ≤ X 40 0 2 ∧ X 40 0 2 ≤ 8 := hR 40 0 2
  have fsthings : 0 ≤ X 40 0 13 ∧ X 40 0 13 ≤ 30 := hR 40 0 13
  have fsmarks : 0 ≤ X 40 0 20 ∧ X 40 0 20 ≤ 4 := hR 40 0 20
  have fsnotes : 0 ≤ X 40 0 22 ∧ X 40 0 22 ≤ 80 := hR 40 0 22
  refine lv_aload_n hx hb dX9_restore_0 rfl (lv_at hl 0 rfl) ?_
  refine lv_iconst (v := jI 0) hx hb dX9_restore_1 rfl ?_
  refine x_puti (jz := 0) hx hb hf9 ⟨tyX9_ok, nmX9⟩ hw hS (by first | exact Int.le_refl 0 | omega) (by first | exact zlt hc40 | omega) sl_40_0 rfl lk145 rfl (tyX9_ok 0 (by decide)) rfl rfl dX9_restore_2 (fun H locs hw hS => ?_)
  obtain ⟨X1, hX1⟩ : ∃ Xq, Xq = u3 X 40 0 0 0 := ⟨_, rfl⟩
  rw [← hX1] at hw
  have hRX1 : Rng X1 := by rw [hX1]; exact rng_set hR (show (-2147483648) ≤ 0 ∧ 0 ≤ 2147483647 by omega)
  have hVX1 : X1 40 0 0 = 0 := by rw [hX1]; exact u3_s _ _ _ _ _
  have hFX1 : Frm [4001, 4014, 5500, 5600, 4029, 6000, 5700, 5800, 5900, 8500, 4042, 4043, 4044] X X1 := by rw [hX1]; exact Frm.set Frm.rf (show 4001 ∈ [4001, 4014, 5500, 5600, 4029, 6000, 5700, 5800, 5900, 8500, 4042, 4043, 4044] by decide)
  refine lv_aload_n hx hb dX9_restore_5 rfl (lv_at hl 0 rfl) ?_
  refine lv_iload_n hx hb dX9_restore_6 rfl (lv_at hl 1 rfl) ?_
  refine gos_i (run_V (As := [.int (jI sv)]) (rest := []) hx hb hml hown hts (c_X9_isSave l D tc base ad cnt X1 Y ln hRX1 hFx sv (by omega)) (cwV 1 hts gX9_restore_X9_isSave rfl rfl rfl (by first | exact hd_X9_isSave | decide +kernel) ⟨Nat.le_of_ble_eq_true rfl, Nat.le_of_ble_eq_true rfl⟩) hK hw (by first | exact Int.le_refl 0 | omega) (by first | exact zlt hc40 | omega) sl_40_0 rfl rfl hl.1 rfl (Nat.le_of_ble_eq_true rfl) dX9_restore_7 ⟨Nat.le_of_ble_eq_true rfl, Nat.le_of_ble_eq_true rfl⟩) hS (fun z2 u3 H locs p4 hw hS => ?_)
  obtain ⟨eu3, p4⟩ := p4
  subst eu3
  rcases p4 with ⟨ez2, p4⟩ | ⟨ez2, p4⟩
  · subst ez2
    refine x_if_eqF (tgt := 22) hx hb (by omega) (by decide) dX9_restore_10 (by decide) ?_
    refine lv_aload_n hx hb dX9_restore_13 rfl (lv_at hl 0 rfl) ?_
    refine x_geto hx hb hf9 hw (by first | exact Int.le_refl 0 | omega) (by first | exact zlt hc40 | omega) sl_40_29 lk81 dX9_restore_14 ?_
    refine lv_iload_n hx hb dX9_restore_17 rfl (lv_at hl 1 rfl) ?_
    refine x_iald hx hb hK.1 hw (by first | exact Int.le_refl 0 | omega) (by first | exact zlt hc70 | omega) ar_70 (len_E ar_70 (by decide)) (by omega) (by omega) (by omega) dX9_restore_18 ?_
    have e5 : ∀ p9 q9 : Int, X1 70 p9 q9 = X 70 p9 q9 := fun p9 q9 => by rw [hX1, u3_k _ _ _ _ (by decide)]
    rw [e5 0 sv]
    have f6 : 0 ≤ X 70 0 sv ∧ X 70 0 sv ≤ 30 := hR 70 0 sv
    refine x_if_ne (tgt := 24) hx hb (by omega) dX9_restore_19 (by decide) (fun c7 => ?_) (fun c7 => ?_)
    · refine lv_iload_n hx hb dX9_restore_24 rfl (lv_at hl 2 rfl) ?_
      refine x_if_lt (tgt := 33) hx hb (by omega) dX9_restore_25 (by decide) (fun c8 => ?_) (fun c8 => ?_)
      · refine lv_bipush (v := jI (-2)) hx hb dX9_restore_33 (by decide) ?_
        rw [hQ9]
        refine ret_i (mc := 0) (ms := 0) hx hb hr hlocks hw hS (by first | exact Nat.le_of_ble_eq_true rfl | omega) (by first | exact Nat.le_of_ble_eq_true rfl | omega) dX9_restore_35 ?_
        have q10 : Frm [4001] X X1 := by rw [hX1]; exact Frm.set Frm.rf (show 4001 ∈ [4001] by decide)
        have hMq9 : MInv X1 := minv_frm hMI q10 (by decide)
        have q11 : Frm [4001] X X1 := by rw [hX1]; exact Frm.set Frm.rf (show 4001 ∈ [4001] by decide)
        exact ⟨X1, rfl, hRX1, hFX1, hMq9, by omega, Or.inr (Or.inl ⟨(by (try delta Hid at *); omega), (fun q => by (try delta Hid at *); omega), by omega, q11⟩)⟩
      · refine lv_iload_n hx hb dX9_restore_28 rfl (lv_at hl 2 rfl) ?_
        refine lv_iconst (v := jI 3) hx hb dX9_restore_29 rfl ?_
        refine x_icmp_le (tgt := 36) hx hb (by omega) (by omega) dX9_restore_30 (by decide) (fun c12 => ?_) (fun c12 => ?_)
        · refine lv_aload_n hx hb dX9_restore_36 rfl (lv_at hl 0 rfl) ?_
          refine x_geti (jz := 13) hx hb hf9 hw (by first | exact Int.le_refl 0 | omega) (by first | exact zlt hc40 | omega) sl_40_13 rfl lk151 dX9_restore_37 ?_
          have e13 : X1 40 0 13 = X 40 0 13 := by rw [hX1, u3_j _ _ _ _ (by decide)]
          rw [e13]
          have f14 : 0 ≤ X 40 0 13 ∧ X 40 0 13 ≤ 30 := hR 40 0 13
          refine lv_istore_n (lv' := [(3, .int (jI (X 40 0 13))), (0, .ref (ad 40 0)), (1, .int (jI sv)), (2, .int (jI rule))]) hx hb dX9_restore_40 rfl hl (by decide) rfl (fun ls hl => ?_)
          refine lv_aload_n hx hb dX9_restore_41 rfl (lv_at hl 1 rfl) ?_
          refine x_geto hx hb hf9 hw (by first | exact Int.le_refl 0 | omega) (by first | exact zlt hc40 | omega) sl_40_29 lk81 dX9_restore_42 ?_
          refine lv_iload_n hx hb dX9_restore_45 rfl (lv_at hl 2 rfl) ?_
          refine x_iald hx hb hK.1 hw (by first | exact Int.le_refl 0 | omega) (by first | exact zlt hc70 | omega) ar_70 (len_E ar_70 (by decide)) (by omega) (by omega) (by omega) dX9_restore_46 ?_
          have e15 : ∀ p9 q9 : Int, X1 70 p9 q9 = X 70 p9 q9 := fun p9 q9 => by rw [hX1, u3_k _ _ _ _ (by decide)]
          rw [e15 0 sv]
          have f16 : 0 ≤ X 70 0 sv ∧ X 70 0 sv ≤ 30 := hR 70 0 sv
          refine lv_istore (lv' := [(4, .int (jI (X 70 0 sv))), (3, .int (jI (X 40 0 13))), (0, .ref (ad 40 0)), (1, .int (jI sv)), (2, .int (jI rule))]) hx hb dX9_restore_47 hl (by decide) rfl (fun ls hl => ?_)
          refine lv_iload_n hx hb dX9_restore_49 rfl (lv_at hl 1 rfl) ?_
          refine lv_iload hx hb dX9_restore_50 (lv_at hl 0 rfl) ?_
          refine x_iadd hx hb dX9_restore_52 ?_
          refine lv_bipush (v := jI 30) hx hb dX9_restore_53 (by decide) ?_
          refine x_icmp_le (tgt := 61) hx hb (by omega) (by omega) dX9_restore_55 (by decide) (fun c17 => ?_) (fun c17 => ?_)
          · refine lv_iconst (v := jI 0) hx hb dX9_restore_61 rfl ?_
            refine lv_istore (lv' := [(5, .int (jI 0)), (4, .int (jI (X 70 0 sv))), (3, .int (jI (X 40 0 13))), (0, .ref (ad 40 0)), (1, .int (jI sv)), (2, .int (jI rule))]) hx hb dX9_restore_62 hl (by decide) rfl (fun ls hl => ?_)
            have lp64 : ∀ (nn : Nat) (k : Int) (Xa : Nat → Int → Int → Int) (H : Heap) (locs : List Loc) (ls : Array Slot), (450 - k) < (nn : Int) → (Rng Xa) → (Frm [8500] X1 Xa) → (0 ≤ k ∧ k ≤ 450) → (∀ j, 0 ≤ j → j < k → Xa 85 0 j = -1) → wd D tc base (ad, cnt, Xa, Y, ln) H → va_S (frA base) s.heap H locs → lv_has ls 8 [(0, .ref (ad 40 0)), (1, .int (jI sv)), (2, .int (jI rule)), (3, .int (jI (X 40 0 13))), (4, .int (jI (X 70 0 sv))), (5, .int (jI k))] → W p l e ({ frames := 4, cells := 0, slots := 0, locals := 105 } : Room) s m av9 below meth c H locs 0 0 Q9 (F0 m 64 ls []) := by
              intro nn
              induction nn with
              | zero => intro k Xa H locs ls hm hRXa hGXa hk hbk hw hS hl; exfalso; omega
              | succ nn ih64 =>
                intro k Xa H locs ls hm hRXa hGXa hk hbk hw hS hl
                have hFXa : Frm [4001, 4014, 5500, 5600, 4029, 6000, 5700, 5800, 5900, 8500, 4042, 4043, 4044] X Xa := Frm.tr hFX1 (Frm.mono hGXa (by decide))
                refine lv_iload hx hb dX9_restore_64 (lv_at hl 5 rfl) ?_
                refine lv_sipush (v := jI 450) hx hb dX9_restore_66 (by decide) ?_
                refine x_icmp_ge (tgt := 86) hx hb (by omega) (by omega) dX9_restore_69 (by decide) (fun c18 => ?_) (fun c18 => ?_)
                · refine lv_iconst (v := jI 0) hx hb dX9_restore_86 rfl ?_
                  refine lv_istore (lv' := [(5, .int (jI 0)), (0, .ref (ad 40 0)), (1, .int (jI sv)), (2, .int (jI rule)), (3, .int (jI (X 40 0 13))), (4, .int (jI (X 70 0 sv)))]) hx hb dX9_restore_87 hl (by decide) rfl (fun ls hl => ?_)
                  have lp89 : ∀ (nn : Nat) (r : Int) (Xb : Nat → Int → Int → Int) (H : Heap) (locs : List Loc) (ls : Array Slot), (30 - r) < (nn : Int) → (Rng Xb) → (Frm [5500, 5600] Xa Xb) → (0 ≤ r ∧ r ≤ 30) → (Old X Xb) → (New X Xb sv r) → (r ≤ X 70 0 sv) → wd D tc base (ad, cnt, Xb, Y, ln) H → va_S (frA base) s.heap H locs → lv_has ls 8 [(0, .ref (ad 40 0)), (1, .int (jI sv)), (2, .int (jI rule)), (3, .int (jI (X 40 0 13))), (4, .int (jI (X 70 0 sv))), (5, .int (jI r))] → W p l e ({ frames := 4, cells := 0, slots := 0, locals := 105 } : Room) s m av9 below meth c H locs 0 0 Q9 (F0 m 89 ls []) := by
                    intro nn
                    induction nn with
                    | zero => intro r Xb H locs ls hm hRXb hGXb hr0 hOl hNw hrn hw hS hl; exfalso; omega
                    | succ nn ih89 =>
                      intro r Xb H locs ls hm hRXb hGXb hr0 hOl hNw hrn hw hS hl
                      have hFXb : Frm [4001, 4014, 5500, 5600, 4029, 6000, 5700, 5800, 5900, 8500, 4042, 4043, 4044] X Xb := Frm.tr hFXa (Frm.mono hGXb (by decide))
                      refine lv_iload hx hb dX9_restore_89 (lv_at hl 5 rfl) ?_
                      refine lv_iload hx hb dX9_restore_91 (lv_at hl 4 rfl) ?_
                      refine x_icmp_ge (tgt := 174) hx hb (by omega) (by omega) dX9_restore_93 (by decide) (fun c19 => ?_) (fun c19 => ?_)
                      · refine lv_aload_n hx hb dX9_restore_174 rfl (lv_at hl 0 rfl) ?_
                        refine lv_dup hx hb dX9_restore_175 rfl ?_
                        refine x_geti (jz := 13) hx hb hf9 hw (by first | exact Int.le_refl 0 | omega) (by first | exact zlt hc40 | omega) sl_40_13 rfl lk151 dX9_restore_176 ?_
                        have e20 : Xb 40 0 13 = X 40 0 13 := by rw [hGXb 40 0 13 (show 4014 ∉ [5500, 5600] by decide), hGXa 40 0 13 (show 4014 ∉ [8500] by decide), hX1, u3_j _ _ _ _ (by decide)]
                        rw [e20]
                        have f21 : 0 ≤ X 40 0 13 ∧ X 40 0 13 ≤ 30 := hR 40 0 13
                        refine lv_iload hx hb dX9_restore_179 (lv_at hl 4 rfl) ?_
                        refine x_iadd hx hb dX9_restore_181 ?_
                        refine x_puti (jz := 13) hx hb hf9 ⟨tyX9_ok, nmX9⟩ hw hS (by first | exact Int.le_refl 0 | omega) (by first | exact zlt hc40 | omega) sl_40_13 rfl lk151 rfl (tyX9_ok 13 (by decide)) rfl rfl dX9_restore_182 (fun H locs hw hS => ?_)
                        obtain ⟨X22, hX22⟩ : ∃ Xq, Xq = u3 Xb 40 0 13 ((X 40 0 13) + (X 70 0 sv)) := ⟨_, rfl⟩
                        rw [← hX22] at hw
                        have hRX22 : Rng X22 := by rw [hX22]; exact rng_set hRXb (show 0 ≤ ((X 40 0 13) + (X 70 0 sv)) ∧ ((X 40 0 13) + (X 70 0 sv)) ≤ 30 by omega)
                        have hVX22 : X22 40 0 13 = ((X 40 0 13) + (X 70 0 sv)) := by rw [hX22]; exact u3_s _ _ _ _ _
                        have hFX22 : Frm [4001, 4014, 5500, 5600, 4029, 6000, 5700, 5800, 5900, 8500, 4042, 4043, 4044] X X22 := by rw [hX22]; exact Frm.set hFXb (show 4014 ∈ [4001, 4014, 5500, 5600, 4029, 6000, 5700, 5800, 5900, 8500, 4042, 4043, 4044] by decide)
                        refine lv_iconst (v := jI 0) hx hb dX9_restore_185 rfl ?_
                        refine lv_istore (lv' := [(5, .int (jI 0)), (0, .ref (ad 40 0)), (1, .int (jI sv)), (2, .int (jI rule)), (3, .int (jI (X 40 0 13))), (4, .int (jI (X 70 0 sv)))]) hx hb dX9_restore_186 hl (by decide) rfl (fun ls hl => ?_)
                        have lp188 : ∀ (nn : Nat) (r : Int) (Xd : Nat → Int → Int → Int) (H : Heap) (locs : List Loc) (ls : Array Slot), (30 - r) < (nn : Int) → (Rng Xd) → (Frm [5600, 6000, 5700, 5800, 5900, 8500, 4042, 4043, 4044] X22 Xd) → (0 ≤ r ∧ r ≤ 30) → (MInv Xd) → (Old X Xd) → (rTrM sv rule (X 40 0 13) r.toNat X22 Xd) → (r ≤ X 70 0 sv) → (rsI X X22 sv) → wd D tc base (ad, cnt, Xd, Y, ln) H → va_S (frA base) s.heap H locs → lv_has ls 8 [(0, .ref (ad 40 0)), (1, .int (jI sv)), (2, .int (jI rule)), (3, .int (jI (X 40 0 13))), (4, .int (jI (X 70 0 sv))), (5, .int (jI r))] → W p l e ({ frames := 4, cells := 0, slots := 0, locals := 105 } : Room) s m av9 below meth c H locs 0 0 Q9 (F0 m 188 ls []) := by
                          intro nn
                          induction nn with
                          | zero => intro r Xd H locs ls hm hRXd hGXd hr0 hMIXd hOd hTr hrn hgI hw hS hl; exfalso; omega
                          | succ nn ih188 =>
                            intro r Xd H locs ls hm hRXd hGXd hr0 hMIXd hOd hTr hrn hgI hw hS hl
                            have hFXd : Frm [4001, 4014, 5500, 5600, 4029, 6000, 5700, 5800, 5900, 8500, 4042, 4043, 4044] X Xd := Frm.tr hFX22 (Frm.mono hGXd (by decide))
                            refine lv_iload hx hb dX9_restore_188 (lv_at hl 5 rfl) ?_
                            refine lv_iload hx hb dX9_restore_190 (lv_at hl 4 rfl) ?_
                            refine x_icmp_ge (tgt := 225) hx hb (by omega) (by omega) dX9_restore_192 (by decide) (fun c23 => ?_) (fun c23 => ?_)
                            · refine lv_iconst (v := jI 0) hx hb dX9_restore_225 rfl ?_
                              refine lv_istore (lv' := [(5, .int (jI 0)), (0, .ref (ad 40 0)), (1, .int (jI sv)), (2, .int (jI rule)), (3, .int (jI (X 40 0 13))), (4, .int (jI (X 70 0 sv)))]) hx hb dX9_restore_226 hl (by decide) rfl (fun ls hl => ?_)
                              have lp228 : ∀ (nn : Nat) (rj : Int) (Xe : Nat → Int → Int → Int) (H : Heap) (locs : List Loc) (ls : Array Slot), (30 - rj) < (nn : Int) → (Rng Xe) → (Frm [4029] Xd Xe) → (0 ≤ rj ∧ rj ≤ 30) → (MInv Xe) → (∀ r', 0 ≤ r' → r' < rj → jdM Xd (X 40 0 13 + r') 0) → (rj ≤ X 70 0 sv) → (Frm [4029] Xd Xe) → wd D tc base (ad, cnt, Xe, Y, ln) H → va_S (frA base) s.heap H locs → lv_has ls 8 [(0, .ref (ad 40 0)), (1, .int (jI sv)), (2, .int (jI rule)), (3, .int (jI (X 40 0 13))), (4, .int (jI (X 70 0 sv))), (5, .int (jI rj))] → W p l e ({ frames := 4, cells := 0, slots := 0, locals := 105 } : Room) s m av9 below meth c H locs 0 0 Q9 (F0 m 228 ls []) := by
                                intro nn
                                induction nn with
                                | zero => intro rj Xe H locs ls hm hRXe hGXe hr0 hMIXe hjd hrn2 hGe hw hS hl; exfalso; omega
                                | succ nn ih228 =>
                                  intro rj Xe H locs ls hm hRXe hGXe hr0 hMIXe hjd hrn2 hGe hw hS hl
                                  have hFXe : Frm [4001, 4014, 5500, 5600, 4029, 6000, 5700, 5800, 5900, 8500, 4042, 4043, 4044] X Xe := Frm.tr hFXd (Frm.mono hGXe (by decide))
                                  refine lv_iload hx hb dX9_restore_228 (lv_at hl 5 rfl) ?_
                                  refine lv_iload hx hb dX9_restore_230 (lv_at hl 4 rfl) ?_
                                  refine x_icmp_ge (tgt := 275) hx hb (by omega) (by omega) dX9_restore_232 (by decide) (fun c24 => ?_) (fun c24 => ?_)
                                  · refine lv_iload_n hx hb dX9_restore_275 rfl (lv_at hl 3 rfl) ?_
                                    rw [hQ9]
                                    refine ret_i (mc := 0) (ms := 0) hx hb hr hlocks hw hS (by first | exact Nat.le_of_ble_eq_true rfl | omega) (by first | exact Nat.le_of_ble_eq_true rfl | omega) dX9_restore_276 ?_
                                    exact ⟨Xe, rfl, hRXe, hFXe, hMIXe, by omega, Or.inr (Or.inr (Or.inr ⟨(by (try delta Hid at *); omega), (by (try delta Hid at *); omega), by omega, _, hgI, Or.inl ⟨Xd, ⟨hRXd, hMIXd⟩, (by rw [show X 70 0 sv = r by omega]; exact hTr), Or.inl ⟨fun r9 a b => hjd r9 a (by omega), by omega, hGe⟩⟩⟩))⟩
                                  · refine lv_aload_n hx hb dX9_restore_235 rfl (lv_at hl 0 rfl) ?_
                                    refine lv_iload_n hx hb dX9_restore_236 rfl (lv_at hl 3 rfl) ?_
                                    refine lv_iload hx hb dX9_restore_237 (lv_at hl 5 rfl) ?_
                                    refine x_iadd hx hb dX9_restore_239 ?_
                                    have e25 : Xe 40 0 13 = X22 40 0 13 := by rw [hGXe 40 0 13 (show 4014 ∉ [4029] by decide), hGXd 40 0 13 (show 4014 ∉ [5600, 6000, 5700, 5800, 5900, 8500, 4042, 4043, 4044] by decide)]
                                    refine gos_i (run_V (As := [.int (jI ((X 40 0 13) + rj))]) (rest := []) hx hb hml hown hts (c_X9_judged l D tc base ad cnt Xe Y ln hRXe hFx hMIXe ((X 40 0 13) + rj) (by omega) (by simp only [e25]; omega)) (cwV 1 hts gX9_restore_X9_judged rfl rfl rfl (by first | exact hd_X9_judged | decide +kernel) ⟨Nat.le_of_ble_eq_true rfl, Nat.le_of_ble_eq_true rfl⟩) hK hw (by first | exact Int.le_refl 0 | omega) (by first | exact zlt hc40 | omega) sl_40_0 rfl rfl hl.1 rfl (Nat.le_of_ble_eq_true rfl) dX9_restore_240 ⟨Nat.le_of_ble_eq_true rfl, Nat.le_of_ble_eq_true rfl⟩) hS (fun z26 u27 H locs p28 hw hS => ?_)
                                    obtain ⟨X29, eu27, hRX29, hG30, hMIX29, p28, hjdX29⟩ := p28
                                    subst eu27
                                    have hFX29 : Frm [4001, 4014, 5500, 5600, 4029, 6000, 5700, 5800, 5900, 8500, 4042, 4043, 4044] X X29 := Frm.tr hFXe (Frm.mono hG30 (by decide))
                                    refine lv_istore (lv' := [(6, .int (jI z26)), (0, .ref (ad 40 0)), (1, .int (jI sv)), (2, .int (jI rule)), (3, .int (jI (X 40 0 13))), (4, .int (jI (X 70 0 sv))), (5, .int (jI rj))]) hx hb dX9_restore_243 hl (by decide) rfl (fun ls hl => ?_)
                                    refine lv_iload hx hb dX9_restore_245 (lv_at hl 0 rfl) ?_
                                    refine x_if_eq (tgt := 269) hx hb (by omega) dX9_restore_247 (by decide) (fun c31 => ?_) (fun c31 => ?_)
                                    · refine lv_iinc (v := jI (rj + 1)) (lv' := [(5, .int (jI (rj + 1))), (6, .int (jI z26)), (0, .ref (ad 40 0)), (1, .int (jI sv)), (2, .int (jI rule)), (3, .int (jI (X 40 0 13))), (4, .int (jI (X 70 0 sv)))]) hx hb dX9_restore_269 hl (k := 6) rfl (jI_add _ _) (by decide) rfl (fun ls hl => ?_)
                                      refine lv_goto (tgt := 228) hx hb dX9_restore_272 (by decide) ?_
                                      have q32 : Frm [4029] Xd Xe := Frm.tr Frm.rf (Frm.mono hGXe (by decide))
                                      have q33 : Frm [4029] Xd X29 := Frm.tr q32 (Frm.mono hG30 (by decide))
                                      have q34 : Frm [4029] Xd Xe := Frm.tr Frm.rf (Frm.mono hGXe (by decide))
                                      have q35 : Frm [4029] Xd X29 := Frm.tr q34 (Frm.mono hG30 (by decide))
                                      exact ih228 (rj + 1) X29 _ _ _ (by omega) hRX29 q33 (by omega) (hMIX29) (fun r' a b => if hr9 : r' = rj then (by rw [hr9]; exact jdM.from (L := [4029]) (by have h9 := hjdX29; rw [show z26 = 0 by omega] at h9; exact h9) hGe (by decide)) else hjd r' a (by omega)) (by omega) (q35) hw hS (lv_sub hl [2, 3, 4, 5, 6, 0] rfl)
                                    · refine lv_aload_n hx hb dX9_restore_250 rfl (lv_at hl 1 rfl) ?_
                                      refine lv_iload_n hx hb dX9_restore_251 rfl (lv_at hl 4 rfl) ?_
                                      refine x_puti (jz := 13) hx hb hf9 ⟨tyX9_ok, nmX9⟩ hw hS (by first | exact Int.le_refl 0 | omega) (by first | exact zlt hc40 | omega) sl_40_13 rfl lk151 rfl (tyX9_ok 13 (by decide)) rfl rfl dX9_restore_252 (fun H locs hw hS => ?_)
                                      obtain ⟨X36, hX36⟩ : ∃ Xq, Xq = u3 X29 40 0 13 (X 40 0 13) := ⟨_, rfl⟩
                                      rw [← hX36] at hw
                                      have hRX36 : Rng X36 := by rw [hX36]; exact rng_set hRX29 (show 0 ≤ (X 40 0 13) ∧ (X 40 0 13) ≤ 30 by omega)
                                      have hVX36 : X36 40 0 13 = (X 40 0 13) := by rw [hX36]; exact u3_s _ _ _ _ _
                                      have hFX36 : Frm [4001, 4014, 5500, 5600, 4029, 6000, 5700, 5800, 5900, 8500, 4042, 4043, 4044] X X36 := by rw [hX36]; exact Frm.set hFX29 (show 4014 ∈ [4001, 4014, 5500, 5600, 4029, 6000, 5700, 5800, 5900, 8500, 4042, 4043, 4044] by decide)
                                      refine lv_aload_n hx hb dX9_restore_255 rfl (lv_at hl 1 rfl) ?_
                                      refine lv_iload hx hb dX9_restore_256 (lv_at hl 0 rfl) ?_
                                      refine lv_iload hx hb dX9_restore_258 (lv_at hl 6 rfl) ?_
                                      refine lv_iconst (v := jI (-1)) hx hb dX9_restore_260 rfl ?_
                                      refine lv_aload_n hx hb dX9_restore_261 rfl (lv_at hl 1 rfl) ?_
                                      refine x_geti (jz := 28) hx hb hf9 hw (by first | exact Int.le_refl 0 | omega) (by first | exact zlt hc40 | omega) sl_40_28 rfl lk206 dX9_restore_262 ?_
                                      have e37 : X36 40 0 28 = X29 40 0 28 := by rw [hX36, u3_j _ _ _ _ (by decide)]
                                      rw [e37]
                                      have f38 : 0 ≤ X29 40 0 28 ∧ X29 40 0 28 ≤ 3 := hRX29 40 0 28
                                      have q40 : Frm [4014, 4029] Xd Xe := Frm.tr Frm.rf (Frm.mono hGXe (by decide))
                                      have q41 : Frm [4014, 4029] Xd X29 := Frm.tr q40 (Frm.mono hG30 (by decide))
                                      have q42 : Frm [4014, 4029] Xd X36 := by rw [hX36]; exact Frm.set q41 (show 4014 ∈ [4014, 4029] by decide)
                                      have hMb39 : MInv X36 := minv_rst_back hMI hR hFX36 (hOd.frm q42 (by decide)) hVX36
                                      refine gos_i (run_V (As := [.int (jI z26), .int (jI rj), .int (jI (-1)), .int (jI (X29 40 0 28))]) (rest := []) hx hb hml hown hts (c_X9_faulty l D tc base ad cnt X36 Y ln hRX36 hFx hMb39 z26 rj (-1) (X29 40 0 28) (by omega) (by omega) (by omega) (by omega)) (cwV 4 hts gX9_restore_X9_faulty rfl rfl rfl (by first | exact hd_X9_faulty | decide +kernel) ⟨Nat.le_of_ble_eq_true rfl, Nat.le_of_ble_eq_true rfl⟩) hK hw (by first | exact Int.le_refl 0 | omega) (by first | exact zlt hc40 | omega) sl_40_0 rfl rfl hl.1 rfl (Nat.le_of_ble_eq_true rfl) dX9_restore_265 ⟨Nat.le_of_ble_eq_true rfl, Nat.le_of_ble_eq_true rfl⟩) hS (fun z43 u44 H locs p45 hw hS => ?_)
                                      obtain ⟨X46, eu44, hRX46, hG47, hMIX46, p45⟩ := p45
                                      subst eu44
                                      have hFX46 : Frm [4001, 4014, 5500, 5600, 4029, 6000, 5700, 5800, 5900, 8500, 4042, 4043, 4044] X X46 := Frm.tr hFX36 (Frm.mono hG47 (by decide))
                                      rw [hQ9]
                                      refine ret_i (mc := 0) (ms := 0) hx hb hr hlocks hw hS (by first | exact Nat.le_of_ble_eq_true rfl | omega) (by first | exact Nat.le_of_ble_eq_true rfl | omega) dX9_restore_268 ?_
                                      have q48 : Frm [4014, 4029, 4042, 4043, 4044] Xd Xe := Frm.tr Frm.rf (Frm.mono hGXe (by decide))
                                      have q49 : Frm [4014, 4029, 4042, 4043, 4044] Xd X29 := Frm.tr q48 (Frm.mono hG30 (by decide))
                                      have q50 : Frm [4014, 4029, 4042, 4043, 4044] Xd X36 := by rw [hX36]; exact Frm.set q49 (show 4014 ∈ [4014, 4029, 4042, 4043, 4044] by decide)
                                      have q51 : Frm [4014, 4029, 4042, 4043, 4044] Xd X46 := Frm.tr q50 (Frm.mono hG47 (by decide))
                                      exact ⟨X46, rfl, hRX46, hFX46, hMIX46, by omega, Or.inr (Or.inr (Or.inr ⟨(by (try delta Hid at *); omega), (by (try delta Hid at *); omega), by omega, _, hgI, Or.inl ⟨Xd, ⟨hRXd, hMIXd⟩, (by rw [show X 70 0 sv = r by omega]; exact hTr) , Or.inr ⟨rj, z26, by omega, by omega, hjd, by omega, jdM.from (L := [4029]) hjdX29 hGe (by decide), by omega, (by rw [hG47 40 0 13 (show 4014 ∉ [4042, 4043, 4044] by decide)]; exact hVX36), q51⟩⟩⟩))⟩
                              exact lp228 (30 - 0 : Int).toNat.succ 0 Xd _ _ _ (by omega) hRXd Frm.rf (by omega) (hMIXd) (fun r' a b => by omega) (by omega) (Frm.rf) hw hS (lv_sub hl [1, 2, 3, 4, 5, 0] rfl)
                            · refine lv_aload_n hx hb dX9_restore_195 rfl (lv_at hl 0 rfl) ?_
                              refine lv_iload_n hx hb dX9_restore_196 rfl (lv_at hl 1 rfl) ?_
                              refine lv_iload hx hb dX9_restore_197 (lv_at hl 5 rfl) ?_
                              refine lv_iload_n hx hb dX9_restore_199 rfl (lv_at hl 2 rfl) ?_
                              refine lv_iload_n hx hb dX9_restore_200 rfl (lv_at hl 3 rfl) ?_
                              have e52 : ∀ j : Int, Xd 70 0 j = X 70 0 j := fun j => by rw [hGXd 70 0 j (show 7000 ∉ [5600, 6000, 5700, 5800, 5900, 8500, 4042, 4043, 4044] by decide), hX22, u3_k _ _ _ _ (by decide), hGXb 70 0 j (show 7000 ∉ [5500, 5600] by decide), hGXa 70 0 j (show 7000 ∉ [8500] by decide), hX1, u3_k _ _ _ _ (by decide)]
                              have e53 : Xd 40 0 13 = X22 40 0 13 := by rw [hGXd 40 0 13 (show 4014 ∉ [5600, 6000, 5700, 5800, 5900, 8500, 4042, 4043, 4044] by decide)]
                              have e54 : Xd 55 0 (X 40 0 13 + r) = X 71 0 (30 * sv + r) := (by rw [hGXd 55 0 (X 40 0 13 + r) (show 5500 ∉ [5600, 6000, 5700, 5800, 5900, 8500, 4042, 4043, 4044] by decide), hX22, u3_k _ _ _ _ (by decide)]; exact (hNw r (by omega) (by omega)).1)
                              refine gos_i (run_V (As := [.int (jI sv), .int (jI r), .int (jI rule), .int (jI (X 40 0 13))]) (rest := []) hx hb hml hown hts (c_X9_fieldsBack l D tc base ad cnt Xd Y ln hRXd hFx hMIXd sv r rule (X 40 0 13) (by omega) (by simp only [e52, e53]; omega) (by omega) (by omega) (by simp only [e52, e53]; omega) (by rw [e54]; exact (show Xd 71 0 (30 * sv + r) = X 71 0 (30 * sv + r) from (by rw [hGXd 71 0 (30 * sv + r) (show 7100 ∉ [5600, 6000, 5700, 5800, 5900, 8500, 4042, 4043, 4044] by decide), hX22, u3_k _ _ _ _ (by decide), hGXb 71 0 (30 * sv + r) (show 7100 ∉ [5500, 5600] by decide), hGXa 71 0 (30 * sv + r) (show 7100 ∉ [8500] by decide), hX1, u3_k _ _ _ _ (by decide)])).symm)) (cwV 4 hts gX9_restore_X9_fieldsBack rfl rfl rfl (by first | exact hd_X9_fieldsBack | decide +kernel) ⟨Nat.le_of_ble_eq_true rfl, Nat.le_of_ble_eq_true rfl⟩) hK hw (by first | exact Int.le_refl 0 | omega) (by first | exact zlt hc40 | omega) sl_40_0 rfl rfl hl.1 rfl (Nat.le_of_ble_eq_true rfl) dX9_restore_201 ⟨Nat.le_of_ble_eq_true rfl, Nat.le_of_ble_eq_true rfl⟩) hS (fun z55 u56 H locs p57 hw hS => ?_)
                              obtain ⟨X58, eu56, hRX58, hG59, hMIX58, p57, hloX58, hfeX58⟩ := p57
                              subst eu56
                              have hFX58 : Frm [4001, 4014, 5500, 5600, 4029, 6000, 5700, 5800, 5900, 8500, 4042, 4043, 4044] X X58 := Frm.tr hFXd (Frm.mono hG59 (by decide))
                              have hOlX58 : Old X X58 := hOd.lo hG59 (by decide) hloX58
                              refine lv_istore (lv' := [(6, .int (jI z55)), (0, .ref (ad 40 0)), (1, .int (jI sv)), (2, .int (jI rule)), (3, .int (jI (X 40 0 13))), (4, .int (jI (X 70 0 sv))), (5, .int (jI r))]) hx hb dX9_restore_204 hl (by decide) rfl (fun ls hl => ?_)
                              refine lv_iload hx hb dX9_restore_206 (lv_at hl 0 rfl) ?_
                              refine x_if_eq (tgt := 219) hx hb (by omega) dX9_restore_208 (by decide) (fun c60 => ?_) (fun c60 => ?_)
                              · refine lv_iinc (v := jI (r + 1)) (lv' := [(5, .int (jI (r + 1))), (6, .int (jI z55)), (0, .ref (ad 40 0)), (1, .int (jI sv)), (2, .int (jI rule)), (3, .int (jI (X 40 0 13))), (4, .int (jI (X 70 0 sv)))]) hx hb dX9_restore_219 hl (k := 6) rfl (jI_add _ _) (by decide) rfl (fun ls hl => ?_)
                                refine lv_goto (tgt := 188) hx hb dX9_restore_222 (by decide) ?_
                                have q61 : Frm [5600, 6000, 5700, 5800, 5900, 8500, 4042, 4043, 4044] X22 Xd := Frm.tr Frm.rf (Frm.mono hGXd (by decide))
                                have q62 : Frm [5600, 6000, 5700, 5800, 5900, 8500, 4042, 4043, 4044] X22 X58 := Frm.tr q61 (Frm.mono hG59 (by decide))
                                exact ih188 (r + 1) X58 _ _ _ (by omega) hRX58 q62 (by omega) (hMIX58) (hOlX58) ((by rcases hfeX58 with ⟨-, q⟩ | ⟨q, -⟩; exact rTrM.push hTr (by omega) q; exfalso; omega)) (by omega) (hgI) hw hS (lv_sub hl [2, 3, 4, 5, 6, 0] rfl)
                              · refine lv_aload_n hx hb dX9_restore_211 rfl (lv_at hl 1 rfl) ?_
                                refine lv_iload_n hx hb dX9_restore_212 rfl (lv_at hl 4 rfl) ?_
                                refine x_puti (jz := 13) hx hb hf9 ⟨tyX9_ok, nmX9⟩ hw hS (by first | exact Int.le_refl 0 | omega) (by first | exact zlt hc40 | omega) sl_40_13 rfl lk151 rfl (tyX9_ok 13 (by decide)) rfl rfl dX9_restore_213 (fun H locs hw hS => ?_)
                                obtain ⟨X63, hX63⟩ : ∃ Xq, Xq = u3 X58 40 0 13 (X 40 0 13) := ⟨_, rfl⟩
                                rw [← hX63] at hw
                                have hRX63 : Rng X63 := by rw [hX63]; exact rng_set hRX58 (show 0 ≤ (X 40 0 13) ∧ (X 40 0 13) ≤ 30 by omega)
                                have hVX63 : X63 40 0 13 = (X 40 0 13) := by rw [hX63]; exact u3_s _ _ _ _ _
                                have hFX63 : Frm [4001, 4014, 5500, 5600, 4029, 6000, 5700, 5800, 5900, 8500, 4042, 4043, 4044] X X63 := by rw [hX63]; exact Frm.set hFX58 (show 4014 ∈ [4001, 4014, 5500, 5600, 4029, 6000, 5700, 5800, 5900, 8500, 4042, 4043, 4044] by decide)
                                refine lv_iload hx hb dX9_restore_216 (lv_at hl 0 rfl) ?_
                                rw [hQ9]
                                refine ret_i (mc := 0) (ms := 0) hx hb hr hlocks hw hS (by first | exact Nat.le_of_ble_eq_true rfl | omega) (by first | exact Nat.le_of_ble_eq_true rfl | omega) dX9_restore_218 ?_
                                have q64 : Frm [4014] X58 X63 := by rw [hX63]; exact Frm.set Frm.rf (show 4014 ∈ [4014] by decide)
                                have q65 : Frm [4014] X58 X63 := by rw [hX63]; exact Frm.set Frm.rf (show 4014 ∈ [4014] by decide)
                                exact ⟨X63, rfl, hRX63, hFX63, minv_rst_back hMI hR hFX63 (hOlX58.frm q64 (by decide)) hVX63, by omega, Or.inr (Or.inr (Or.inr ⟨(by (try delta Hid at *); omega), (by (try delta Hid at *); omega), by omega, _, hgI, Or.inr ⟨r, Xd, X58, by omega, by omega, hTr, hfeX58, by omega, hVX63, q65⟩⟩))⟩
                        have q66 : Frm [4001, 4014, 5500, 5600, 8500] X X1 := by rw [hX1]; exact Frm.set Frm.rf (show 4001 ∈ [4001, 4014, 5500, 5600, 8500] by decide)
                        have q67 : Frm [4001, 4014, 5500, 5600, 8500] X Xa := Frm.tr q66 (Frm.mono hGXa (by decide))
                        have q68 : Frm [4001, 4014, 5500, 5600, 8500] X Xb := Frm.tr q67 (Frm.mono hGXb (by decide))
                        have q69 : Frm [4001, 4014, 5500, 5600, 8500] X X22 := by rw [hX22]; exact Frm.set q68 (show 4014 ∈ [4001, 4014, 5500, 5600, 8500] by decide)
                        have q70 : Frm [4014] Xb X22 := by rw [hX22]; exact Frm.set Frm.rf (show 4014 ∈ [4014] by decide)
                        have q71 : Frm [4014] Xb X22 := by rw [hX22]; exact Frm.set Frm.rf (show 4014 ∈ [4014] by decide)
                        have q72 : Frm [4001, 4014, 5500, 5600, 8500] X X1 := by rw [hX1]; exact Frm.set Frm.rf (show 4001 ∈ [4001, 4014, 5500, 5600, 8500] by decide)
                        have q73 : Frm [4001, 4014, 5500, 5600, 8500] X Xa := Frm.tr q72 (Frm.mono hGXa (by decide))
                        have q74 : Frm [4001, 4014, 5500, 5600, 8500] X Xb := Frm.tr q73 (Frm.mono hGXb (by decide))
                        have q75 : Frm [4001, 4014, 5500, 5600, 8500] X X22 := by rw [hX22]; exact Frm.set q74 (show 4014 ∈ [4001, 4014, 5500, 5600, 8500] by decide)
                        have q76 : Frm [4014] Xb X22 := by rw [hX22]; exact Frm.set Frm.rf (show 4014 ∈ [4014] by decide)
                        exact lp188 (30 - 0 : Int).toNat.succ 0 X22 _ _ _ (by omega) hRX22 Frm.rf (by omega) (minv_rst_in (n := X 70 0 sv) hMI hR (by omega) q69 (hOl.frm q70 (by decide)) (fun r1 a b => ⟨(by rw [hX22, u3_k _ _ _ _ (by decide)]; exact (hNw r1 a b).1), fun q q0 q1 => (by rw [hX22, u3_k _ _ _ _ (by decide)]; exact (hNw r1 a b).2 q q0 q1)⟩) (by omega) rfl hVX22) ((hOl.frm q71 (by decide))) (rfl) (by omega) (⟨(by rw [hVX22] <;> omega), fun j a b => (by rw [hX22, u3_k _ _ _ _ (by decide), hGXb 85 0 j (show 8500 ∉ [5500, 5600] by decide)]; exact hbk j a (by omega)), hOl.frm q76 (by decide), (fun r1 a b => ⟨(by rw [hX22, u3_k _ _ _ _ (by decide)]; exact (hNw r1 a (by omega)).1), fun q q0 q1 => (by rw [hX22, u3_k _ _ _ _ (by decide)]; exact (hNw r1 a (by omega)).2 q q0 q1)⟩), q75⟩) hw hS (lv_sub hl [1, 2, 3, 4, 5, 0] rfl)
                      · refine lv_aload_n hx hb dX9_restore_96 rfl (lv_at hl 0 rfl) ?_
                        refine x_geto hx hb hf9 hw (by first | exact Int.le_refl 0 | omega) (by first | exact zlt hc40 | omega) sl_40_30 lk84 dX9_restore_97 ?_
                        refine lv_bipush (v := jI 30) hx hb dX9_restore_100 (by decide) ?_
                        refine lv_iload_n hx hb dX9_restore_102 rfl (lv_at hl 1 rfl) ?_
                        refine x_imul hx hb dX9_restore_103 ?_
                        refine lv_iload hx hb dX9_restore_104 (lv_at hl 5 rfl) ?_
                        refine x_iadd hx hb dX9_restore_106 ?_
                        refine x_iald hx hb hK.1 hw (by first | exact Int.le_refl 0 | omega) (by first | exact zlt hc71 | omega) ar_71 (len_E ar_71 (by decide)) (by omega) (by omega) (by omega) dX9_restore_107 ?_
                        have e77 : ∀ p9 q9 : Int, Xb 71 p9 q9 = X 71 p9 q9 := fun p9 q9 => by rw [hGXb 71 p9 q9 (show 7100 ∉ [5500, 5600] by decide), hGXa 71 p9 q9 (show 7100 ∉ [8500] by decide), hX1, u3_k _ _ _ _ (by decide)]
                        rw [e77 0 ((30 * sv) + r)]
                        have f78 : 0 ≤ X 71 0 ((30 * sv) + r) ∧ X 71 0 ((30 * sv) + r) ≤ 7 := hR 71 0 ((30 * sv) + r)
                        refine lv_istore (lv' := [(6, .int (jI (X 71 0 ((30 * sv) + r)))), (0, .ref (ad 40 0)), (1, .int (jI sv)), (2, .int (jI rule)), (3, .int (jI (X 40 0 13))), (4, .int (jI (X 70 0 sv))), (5, .int (jI r))]) hx hb dX9_restore_108 hl (by decide) rfl (fun ls hl => ?_)
                        refine lv_aload_n hx hb dX9_restore_110 rfl (lv_at hl 1 rfl) ?_
                        refine x_geto hx hb hf9 hw (by first | exact Int.le_refl 0 | omega) (by first | exact zlt hc40 | omega) sl_40_14 lk45 dX9_restore_111 ?_
                        refine lv_iload_n hx hb dX9_restore_114 rfl (lv_at hl 4 rfl) ?_
                        refine lv_iload hx hb dX9_restore_115 (lv_at hl 6 rfl) ?_
                        refine x_iadd hx hb dX9_restore_117 ?_
                        refine lv_iload hx hb dX9_restore_118 (lv_at hl 0 rfl) ?_
                        refine x_iast hx hb hK.1 hw hS (by first | exact Int.le_refl 0 | omega) (by first | exact zlt hc55 | omega) ar_55 (len_E ar_55 (by decide)) (by omega) (by omega) (by omega) dX9_restore_120 (fun H locs hw hS => ?_)
                        obtain ⟨X79, hX79⟩ : ∃ Xq, Xq = u3 Xb 55 0 ((X 40 0 13) + r) (X 71 0 ((30 * sv) + r)) := ⟨_, rfl⟩
                        rw [← hX79] at hw
                        have hRX79 : Rng X79 := by rw [hX79]; exact rng_set hRXb (show 0 ≤ (X 71 0 ((30 * sv) + r)) ∧ (X 71 0 ((30 * sv) + r)) ≤ 7 by omega)
                        have hVX79 : X79 55 0 ((X 40 0 13) + r) = (X 71 0 ((30 * sv) + r)) := by rw [hX79]; exact u3_s _ _ _ _ _
                        have hFX79 : Frm [4001, 4014, 5500, 5600, 4029, 6000, 5700, 5800, 5900, 8500, 4042, 4043, 4044] X X79 := by rw [hX79]; exact Frm.set hFXb (show 5500 ∈ [4001, 4014, 5500, 5600, 4029, 6000, 5700, 5800, 5900, 8500, 4042, 4043, 4044] by decide)
                        refine lv_iconst (v := jI 0) hx hb dX9_restore_121 rfl ?_
                        refine lv_istore (lv' := [(7, .int (jI 0)), (6, .int (jI (X 71 0 ((30 * sv) + r)))), (0, .ref (ad 40 0)), (1, .int (jI sv)), (2, .int (jI rule)), (3, .int (jI (X 40 0 13))), (4, .int (jI (X 70 0 sv))), (5, .int (jI r))]) hx hb dX9_restore_122 hl (by decide) rfl (fun ls hl => ?_)
                        have lp124 : ∀ (nn : Nat) (k : Int) (Xc : Nat → Int → Int → Int) (H : Heap) (locs : List Loc) (ls : Array Slot), (5 - k) < (nn : Int) → (Rng Xc) → (Frm [5600] X79 Xc) → (0 ≤ k ∧ k ≤ 5) → (Old X Xc) → (New X Xc sv r) → (Xc 55 0 (X 40 0 13 + r) = X 71 0 (30 * sv + r)) → (∀ q, 0 ≤ q → q < k → Xc 56 0 (5 * (X 40 0 13 + r) + q) = X 47 0 (5 * X 71 0 (30 * sv + r) + q)) → wd D tc base (ad, cnt, Xc, Y, ln) H → va_S (frA base) s.heap H locs → lv_has ls 8 [(0, .ref (ad 40 0)), (1, .int (jI sv)), (2, .int (jI rule)), (3, .int (jI (X 40 0 13))), (4, .int (jI (X 70 0 sv))), (5, .int (jI r)), (6, .int (jI (X 71 0 ((30 * sv) + r)))), (7, .int (jI k))] → W p l e ({ frames := 4, cells := 0, slots := 0, locals := 105 } : Room) s m av9 below meth c H locs 0 0 Q9 (F0 m 124 ls []) := by
                          intro nn
                          induction nn with
                          | zero => intro k Xc H locs ls hm hRXc hGXc hk hOl hNw hN5 hNv hw hS hl; exfalso; omega
                          | succ nn ih124 =>
                            intro k Xc H locs ls hm hRXc hGXc hk hOl hNw hN5 hNv hw hS hl
                            have hFXc : Frm [4001, 4014, 5500, 5600, 4029, 6000, 5700, 5800, 5900, 8500, 4042, 4043, 4044] X Xc := Frm.tr hFX79 (Frm.mono hGXc (by decide))
                            refine lv_iload hx hb dX9_restore_124 (lv_at hl 7 rfl) ?_
                            refine lv_aload_n hx hb dX9_restore_126 rfl (lv_at hl 0 rfl) ?_
                            refine x_geto hx hb hf9 hw (by first | exact Int.le_refl 0 | omega) (by first | exact zlt hc40 | omega) sl_40_3 lk13 dX9_restore_127 ?_
                            refine lv_iload hx hb dX9_restore_130 (lv_at hl 6 rfl) ?_
                            refine x_iald hx hb hK.1 hw (by first | exact Int.le_refl 0 | omega) (by first | exact zlt hc44 | omega) ar_44 (len_E ar_44 (by decide)) (by omega) (by omega) (by omega) dX9_restore_132 ?_
                            have e80 : ∀ p9 q9 : Int, Xc 44 p9 q9 = X 44 p9 q9 := fun p9 q9 => by rw [hGXc 44 p9 q9 (show 4400 ∉ [5600] by decide), hX79, u3_k _ _ _ _ (by decide), hGXb 44 p9 q9 (show 4400 ∉ [5500, 5600] by decide), hGXa 44 p9 q9 (show 4400 ∉ [8500] by decide), hX1, u3_k _ _ _ _ (by decide)]
                            rw [e80 0 (X 71 0 ((30 * sv) + r))]
                            have f81 : 0 ≤ X 44 0 (X 71 0 ((30 * sv) + r)) ∧ X 44 0 (X 71 0 ((30 * sv) + r)) ≤ 5 := hR 44 0 (X 71 0 ((30 * sv) + r))
                            refine x_icmp_ge (tgt := 168) hx hb (by omega) (by omega) dX9_restore_133 (by decide) (fun c82 => ?_) (fun c82 => ?_)
                            · refine lv_iinc (v := jI (r + 1)) (lv' := [(5, .int (jI (r + 1))), (0, .ref (ad 40 0)), (1, .int (jI sv)), (2, .int (jI rule)), (3, .int (jI (X 40 0 13))), (4, .int (jI (X 70 0 sv))), (6, .int (jI (X 71 0 ((30 * sv) + r)))), (7, .int (jI k))]) hx hb dX9_restore_168 hl (k := 5) rfl (jI_add _ _) (by decide) rfl (fun ls hl => ?_)
                              refine lv_goto (tgt := 89) hx hb dX9_restore_171 (by decide) ?_
                              have q83 : Frm [5500, 5600] Xa Xb := Frm.tr Frm.rf (Frm.mono hGXb (by decide))
                              have q84 : Frm [5500, 5600] Xa X79 := by rw [hX79]; exact Frm.set q83 (show 5500 ∈ [5500, 5600] by decide)
                              have q85 : Frm [5500, 5600] Xa Xc := Frm.tr q84 (Frm.mono hGXc (by decide))
                              exact ih89 (r + 1) Xc _ _ _ (by omega) hRXc q85 (by omega) (hOl) (hNw.next hN5 (fun q a b => hNv q a (by omega))) (by omega) hw hS (lv_sub hl [1, 2, 3, 4, 5, 0] rfl)
                            · refine lv_aload_n hx hb dX9_restore_136 rfl (lv_at hl 0 rfl) ?_
                              refine x_geto hx hb hf9 hw (by first | exact Int.le_refl 0 | omega) (by first | exact zlt hc40 | omega) sl_40_15 lk48 dX9_restore_137 ?_
                              refine lv_iconst (v := jI 5) hx hb dX9_restore_140 rfl ?_
                              refine lv_iload_n hx hb dX9_restore_141 rfl (lv_at hl 3 rfl) ?_
                              refine lv_iload hx hb dX9_restore_142 (lv_at hl 5 rfl) ?_
                              refine x_iadd hx hb dX9_restore_144 ?_
                              refine x_imul hx hb dX9_restore_145 ?_
                              refine lv_iload hx hb dX9_restore_146 (lv_at hl 7 rfl) ?_
                              refine x_iadd hx hb dX9_restore_148 ?_
                              refine lv_aload_n hx hb dX9_restore_149 rfl (lv_at hl 0 rfl) ?_
                              refine x_geto hx hb hf9 hw (by first | exact Int.le_refl 0 | omega) (by first | exact zlt hc40 | omega) sl_40_6 lk23 dX9_restore_150 ?_
                              refine lv_iconst (v := jI 5) hx hb dX9_restore_153 rfl ?_
                              refine lv_iload hx hb dX9_restore_154 (lv_at hl 6 rfl) ?_
                              refine x_imul hx hb dX9_restore_156 ?_
                              refine lv_iload hx hb dX9_restore_157 (lv_at hl 7 rfl) ?_
                              refine x_iadd hx hb dX9_restore_159 ?_
                              refine x_lald hx hb hK.1 hw (by first | exact Int.le_refl 0 | omega) (by first | exact zlt hc47 | omega) ar_47 (len_E ar_47 (by decide)) (by omega) (by omega) (by omega) dX9_restore_160 ?_
                              have e86 : ∀ p9 q9 : Int, Xc 47 p9 q9 = X 47 p9 q9 := fun p9 q9 => by rw [hGXc 47 p9 q9 (show 4700 ∉ [5600] by decide), hX79, u3_k _ _ _ _ (by decide), hGXb 47 p9 q9 (show 4700 ∉ [5500, 5600] by decide), hGXa 47 p9 q9 (show 4700 ∉ [8500] by decide), hX1, u3_k _ _ _ _ (by decide)]
                              rw [e86 0 ((5 * (X 71 0 ((30 * sv) + r))) + k)]
                              have f87 : (-9223372036854775808) ≤ X 47 0 ((5 * (X 71 0 ((30 * sv) + r))) + k) ∧ X 47 0 ((5 * (X 71 0 ((30 * sv) + r))) + k) ≤ 9223372036854775807 := hR 47 0 ((5 * (X 71 0 ((30 * sv) + r))) + k)
                              refine x_last hx hb hK.1 hw hS (by first | exact Int.le_refl 0 | omega) (by first | exact zlt hc56 | omega) ar_56 (len_E ar_56 (by decide)) (by omega) (by omega) (by omega) dX9_restore_161 (fun H locs hw hS => ?_)
                              obtain ⟨X88, hX88⟩ : ∃ Xq, Xq = u3 Xc 56 0 ((5 * ((X 40 0 13) + r)) + k) (X 47 0 ((5 * (X 71 0 ((30 * sv) + r))) + k)) := ⟨_, rfl⟩
                              rw [← hX88] at hw
                              have hRX88 : Rng X88 := by rw [hX88]; exact rng_set hRXc (show (-9223372036854775808) ≤ (X 47 0 ((5 * (X 71 0 ((30 * sv) + r))) + k)) ∧ (X 47 0 ((5 * (X 71 0 ((30 * sv) + r))) + k)) ≤ 9223372036854775807 by omega)
                              have hVX88 : X88 56 0 ((5 * ((X 40 0 13) + r)) + k) = (X 47 0 ((5 * (X 71 0 ((30 * sv) + r))) + k)) := by rw [hX88]; exact u3_s _ _ _ _ _
                              have hFX88 : Frm [4001, 4014, 5500, 5600, 4029, 6000, 5700, 5800, 5900, 8500, 4042, 4043, 4044] X X88 := by rw [hX88]; exact Frm.set hFXc (show 5600 ∈ [4001, 4014, 5500, 5600, 4029, 6000, 5700, 5800, 5900, 8500, 4042, 4043, 4044] by decide)
                              refine lv_iinc (v := jI (k + 1)) (lv' := [(7, .int (jI (k + 1))), (0, .ref (ad 40 0)), (1, .int (jI sv)), (2, .int (jI rule)), (3, .int (jI (X 40 0 13))), (4, .int (jI (X 70 0 sv))), (5, .int (jI r)), (6, .int (jI (X 71 0 ((30 * sv) + r))))]) hx hb dX9_restore_162 hl (k := 7) rfl (jI_add _ _) (by decide) rfl (fun ls hl => ?_)
                              refine lv_goto (tgt := 124) hx hb dX9_restore_165 (by decide) ?_
                              have q89 : Frm [5600] X79 Xc := Frm.tr Frm.rf (Frm.mono hGXc (by decide))
                              have q90 : Frm [5600] X79 X88 := by rw [hX88]; exact Frm.set q89 (show 5600 ∈ [5600] by decide)
                              exact ih124 (k + 1) X88 _ _ _ (by omega) hRX88 q90 (by omega) ((by rw [hX88]; exact hOl.s56 (by omega))) ((by rw [hX88]; exact hNw.s56 hR (by omega))) ((by rw [hX88, u3_k _ _ _ _ (by decide)]; exact hN5)) (fun q a b => if hq : q = k then (by rw [hq]; exact hVX88) else (by rw [hX88, u3_j _ _ _ _ (by omega)]; exact hNv q a (by omega))) hw hS (lv_sub hl [1, 2, 3, 4, 5, 6, 7, 0] rfl)
                        exact lp124 (5 - 0 : Int).toNat.succ 0 X79 _ _ _ (by omega) hRX79 Frm.rf (by omega) ((by rw [hX79]; exact hOl.s55 (by omega))) ((by rw [hX79]; exact hNw.s55 (by omega))) (hVX79) (fun q a b => by omega) hw hS (lv_sub hl [2, 3, 4, 5, 6, 7, 1, 0] rfl)
                  have q91 : Frm [4001, 8500] X X1 := by rw [hX1]; exact Frm.set Frm.rf (show 4001 ∈ [4001, 8500] by decide)
                  have q92 : Frm [4001, 8500] X Xa := Frm.tr q91 (Frm.mono hGXa (by decide))
                  exact lp89 (30 - 0 : Int).toNat.succ 0 Xa _ _ _ (by omega) hRXa Frm.rf (by omega) (Old.rf q92 (by decide)) (New.nil) (by omega) hw hS (lv_sub hl [1, 2, 3, 4, 5, 0] rfl)
                · refine lv_aload_n hx hb dX9_restore_72 rfl (lv_at hl 0 rfl) ?_
                  refine x_geto hx hb hf9 hw (by first | exact Int.le_refl 0 | omega) (by first | exact zlt hc40 | omega) sl_40_44 lk127 dX9_restore_73 ?_
                  refine lv_iload hx hb dX9_restore_76 (lv_at hl 5 rfl) ?_
                  refine lv_iconst (v := jI (-1)) hx hb dX9_restore_78 rfl ?_
                  refine x_iast hx hb hK.1 hw hS (by first | exact Int.le_refl 0 | omega) (by first | exact zlt hc85 | omega) ar_85 (len_E ar_85 (by decide)) (by omega) (by omega) (by omega) dX9_restore_79 (fun H locs hw hS => ?_)
                  obtain ⟨X93, hX93⟩ : ∃ Xq, Xq = u3 Xa 85 0 k (-1) := ⟨_, rfl⟩
                  rw [← hX93] at hw
                  have hRX93 : Rng X93 := by rw [hX93]; exact rng_set hRXa (show (-1) ≤ (-1) ∧ (-1) ≤ 399 by omega)
                  have hVX93 : X93 85 0 k = (-1) := by rw [hX93]; exact u3_s _ _ _ _ _
                  have hFX93 : Frm [4001, 4014, 5500, 5600, 4029, 6000, 5700, 5800, 5900, 8500, 4042, 4043, 4044] X X93 := by rw [hX93]; exact Frm.set hFXa (show 8500 ∈ [4001, 4014, 5500, 5600, 4029, 6000, 5700, 5800, 5900, 8500, 4042, 4043, 4044] by decide)
                  refine lv_iinc (v := jI (k + 1)) (lv' := [(5, .int (jI (k + 1))), (0, .ref (ad 40 0)), (1, .int (jI sv)), (2, .int (jI rule)), (3, .int (jI (X 40 0 13))), (4, .int (jI (X 70 0 sv)))]) hx hb dX9_restore_80 hl (k := 5) rfl (jI_add _ _) (by decide) rfl (fun ls hl => ?_)
                  refine lv_goto (tgt := 64) hx hb dX9_restore_83 (by decide) ?_
                  have q94 : Frm [8500] X1 Xa := Frm.tr Frm.rf (Frm.mono hGXa (by decide))
                  have q95 : Frm [8500] X1 X93 := by rw [hX93]; exact Frm.set q94 (show 8500 ∈ [8500] by decide)
                  exact ih64 (k + 1) X93 _ _ _ (by omega) hRX93 q95 (by omega) (fun j a b => if hj : j = k then (by rw [hX93, hj]; exact u3_s _ _ _ _ _) else (by rw [hX93, u3_j _ _ _ _ hj]; exact hbk j a (by omega))) hw hS (lv_sub hl [1, 2, 3, 4, 5, 0] rfl)
            exact lp64 (450 - 0 : Int).toNat.succ 0 X1 _ _ _ (by omega) hRX1 Frm.rf (by omega) (fun j a b => by omega) hw hS (lv_sub hl [3, 4, 5, 2, 1, 0] rfl)
          · refine lv_bipush (v := jI (-4)) hx hb dX9_restore_58 (by decide) ?_
            rw [hQ9]
            refine ret_i (mc := 0) (ms := 0) hx hb hr hlocks hw hS (by first | exact Nat.le_of_ble_eq_true rfl | omega) (by first | exact Nat.le_of_ble_eq_true rfl | omega) dX9_restore_60 ?_
            have q97 : Frm [4001] X X1 := by rw [hX1]; exact Frm.set Frm.rf (show 4001 ∈ [4001] by decide)
            have hMq96 : MInv X1 := minv_frm hMI q97 (by decide)
            have q98 : Frm [4001] X X1 := by rw [hX1]; exact Frm.set Frm.rf (show 4001 ∈ [4001] by decide)
            exact ⟨X1, rfl, hRX1, hFX1, hMq96, by omega, Or.inr (Or.inr (Or.inl ⟨(by (try delta Hid at *); omega), (by (try delta Hid at *); omega), by omega, by omega, q98⟩))⟩
        · refine lv_bipush (v := jI (-2)) hx hb dX9_restore_33 (by decide) ?_
          rw [hQ9]
          refine ret_i (mc := 0) (ms := 0) hx hb hr hlocks hw hS (by first | exact Nat.le_of_ble_eq_true rfl | omega) (by first | exact Nat.le_of_ble_eq_true rfl | omega) dX9_restore_35 ?_
          have q100 : Frm [4001] X X1 := by rw [hX1]; exact Frm.set Frm.rf (show 4001 ∈ [4001] by decide)
          have hMq99 : MInv X1 := minv_frm hMI q100 (by decide)
          have q101 : Frm [4001] X X1 := by rw [hX1]; exact Frm.set Frm.rf (show 4001 ∈ [4001] by decide)
          exact ⟨X1, rfl, hRX1, hFX1, hMq99, by omega, Or.inr (Or.inl ⟨(by (try delta Hid at *); omega), (fun q => by (try delta Hid at *); omega), by omega, q101⟩)⟩
    · refine lv_iconst (v := jI (-1)) hx hb dX9_restore_22 rfl ?_
      rw [hQ9]
      refine ret_i (mc := 0) (ms := 0) hx hb hr hlocks hw hS (by first | exact Nat.le_of_ble_eq_true rfl | omega) (by first | exact Nat.le_of_ble_eq_true rfl | omega) dX9_restore_23 ?_
      have q103 : Frm [4001] X X1 := by rw [hX1]; exact Frm.set Frm.rf (show 4001 ∈ [4001] by decide)
      have hMq102 : MInv X1 := minv_frm hMI q103 (by decide)
      have q104 : Frm [4001] X X1 := by rw [hX1]; exact Frm.set Frm.rf (show 4001 ∈ [4001] by decide)
      exact ⟨X1, rfl, hRX1, hFX1, hMq102, by omega, Or.inl ⟨(fun q => by (try delta Hid at *); omega), by omega, q104⟩⟩
  · subst ez2
    refine x_if_eqT (tgt := 22) hx hb (by omega) (by decide) dX9_restore_10 (by decide) ?_
    refine lv_iconst (v := jI (-1)) hx hb dX9_restore_22 rfl ?_
    rw [hQ9]
    refine ret_i (mc := 0) (ms := 0) hx hb hr hlocks hw hS (by first | exact Nat.le_of_ble_eq_true rfl | omega) (by first | exact Nat.le_of_ble_eq_true rfl | omega) dX9_restore_23 ?_
    have q106 : Frm [4001] X X1 := by rw [hX1]; exact Frm.set Frm.rf (show 4001 ∈ [4001] by decide)
    have hMq105 : MInv X1 := minv_frm hMI q106 (by decide)
    have q107 : Frm [4001] X X1 := by rw [hX1]; exact Frm.set Frm.rf (show 4001 ∈ [4001] by decide)
    exact ⟨X1, rfl, hRX1, hFX1, hMq105, by omega, Or.inl ⟨(fun q => by (try delta Hid at *); omega), by omega, q107⟩⟩

