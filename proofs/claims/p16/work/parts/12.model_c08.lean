set_option maxHeartbeats 4000000 in
set_option maxRecDepth 100000 in
theorem c_X9_drop (l : Launch) (D : va_G) (tc : Nat → ClassId) (base : Nat) (ad : Nat → Int → Nat) (cnt : Nat → Int) (X : Nat → Int → Int → Int) (Y : Nat → Int → Int → Option Int) (ln : Int → Int) (hR : Rng X) (hFx : Fx cnt) (hMI : MInv X) (t k : Int) (ht : -2147483648 ≤ t ∧ t ≤ 2147483647) (hk : -2147483648 ≤ k ∧ k ≤ 2147483647) : KI l D tc base yX9_drop wsX9_drop ({ frames := 1, cells := 0, slots := 0, locals := 21 } : Room) [.ref (ad 40 0), .int (jI t), .int (jI k)] (ad, cnt, X, Y, ln) 0 0 (fun z u => ∃ X1 : Nat → Int → Int → Int, u = (ad, cnt, X1, Y, ln) ∧ Rng X1 ∧ Frm [4001, 4500, 4600, 4700, 4800, 4400, 5600] X X1 ∧ MInv X1 ∧ (-2147483648 ≤ z ∧ z ≤ 2147483647) ∧ ((¬ (0 ≤ t ∧ t < X 40 0 2 ∧ 0 ≤ k ∧ k < X 44 0 t) ∧ z = -1 ∧ X1 44 0 t = X 44 0 t) ∨ (0 ≤ t ∧ t < X 40 0 2 ∧ 0 ≤ k ∧ k < X 44 0 t ∧ 0 < X 40 0 20 ∧ z = -3 ∧ X1 44 0 t = X 44 0 t) ∨ (0 ≤ t ∧ t < X 40 0 2 ∧ 0 ≤ k ∧ k < X 44 0 t ∧ X 40 0 20 = 0 ∧ z = X 44 0 t - 1 ∧ X1 44 0 t = X 44 0 t - 1)) ∧ (0 ≤ z → Sh 45 X X1 0 (5 * t + k) (5 * t + (X 44 0 t - 1)) ∧ Sh 46 X X1 0 (5 * t + k) (5 * t + (X 44 0 t - 1)) ∧ Sh 47 X X1 0 (5 * t + k) (5 * t + (X 44 0 t - 1)) ∧ Sh 48 X X1 0 (5 * t + k) (5 * t + (X 44 0 t - 1))) ∧ (z < 0 → ∀ y, X1 45 0 y = X 45 0 y ∧ X1 46 0 y = X 46 0 y ∧ X1 47 0 y = X 47 0 y ∧ X1 48 0 y = X 48 0 y) ∧ (∀ y, y ≠ t → X1 44 0 y = X 44 0 y) ∧ (0 ≤ z → (∀ y j, 0 ≤ y → y < X 40 0 13 → X 55 0 y = t → k ≤ j → j < X 44 0 t - 1 → X1 56 0 (5 * y + j) = X 56 0 (5 * y + j + 1)) ∧ ∀ y j, 0 ≤ y → y < X 40 0 13 → 0 ≤ j → j ≤ 4 → ¬ (X 55 0 y = t ∧ k ≤ j) → X1 56 0 (5 * y + j) = X 56 0 (5 * y + j)) ∧ (z < 0 → Frm [4001] X X1)) := by
  refine K_of (cc := cX9_drop) (maxL := 5) (ret := (some .int)) (by decide) rfl (Nat.le_of_ble_eq_true rfl) ?_
  intro p e s m below meth c ls hx hb hr hml hown hts hlocks hl hK hw hS
  have hown : s.vm.findClass RX9 = some m.cls := hown
  obtain ⟨av9, hav9⟩ : ∃ a9 : Array Value, a9 = ([.ref (ad 40 0), .int (jI t), .int (jI k)] : List Value).toArray := ⟨_, rfl⟩
  rw [← hav9] at hts ⊢
  obtain ⟨Q9, hQ9⟩ : ∃ q9Q : State → Prop, q9Q = MQ below (QI D tc base (fun z u => ∃ X1 : Nat → Int → Int → Int, u = (ad, cnt, X1, Y, ln) ∧ Rng X1 ∧ Frm [4001, 4500, 4600, 4700, 4800, 4400, 5600] X X1 ∧ MInv X1 ∧ (-2147483648 ≤ z ∧ z ≤ 2147483647) ∧ ((¬ (0 ≤ t ∧ t < X 40 0 2 ∧ 0 ≤ k ∧ k < X 44 0 t) ∧ z = -1 ∧ X1 44 0 t = X 44 0 t) ∨ (0 ≤ t ∧ t < X 40 0 2 ∧ 0 ≤ k ∧ k < X 44 0 t ∧ 0 < X 40 0 20 ∧ z = -3 ∧ X1 44 0 t = X 44 0 t) ∨ (0 ≤ t ∧ t < X 40 0 2 ∧ 0 ≤ k ∧ k < X 44 0 t ∧ X 40 0 20 = 0 ∧ z = X 44 0 t - 1 ∧ X1 44 0 t = X 44 0 t - 1)) ∧ (0 ≤ z → Sh 45 X X1 0 (5 * t + k) (5 * t + (X 44 0 t - 1)) ∧ Sh 46 X X1 0 (5 * t + k) (5 * t + (X 44 0 t - 1)) ∧ Sh 47 X X1 0 (5 * t + k) (5 * t + (X 44 0 t - 1)) ∧ Sh 48 X X1 0 (5 * t + k) (5 * t + (X 44 0 t - 1))) ∧ (z < 0 → ∀ y, X1 45 0 y = X 45 0 y ∧ X1 46 0 y = X 46 0 y ∧ X1 47 0 y = X 47 0 y ∧ X1 48 0 y = X 48 0 y) ∧ (∀ y, y ≠ t → X1 44 0 y = X 44 0 y) ∧ (0 ≤ z → (∀ y j, 0 ≤ y → y < X 40 0 13 → X 55 0 y = t → k ≤ j → j < X 44 0 t - 1 → X1 56 0 (5 * y + j) = X 56 0 (5 * y + j + 1)) ∧ ∀ y j, 0 ≤ y → y < X 40 0 13 → 0 ≤ j → j ≤ 4 → ¬ (X 55 0 y = t ∧ k ≤ j) → X1 56 0 (5 * y + j) = X 56 0 (5 * y + j)) ∧ (z < 0 → Frm [4001] X X1))) av9 s 0 0 (frA base) := ⟨_, rfl⟩
  rw [← hQ9]
  have hi9 : ∀ w ∈ wsX90, w ∈ wsX9_drop := fun w h => List.mem_cons_of_mem _ (List.mem_append_right _ h)
  have hf9 : fctx s m _ RX9 wsX9_drop D tc RX9 TX9 51 9 := ⟨hts, hi9, hown, hK.1, rfl⟩
  have lk13 := hts (.fieldLink RX9 13 (TX9 3).1 (TX9 3).2.1 (TX9 3).2.2.1) (gj_X9_drop_0 _ (gp_1 gp_h))
  have lk17 := hts (.fieldLink RX9 17 (TX9 4).1 (TX9 4).2.1 (TX9 4).2.2.1) (gj_X9_drop_0 _ (gp_1 (gp_1 (gp_1 gp_h))))
  have lk20 := hts (.fieldLink RX9 20 (TX9 5).1 (TX9 5).2.1 (TX9 5).2.2.1) (gj_X9_drop_0 _ (gp_4 gp_h))
  have lk23 := hts (.fieldLink RX9 23 (TX9 6).1 (TX9 6).2.1 (TX9 6).2.2.1) (gj_X9_drop_0 _ (gp_4 (gp_1 gp_h)))
  have lk27 := hts (.fieldLink RX9 27 (TX9 7).1 (TX9 7).2.1 (TX9 7).2.2.1) (gj_X9_drop_0 _ (gp_4 (gp_1 (gp_1 gp_h))))
  have lk45 := hts (.fieldLink RX9 45 (TX9 14).1 (TX9 14).2.1 (TX9 14).2.2.1) (gj_X9_drop_0 _ (gp_4 (gp_4 (gp_1 gp_h))))
  have lk48 := hts (.fieldLink RX9 48 (TX9 15).1 (TX9 15).2.1 (TX9 15).2.2.1) (gj_X9_drop_0 _ (gp_4 (gp_4 gp_h)))
  have lk145 := hts (.fieldLink RX9 145 (TX9 0).1 (TX9 0).2.1 (TX9 0).2.2.1) (gj_X9_drop_0 _ (gp_h))
  have lk151 := hts (.fieldLink RX9 151 (TX9 13).1 (TX9 13).2.1 (TX9 13).2.2.1) (gj_X9_drop_0 _ (gp_4 (gp_1 (gp_1 (gp_1 gp_h)))))
  have lk165 := hts (.fieldLink RX9 165 (TX9 20).1 (TX9 20).2.1 (TX9 20).2.2.1) (gj_X9_drop_0 _ (gp_1 (gp_1 gp_h)))
  have hc40 : cnt 40 = 1 := hFx.at 40 1 (by decide)
  have hc44 : cnt 44 = 1 := hFx.at 44 1 (by decide)
  have hc45 : cnt 45 = 1 := hFx.at 45 1 (by decide)
  have hc46 : cnt 46 = 1 := hFx.at 46 1 (by decide)
  have hc47 : cnt 47 = 1 := hFx.at 47 1 (by decide)
  have hc48 : cnt 48 = 1 := hFx.at 48 1 (by decide)
  have hc55 : cnt 55 = 1 := hFx.at 55 1 (by decide)
  have hc56 : cnt 56 = 1 := hFx.at 56 1 (by decide)
  have hl : lv_has ls 5 [(0, .ref (ad 40 0)), (1, .int (jI t)), (2, .int (jI k))] := hl
  have fstypes : 0 ≤ X 40 0 2 ∧ X 40 0 2 ≤ 8 := hR 40 0 2
  have fsthings : 0 ≤ X 40 0 13 ∧ X 40 0 13 ≤ 30 := hR 40 0 13
  have fsmarks : 0 ≤ X 40 0 20 ∧ X 40 0 20 ≤ 4 := hR 40 0 20
  have fsnotes : 0 ≤ X 40 0 22 ∧ X 40 0 22 ≤ 80 := hR 40 0 22
  refine lv_aload_n hx hb dX9_drop_0 rfl (lv_at hl 0 rfl) ?_
  refine lv_iconst (v := jI 0) hx hb dX9_drop_1 rfl ?_
  refine x_puti (jz := 0) hx hb hf9 ⟨tyX9_ok, nmX9⟩ hw hS (by first | exact Int.le_refl 0 | omega) (by first | exact zlt hc40 | omega) sl_40_0 rfl lk145 rfl (tyX9_ok 0 (by decide)) rfl rfl dX9_drop_2 (fun H locs hw hS => ?_)
  obtain ⟨X1, hX1⟩ : ∃ Xq, Xq = u3 X 40 0 0 0 := ⟨_, rfl⟩
  rw [← hX1] at hw
  have hRX1 : Rng X1 := by rw [hX1]; exact rng_set hR (show (-2147483648) ≤ 0 ∧ 0 ≤ 2147483647 by omega)
  have hVX1 : X1 40 0 0 = 0 := by rw [hX1]; exact u3_s _ _ _ _ _
  have hFX1 : Frm [4001, 4500, 4600, 4700, 4800, 4400, 5600] X X1 := by rw [hX1]; exact Frm.set Frm.rf (show 4001 ∈ [4001, 4500, 4600, 4700, 4800, 4400, 5600] by decide)
  refine lv_aload_n hx hb dX9_drop_5 rfl (lv_at hl 0 rfl) ?_
  refine lv_iload_n hx hb dX9_drop_6 rfl (lv_at hl 1 rfl) ?_
  refine gos_i (run_V (As := [.int (jI t)]) (rest := []) hx hb hml hown hts (c_X9_isType l D tc base ad cnt X1 Y ln hRX1 hFx t (by omega)) (cwV 1 hts gX9_drop_X9_isType rfl rfl rfl (by first | exact hd_X9_isType | decide +kernel) ⟨Nat.le_of_ble_eq_true rfl, Nat.le_of_ble_eq_true rfl⟩) hK hw (by first | exact Int.le_refl 0 | omega) (by first | exact zlt hc40 | omega) sl_40_0 rfl rfl hl.1 rfl (Nat.le_of_ble_eq_true rfl) dX9_drop_7 ⟨Nat.le_of_ble_eq_true rfl, Nat.le_of_ble_eq_true rfl⟩) hS (fun z2 u3 H locs p4 hw hS => ?_)
  obtain ⟨eu3, p4⟩ := p4
  subst eu3
  have e5 : X1 40 0 2 = X 40 0 2 := by rw [hX1, u3_j _ _ _ _ (by decide)]
  simp only [e5] at p4
  rcases p4 with ⟨ez2, p4⟩ | ⟨ez2, p4⟩
  · subst ez2
    refine x_if_eqF (tgt := 27) hx hb (by omega) (by decide) dX9_drop_10 (by decide) ?_
    refine lv_iload_n hx hb dX9_drop_13 rfl (lv_at hl 2 rfl) ?_
    refine x_if_lt (tgt := 27) hx hb (by omega) dX9_drop_14 (by decide) (fun c6 => ?_) (fun c6 => ?_)
    · refine lv_iconst (v := jI (-1)) hx hb dX9_drop_27 rfl ?_
      rw [hQ9]
      refine ret_i (mc := 0) (ms := 0) hx hb hr hlocks hw hS (by first | exact Nat.le_of_ble_eq_true rfl | omega) (by first | exact Nat.le_of_ble_eq_true rfl | omega) dX9_drop_28 ?_
      have q8 : Frm [4001] X X1 := by rw [hX1]; exact Frm.set Frm.rf (show 4001 ∈ [4001] by decide)
      have hMq7 : MInv X1 := minv_frm hMI q8 (by decide)
      have e9 : X1 44 0 t = X 44 0 t := (by rw [hX1, u3_k _ _ _ _ (by decide)])
      have q10 : Frm [4001] X X1 := by rw [hX1]; exact Frm.set Frm.rf (show 4001 ∈ [4001] by decide)
      exact ⟨X1, rfl, hRX1, hFX1, hMq7, by omega, (by (try delta Hid at *); first | exact Or.inl ⟨(fun q => by omega), by omega, by omega⟩ | exact Or.inr (Or.inr ((⟨by omega, by omega, by omega, by omega, by omega, by omega, by omega⟩))) | omega), fun h => (by exfalso; omega), fun _ y => ⟨(by rw [hX1, u3_k _ _ _ _ (by decide)]), (by rw [hX1, u3_k _ _ _ _ (by decide)]), (by rw [hX1, u3_k _ _ _ _ (by decide)]), (by rw [hX1, u3_k _ _ _ _ (by decide)])⟩, fun y h => (by rw [hX1, u3_k _ _ _ _ (by decide)]), fun q => (by exfalso; omega), fun _ => q10⟩
    · refine lv_iload_n hx hb dX9_drop_17 rfl (lv_at hl 2 rfl) ?_
      refine lv_aload_n hx hb dX9_drop_18 rfl (lv_at hl 0 rfl) ?_
      refine x_geto hx hb hf9 hw (by first | exact Int.le_refl 0 | omega) (by first | exact zlt hc40 | omega) sl_40_3 lk13 dX9_drop_19 ?_
      refine lv_iload_n hx hb dX9_drop_22 rfl (lv_at hl 1 rfl) ?_
      refine x_iald hx hb hK.1 hw (by first | exact Int.le_refl 0 | omega) (by first | exact zlt hc44 | omega) ar_44 (len_E ar_44 (by decide)) (by omega) (by omega) (by omega) dX9_drop_23 ?_
      have e11 : ∀ p9 q9 : Int, X1 44 p9 q9 = X 44 p9 q9 := fun p9 q9 => by rw [hX1, u3_k _ _ _ _ (by decide)]
      rw [e11 0 t]
      have f12 : 0 ≤ X 44 0 t ∧ X 44 0 t ≤ 5 := hR 44 0 t
      refine x_icmp_lt (tgt := 29) hx hb (by omega) (by omega) dX9_drop_24 (by decide) (fun c13 => ?_) (fun c13 => ?_)
      · refine lv_aload_n hx hb dX9_drop_29 rfl (lv_at hl 0 rfl) ?_
        refine x_geti (jz := 20) hx hb hf9 hw (by first | exact Int.le_refl 0 | omega) (by first | exact zlt hc40 | omega) sl_40_20 rfl lk165 dX9_drop_30 ?_
        have e14 : X1 40 0 20 = X 40 0 20 := by rw [hX1, u3_j _ _ _ _ (by decide)]
        rw [e14]
        have f15 : 0 ≤ X 40 0 20 ∧ X 40 0 20 ≤ 4 := hR 40 0 20
        refine x_if_le (tgt := 39) hx hb (by omega) dX9_drop_33 (by decide) (fun c16 => ?_) (fun c16 => ?_)
        · refine lv_iload_n hx hb dX9_drop_39 rfl (lv_at hl 2 rfl) ?_
          refine lv_istore_n (lv' := [(3, .int (jI k)), (0, .ref (ad 40 0)), (1, .int (jI t)), (2, .int (jI k))]) hx hb dX9_drop_40 rfl hl (by decide) rfl (fun ls hl => ?_)
          have lp41 : ∀ (nn : Nat) (j : Int) (Xa : Nat → Int → Int → Int) (H : Heap) (locs : List Loc) (ls : Array Slot), (5 - j) < (nn : Int) → (Rng Xa) → (Frm [4500, 4600, 4700, 4800, 5600] X1 Xa) → (0 ≤ j ∧ j ≤ 5 ∧ k ≤ j ∧ j ≤ X 44 0 t - 1) → (MInv Xa) → (Sh 45 X Xa 0 (5 * t + k) (5 * t + j)) → (Sh 46 X Xa 0 (5 * t + k) (5 * t + j)) → (Sh 47 X Xa 0 (5 * t + k) (5 * t + j)) → (Sh 48 X Xa 0 (5 * t + k) (5 * t + j)) → (DrI X Xa t k j 0) → wd D tc base (ad, cnt, Xa, Y, ln) H → va_S (frA base) s.heap H locs → lv_has ls 5 [(0, .ref (ad 40 0)), (1, .int (jI t)), (2, .int (jI k)), (3, .int (jI j))] → W p l e ({ frames := 1, cells := 0, slots := 0, locals := 21 } : Room) s m av9 below meth c H locs 0 0 Q9 (F0 m 41 ls []) := by
            intro nn
            induction nn with
            | zero => intro j Xa H locs ls hm hRXa hGXa hj hMIXa hs45 hs46 hs47 hs48 hDa hw hS hl; exfalso; omega
            | succ nn ih41 =>
              intro j Xa H locs ls hm hRXa hGXa hj hMIXa hs45 hs46 hs47 hs48 hDa hw hS hl
              have hFXa : Frm [4001, 4500, 4600, 4700, 4800, 4400, 5600] X Xa := Frm.tr hFX1 (Frm.mono hGXa (by decide))
              refine lv_iload_n hx hb dX9_drop_41 rfl (lv_at hl 3 rfl) ?_
              refine lv_iconst (v := jI 1) hx hb dX9_drop_42 rfl ?_
              refine x_iadd hx hb dX9_drop_43 ?_
              refine lv_aload_n hx hb dX9_drop_44 rfl (lv_at hl 0 rfl) ?_
              refine x_geto hx hb hf9 hw (by first | exact Int.le_refl 0 | omega) (by first | exact zlt hc40 | omega) sl_40_3 lk13 dX9_drop_45 ?_
              refine lv_iload_n hx hb dX9_drop_48 rfl (lv_at hl 1 rfl) ?_
              refine x_iald hx hb hK.1 hw (by first | exact Int.le_refl 0 | omega) (by first | exact zlt hc44 | omega) ar_44 (len_E ar_44 (by decide)) (by omega) (by omega) (by omega) dX9_drop_49 ?_
              have e17 : ∀ p9 q9 : Int, Xa 44 p9 q9 = X 44 p9 q9 := fun p9 q9 => by rw [hGXa 44 p9 q9 (show 4400 ∉ [4500, 4600, 4700, 4800, 5600] by decide), hX1, u3_k _ _ _ _ (by decide)]
              rw [e17 0 t]
              have f18 : 0 ≤ X 44 0 t ∧ X 44 0 t ≤ 5 := hR 44 0 t
              refine x_icmp_ge (tgt := 214) hx hb (by omega) (by omega) dX9_drop_50 (by decide) (fun c19 => ?_) (fun c19 => ?_)
              · refine lv_aload_n hx hb dX9_drop_214 rfl (lv_at hl 0 rfl) ?_
                refine x_geto hx hb hf9 hw (by first | exact Int.le_refl 0 | omega) (by first | exact zlt hc40 | omega) sl_40_3 lk13 dX9_drop_215 ?_
                refine lv_iload_n hx hb dX9_drop_218 rfl (lv_at hl 1 rfl) ?_
                refine lv_dup2_11 hx hb dX9_drop_219 rfl rfl ?_
                refine x_iald hx hb hK.1 hw (by first | exact Int.le_refl 0 | omega) (by first | exact zlt hc44 | omega) ar_44 (len_E ar_44 (by decide)) (by omega) (by omega) (by omega) dX9_drop_220 ?_
                have e20 : ∀ p9 q9 : Int, Xa 44 p9 q9 = X 44 p9 q9 := fun p9 q9 => by rw [hGXa 44 p9 q9 (show 4400 ∉ [4500, 4600, 4700, 4800, 5600] by decide), hX1, u3_k _ _ _ _ (by decide)]
                rw [e20 0 t]
                have f21 : 0 ≤ X 44 0 t ∧ X 44 0 t ≤ 5 := hR 44 0 t
                refine lv_iconst (v := jI 1) hx hb dX9_drop_221 rfl ?_
                refine x_isub hx hb dX9_drop_222 ?_
                refine x_iast hx hb hK.1 hw hS (by first | exact Int.le_refl 0 | omega) (by first | exact zlt hc44 | omega) ar_44 (len_E ar_44 (by decide)) (by omega) (by omega) (by omega) dX9_drop_223 (fun H locs hw hS => ?_)
                obtain ⟨X22, hX22⟩ : ∃ Xq, Xq = u3 Xa 44 0 t ((X 44 0 t) - 1) := ⟨_, rfl⟩
                rw [← hX22] at hw
                have hRX22 : Rng X22 := by rw [hX22]; exact rng_set hRXa (show 0 ≤ ((X 44 0 t) - 1) ∧ ((X 44 0 t) - 1) ≤ 5 by omega)
                have hVX22 : X22 44 0 t = ((X 44 0 t) - 1) := by rw [hX22]; exact u3_s _ _ _ _ _
                have hFX22 : Frm [4001, 4500, 4600, 4700, 4800, 4400, 5600] X X22 := by rw [hX22]; exact Frm.set hFXa (show 4400 ∈ [4001, 4500, 4600, 4700, 4800, 4400, 5600] by decide)
                refine lv_aload_n hx hb dX9_drop_224 rfl (lv_at hl 0 rfl) ?_
                refine x_geto hx hb hf9 hw (by first | exact Int.le_refl 0 | omega) (by first | exact zlt hc40 | omega) sl_40_3 lk13 dX9_drop_225 ?_
                refine lv_iload_n hx hb dX9_drop_228 rfl (lv_at hl 1 rfl) ?_
                refine x_iald hx hb hK.1 hw (by first | exact Int.le_refl 0 | omega) (by first | exact zlt hc44 | omega) ar_44 (len_E ar_44 (by decide)) (by omega) (by omega) (by omega) dX9_drop_229 ?_
                rw [hVX22]
                rw [hQ9]
                refine ret_i (mc := 0) (ms := 0) hx hb hr hlocks hw hS (by first | exact Nat.le_of_ble_eq_true rfl | omega) (by first | exact Nat.le_of_ble_eq_true rfl | omega) dX9_drop_230 ?_
                have q23 : Frm [4400] Xa X22 := by rw [hX22]; exact Frm.set Frm.rf (show 4400 ∈ [4400] by decide)
                have e24 : X22 44 0 t = X 44 0 t - 1 := (by rw [hVX22]; try rw [hGXa 44 0 t (show 4400 ∉ [4500, 4600, 4700, 4800, 5600] by decide), hX1, u3_k _ _ _ _ (by decide)])
                have hD25 := (DrI.of (Xb := X22) hDa (fun p => (by rw [hX22, u3_k _ _ _ _ (by decide)]))).fin
                exact ⟨X22, rfl, hRX22, hFX22, minv_fdown (t := t) hMIXa (by rw [hGXa 40 0 20 (show 4021 ∉ [4500, 4600, 4700, 4800, 5600] by decide), hX1, u3_j _ _ _ _ (by decide)]; omega) q23 (fun j hj => by rw [hX22, u3_j _ _ _ _ hj]) (by rw [hVX22, hGXa 44 0 t (show 4400 ∉ [4500, 4600, 4700, 4800, 5600] by decide), hX1, u3_k _ _ _ _ (by decide)]; omega), by omega, (by (try delta Hid at *); first | exact Or.inr (Or.inr ((⟨by omega, by omega, by omega, by omega, by omega, by omega, by omega⟩))) | omega), fun h => ⟨(by rw [show X 44 0 t - 1 = j by omega]; exact Sh.of hs45 (by rw [hX22, u3_k _ _ _ _ (by decide)])), (by rw [show X 44 0 t - 1 = j by omega]; exact Sh.of hs46 (by rw [hX22, u3_k _ _ _ _ (by decide)])), (by rw [show X 44 0 t - 1 = j by omega]; exact Sh.of hs47 (by rw [hX22, u3_k _ _ _ _ (by decide)])), (by rw [show X 44 0 t - 1 = j by omega]; exact Sh.of hs48 (by rw [hX22, u3_k _ _ _ _ (by decide)]))⟩, fun h => (by exfalso; omega), fun y h => (by rw [hX22, u3_j _ _ _ _ h, hGXa 44 0 y (show 4400 ∉ [4500, 4600, 4700, 4800, 5600] by decide), hX1, u3_k _ _ _ _ (by decide)]), fun _ => ⟨fun y j a b c d e => hD25.1 y j a b c d (by omega) (by omega) (by omega), fun y j a b c d e => hD25.2 y j a b c d e⟩, fun q => (by exfalso; omega)⟩
              · refine lv_aload_n hx hb dX9_drop_53 rfl (lv_at hl 0 rfl) ?_
                refine x_geto hx hb hf9 hw (by first | exact Int.le_refl 0 | omega) (by first | exact zlt hc40 | omega) sl_40_4 lk17 dX9_drop_54 ?_
                refine lv_iconst (v := jI 5) hx hb dX9_drop_57 rfl ?_
                refine lv_iload_n hx hb dX9_drop_58 rfl (lv_at hl 1 rfl) ?_
                refine x_imul hx hb dX9_drop_59 ?_
                refine lv_iload_n hx hb dX9_drop_60 rfl (lv_at hl 3 rfl) ?_
                refine x_iadd hx hb dX9_drop_61 ?_
                refine lv_aload_n hx hb dX9_drop_62 rfl (lv_at hl 0 rfl) ?_
                refine x_geto hx hb hf9 hw (by first | exact Int.le_refl 0 | omega) (by first | exact zlt hc40 | omega) sl_40_4 lk17 dX9_drop_63 ?_
                refine lv_iconst (v := jI 5) hx hb dX9_drop_66 rfl ?_
                refine lv_iload_n hx hb dX9_drop_67 rfl (lv_at hl 1 rfl) ?_
                refine x_imul hx hb dX9_drop_68 ?_
                refine lv_iload_n hx hb dX9_drop_69 rfl (lv_at hl 3 rfl) ?_
                refine x_iadd hx hb dX9_drop_70 ?_
                refine lv_iconst (v := jI 1) hx hb dX9_drop_71 rfl ?_
                refine x_iadd hx hb dX9_drop_72 ?_
                refine x_iald hx hb hK.1 hw (by first | exact Int.le_refl 0 | omega) (by first | exact zlt hc45 | omega) ar_45 (len_E ar_45 (by decide)) (by omega) (by omega) (by omega) dX9_drop_73 ?_
                have f26 : 0 ≤ Xa 45 0 (((5 * t) + j) + 1) ∧ Xa 45 0 (((5 * t) + j) + 1) ≤ 19 := hRXa 45 0 (((5 * t) + j) + 1)
                refine x_iast hx hb hK.1 hw hS (by first | exact Int.le_refl 0 | omega) (by first | exact zlt hc45 | omega) ar_45 (len_E ar_45 (by decide)) (by omega) (by omega) (by omega) dX9_drop_74 (fun H locs hw hS => ?_)
                obtain ⟨X27, hX27⟩ : ∃ Xq, Xq = u3 Xa 45 0 ((5 * t) + j) (Xa 45 0 (((5 * t) + j) + 1)) := ⟨_, rfl⟩
                rw [← hX27] at hw
                have hRX27 : Rng X27 := by rw [hX27]; exact rng_set hRXa (show 0 ≤ (Xa 45 0 (((5 * t) + j) + 1)) ∧ (Xa 45 0 (((5 * t) + j) + 1)) ≤ 19 by omega)
                have hVX27 : X27 45 0 ((5 * t) + j) = (Xa 45 0 (((5 * t) + j) + 1)) := by rw [hX27]; exact u3_s _ _ _ _ _
                have hFX27 : Frm [4001, 4500, 4600, 4700, 4800, 4400, 5600] X X27 := by rw [hX27]; exact Frm.set hFXa (show 4500 ∈ [4001, 4500, 4600, 4700, 4800, 4400, 5600] by decide)
                refine lv_aload_n hx hb dX9_drop_75 rfl (lv_at hl 0 rfl) ?_
                refine x_geto hx hb hf9 hw (by first | exact Int.le_refl 0 | omega) (by first | exact zlt hc40 | omega) sl_40_5 lk20 dX9_drop_76 ?_
                refine lv_iconst (v := jI 5) hx hb dX9_drop_79 rfl ?_
                refine lv_iload_n hx hb dX9_drop_80 rfl (lv_at hl 1 rfl) ?_
                refine x_imul hx hb dX9_drop_81 ?_
                refine lv_iload_n hx hb dX9_drop_82 rfl (lv_at hl 3 rfl) ?_
                refine x_iadd hx hb dX9_drop_83 ?_
                refine lv_aload_n hx hb dX9_drop_84 rfl (lv_at hl 0 rfl) ?_
                refine x_geto hx hb hf9 hw (by first | exact Int.le_refl 0 | omega) (by first | exact zlt hc40 | omega) sl_40_5 lk20 dX9_drop_85 ?_
                refine lv_iconst (v := jI 5) hx hb dX9_drop_88 rfl ?_
                refine lv_iload_n hx hb dX9_drop_89 rfl (lv_at hl 1 rfl) ?_
                refine x_imul hx hb dX9_drop_90 ?_
                refine lv_iload_n hx hb dX9_drop_91 rfl (lv_at hl 3 rfl) ?_
                refine x_iadd hx hb dX9_drop_92 ?_
                refine lv_iconst (v := jI 1) hx hb dX9_drop_93 rfl ?_
                refine x_iadd hx hb dX9_drop_94 ?_
                refine x_iald hx hb hK.1 hw (by first | exact Int.le_refl 0 | omega) (by first | exact zlt hc46 | omega) ar_46 (len_E ar_46 (by decide)) (by omega) (by omega) (by omega) dX9_drop_95 ?_
                have e28 : ∀ p9 q9 : Int, X27 46 p9 q9 = Xa 46 p9 q9 := fun p9 q9 => by rw [hX27, u3_k _ _ _ _ (by decide)]
                rw [e28 0 (((5 * t) + j) + 1)]
                have f29 : 0 ≤ Xa 46 0 (((5 * t) + j) + 1) ∧ Xa 46 0 (((5 * t) + j) + 1) ≤ 5 := hRXa 46 0 (((5 * t) + j) + 1)
                refine x_iast hx hb hK.1 hw hS (by first | exact Int.le_refl 0 | omega) (by first | exact zlt hc46 | omega) ar_46 (len_E ar_46 (by decide)) (by omega) (by omega) (by omega) dX9_drop_96 (fun H locs hw hS => ?_)
                obtain ⟨X30, hX30⟩ : ∃ Xq, Xq = u3 X27 46 0 ((5 * t) + j) (Xa 46 0 (((5 * t) + j) + 1)) := ⟨_, rfl⟩
                rw [← hX30] at hw
                have hRX30 : Rng X30 := by rw [hX30]; exact rng_set hRX27 (show 0 ≤ (Xa 46 0 (((5 * t) + j) + 1)) ∧ (Xa 46 0 (((5 * t) + j) + 1)) ≤ 5 by omega)
                have hVX30 : X30 46 0 ((5 * t) + j) = (Xa 46 0 (((5 * t) + j) + 1)) := by rw [hX30]; exact u3_s _ _ _ _ _
                have hFX30 : Frm [4001, 4500, 4600, 4700, 4800, 4400, 5600] X X30 := by rw [hX30]; exact Frm.set hFX27 (show 4600 ∈ [4001, 4500, 4600, 4700, 4800, 4400, 5600] by decide)
                refine lv_aload_n hx hb dX9_drop_97 rfl (lv_at hl 0 rfl) ?_
                refine x_geto hx hb hf9 hw (by first | exact Int.le_refl 0 | omega) (by first | exact zlt hc40 | omega) sl_40_6 lk23 dX9_drop_98 ?_
                refine lv_iconst (v := jI 5) hx hb dX9_drop_101 rfl ?_
                refine lv_iload_n hx hb dX9_drop_102 rfl (lv_at hl 1 rfl) ?_
                refine x_imul hx hb dX9_drop_103 ?_
                refine lv_iload_n hx hb dX9_drop_104 rfl (lv_at hl 3 rfl) ?_
                refine x_iadd hx hb dX9_drop_105 ?_
                refine lv_aload_n hx hb dX9_drop_106 rfl (lv_at hl 0 rfl) ?_
                refine x_geto hx hb hf9 hw (by first | exact Int.le_refl 0 | omega) (by first | exact zlt hc40 | omega) sl_40_6 lk23 dX9_drop_107 ?_
                refine lv_iconst (v := jI 5) hx hb dX9_drop_110 rfl ?_
                refine lv_iload_n hx hb dX9_drop_111 rfl (lv_at hl 1 rfl) ?_
                refine x_imul hx hb dX9_drop_112 ?_
                refine lv_iload_n hx hb dX9_drop_113 rfl (lv_at hl 3 rfl) ?_
                refine x_iadd hx hb dX9_drop_114 ?_
                refine lv_iconst (v := jI 1) hx hb dX9_drop_115 rfl ?_
                refine x_iadd hx hb dX9_drop_116 ?_
                refine x_lald hx hb hK.1 hw (by first | exact Int.le_refl 0 | omega) (by first | exact zlt hc47 | omega) ar_47 (len_E ar_47 (by decide)) (by omega) (by omega) (by omega) dX9_drop_117 ?_
                have e31 : ∀ p9 q9 : Int, X30 47 p9 q9 = Xa 47 p9 q9 := fun p9 q9 => by rw [hX30, u3_k _ _ _ _ (by decide), hX27, u3_k _ _ _ _ (by decide)]
                rw [e31 0 (((5 * t) + j) + 1)]
                have f32 : (-9223372036854775808) ≤ Xa 47 0 (((5 * t) + j) + 1) ∧ Xa 47 0 (((5 * t) + j) + 1) ≤ 9223372036854775807 := hRXa 47 0 (((5 * t) + j) + 1)
                refine x_last hx hb hK.1 hw hS (by first | exact Int.le_refl 0 | omega) (by first | exact zlt hc47 | omega) ar_47 (len_E ar_47 (by decide)) (by omega) (by omega) (by omega) dX9_drop_118 (fun H locs hw hS => ?_)
                obtain ⟨X33, hX33⟩ : ∃ Xq, Xq = u3 X30 47 0 ((5 * t) + j) (Xa 47 0 (((5 * t) + j) + 1)) := ⟨_, rfl⟩
                rw [← hX33] at hw
                have hRX33 : Rng X33 := by rw [hX33]; exact rng_set hRX30 (show (-9223372036854775808) ≤ (Xa 47 0 (((5 * t) + j) + 1)) ∧ (Xa 47 0 (((5 * t) + j) + 1)) ≤ 9223372036854775807 by omega)
                have hVX33 : X33 47 0 ((5 * t) + j) = (Xa 47 0 (((5 * t) + j) + 1)) := by rw [hX33]; exact u3_s _ _ _ _ _
                have hFX33 : Frm [4001, 4500, 4600, 4700, 4800, 4400, 5600] X X33 := by rw [hX33]; exact Frm.set hFX30 (show 4700 ∈ [4001, 4500, 4600, 4700, 4800, 4400, 5600] by decide)
                refine lv_aload_n hx hb dX9_drop_119 rfl (lv_at hl 0 rfl) ?_
                refine x_geto hx hb hf9 hw (by first | exact Int.le_refl 0 | omega) (by first | exact zlt hc40 | omega) sl_40_7 lk27 dX9_drop_120 ?_
                refine lv_iconst (v := jI 5) hx hb dX9_drop_123 rfl ?_
                refine lv_iload_n hx hb dX9_drop_124 rfl (lv_at hl 1 rfl) ?_
                refine x_imul hx hb dX9_drop_125 ?_
                refine lv_iload_n hx hb dX9_drop_126 rfl (lv_at hl 3 rfl) ?_
                refine x_iadd hx hb dX9_drop_127 ?_
                refine lv_aload_n hx hb dX9_drop_128 rfl (lv_at hl 0 rfl) ?_
                refine x_geto hx hb hf9 hw (by first | exact Int.le_refl 0 | omega) (by first | exact zlt hc40 | omega) sl_40_7 lk27 dX9_drop_129 ?_
                refine lv_iconst (v := jI 5) hx hb dX9_drop_132 rfl ?_
                refine lv_iload_n hx hb dX9_drop_133 rfl (lv_at hl 1 rfl) ?_
                refine x_imul hx hb dX9_drop_134 ?_
                refine lv_iload_n hx hb dX9_drop_135 rfl (lv_at hl 3 rfl) ?_
                refine x_iadd hx hb dX9_drop_136 ?_
                refine lv_iconst (v := jI 1) hx hb dX9_drop_137 rfl ?_
                refine x_iadd hx hb dX9_drop_138 ?_
                refine x_zald hx hb hK.1 hw (by first | exact Int.le_refl 0 | omega) (by first | exact zlt hc48 | omega) ar_48 (len_E ar_48 (by decide)) (by omega) (by omega) (by omega) dX9_drop_139 ?_
                have e34 : ∀ p9 q9 : Int, X33 48 p9 q9 = Xa 48 p9 q9 := fun p9 q9 => by rw [hX33, u3_k _ _ _ _ (by decide), hX30, u3_k _ _ _ _ (by decide), hX27, u3_k _ _ _ _ (by decide)]
                rw [e34 0 (((5 * t) + j) + 1)]
                have f35 : 0 ≤ Xa 48 0 (((5 * t) + j) + 1) ∧ Xa 48 0 (((5 * t) + j) + 1) ≤ 1 := hRXa 48 0 (((5 * t) + j) + 1)
                refine x_zast hx hb hK.1 hw hS (by first | exact Int.le_refl 0 | omega) (by first | exact zlt hc48 | omega) ar_48 (len_E ar_48 (by decide)) (by omega) (by omega) (by omega) (by omega) (by omega) dX9_drop_140 (fun H locs hw hS => ?_)
                obtain ⟨X36, hX36⟩ : ∃ Xq, Xq = u3 X33 48 0 ((5 * t) + j) (Xa 48 0 (((5 * t) + j) + 1)) := ⟨_, rfl⟩
                rw [← hX36] at hw
                have hRX36 : Rng X36 := by rw [hX36]; exact rng_set hRX33 (show 0 ≤ (Xa 48 0 (((5 * t) + j) + 1)) ∧ (Xa 48 0 (((5 * t) + j) + 1)) ≤ 1 by omega)
                have hVX36 : X36 48 0 ((5 * t) + j) = (Xa 48 0 (((5 * t) + j) + 1)) := by rw [hX36]; exact u3_s _ _ _ _ _
                have hFX36 : Frm [4001, 4500, 4600, 4700, 4800, 4400, 5600] X X36 := by rw [hX36]; exact Frm.set hFX33 (show 4800 ∈ [4001, 4500, 4600, 4700, 4800, 4400, 5600] by decide)
                refine lv_iconst (v := jI 0) hx hb dX9_drop_141 rfl ?_
                refine lv_istore (lv' := [(4, .int (jI 0)), (0, .ref (ad 40 0)), (1, .int (jI t)), (2, .int (jI k)), (3, .int (jI j))]) hx hb dX9_drop_142 hl (by decide) rfl (fun ls hl => ?_)
                have lp144 : ∀ (nn : Nat) (x : Int) (Xb : Nat → Int → Int → Int) (H : Heap) (locs : List Loc) (ls : Array Slot), (30 - x) < (nn : Int) → (Rng Xb) → (Frm [5600] X36 Xb) → (0 ≤ x ∧ x ≤ 30) → (Fld Xb t j x) → (DrI X Xb t k j x) → wd D tc base (ad, cnt, Xb, Y, ln) H → va_S (frA base) s.heap H locs → lv_has ls 5 [(0, .ref (ad 40 0)), (1, .int (jI t)), (2, .int (jI k)), (3, .int (jI j)), (4, .int (jI x))] → W p l e ({ frames := 1, cells := 0, slots := 0, locals := 21 } : Room) s m av9 below meth c H locs 0 0 Q9 (F0 m 144 ls []) := by
                  intro nn
                  induction nn with
                  | zero => intro x Xb H locs ls hm hRXb hGXb hx4 hFl hDb hw hS hl; exfalso; omega
                  | succ nn ih144 =>
                    intro x Xb H locs ls hm hRXb hGXb hx4 hFl hDb hw hS hl
                    have hFXb : Frm [4001, 4500, 4600, 4700, 4800, 4400, 5600] X Xb := Frm.tr hFX36 (Frm.mono hGXb (by decide))
                    refine lv_iload hx hb dX9_drop_144 (lv_at hl 4 rfl) ?_
                    refine lv_aload_n hx hb dX9_drop_146 rfl (lv_at hl 0 rfl) ?_
                    refine x_geti (jz := 13) hx hb hf9 hw (by first | exact Int.le_refl 0 | omega) (by first | exact zlt hc40 | omega) sl_40_13 rfl lk151 dX9_drop_147 ?_
                    have e37 : Xb 40 0 13 = X 40 0 13 := by rw [hGXb 40 0 13 (show 4014 ∉ [5600] by decide), hX36, u3_k _ _ _ _ (by decide), hX33, u3_k _ _ _ _ (by decide), hX30, u3_k _ _ _ _ (by decide), hX27, u3_k _ _ _ _ (by decide), hGXa 40 0 13 (show 4014 ∉ [4500, 4600, 4700, 4800, 5600] by decide), hX1, u3_j _ _ _ _ (by decide)]
                    rw [e37]
                    have f38 : 0 ≤ X 40 0 13 ∧ X 40 0 13 ≤ 30 := hR 40 0 13
                    refine x_icmp_ge (tgt := 208) hx hb (by omega) (by omega) dX9_drop_150 (by decide) (fun c39 => ?_) (fun c39 => ?_)
                    · refine lv_iinc (v := jI (j + 1)) (lv' := [(3, .int (jI (j + 1))), (0, .ref (ad 40 0)), (1, .int (jI t)), (2, .int (jI k)), (4, .int (jI x))]) hx hb dX9_drop_208 hl (k := 3) rfl (jI_add _ _) (by decide) rfl (fun ls hl => ?_)
                      refine lv_goto (tgt := 41) hx hb dX9_drop_211 (by decide) ?_
                      have q40 : Frm [4500, 4600, 4700, 4800, 5600] X1 Xa := Frm.tr Frm.rf (Frm.mono hGXa (by decide))
                      have q41 : Frm [4500, 4600, 4700, 4800, 5600] X1 X27 := by rw [hX27]; exact Frm.set q40 (show 4500 ∈ [4500, 4600, 4700, 4800, 5600] by decide)
                      have q42 : Frm [4500, 4600, 4700, 4800, 5600] X1 X30 := by rw [hX30]; exact Frm.set q41 (show 4600 ∈ [4500, 4600, 4700, 4800, 5600] by decide)
                      have q43 : Frm [4500, 4600, 4700, 4800, 5600] X1 X33 := by rw [hX33]; exact Frm.set q42 (show 4700 ∈ [4500, 4600, 4700, 4800, 5600] by decide)
                      have q44 : Frm [4500, 4600, 4700, 4800, 5600] X1 X36 := by rw [hX36]; exact Frm.set q43 (show 4800 ∈ [4500, 4600, 4700, 4800, 5600] by decide)
                      have q45 : Frm [4500, 4600, 4700, 4800, 5600] X1 Xb := Frm.tr q44 (Frm.mono hGXb (by decide))
                      exact ih41 (j + 1) Xb _ _ _ (by omega) hRXb q45 (by omega) (hFl.out (by rw [hGXb 40 0 13 (show 4014 ∉ [5600] by decide), hX36, u3_k _ _ _ _ (by decide), hX33, u3_k _ _ _ _ (by decide), hX30, u3_k _ _ _ _ (by decide), hX27, u3_k _ _ _ _ (by decide), hGXa 40 0 13 (show 4014 ∉ [4500, 4600, 4700, 4800, 5600] by decide), hX1, u3_j _ _ _ _ (by decide)]; omega)) (by rw [show 5 * t + (j + 1) = 5 * t + j + 1 by omega]; exact Sh.step (Xc := Xa) hs45 (by omega) rfl (by rw [(funext fun y9 => funext fun j9 => hGXb 45 y9 j9 (show 4500 ∉ [5600] by decide) : Xb 45 = X36 45), hX36, u3_k _ _ _ _ (by decide), hX33, u3_k _ _ _ _ (by decide), hX30, u3_k _ _ _ _ (by decide), hX27]) (by first | rfl | (congr 1))) (by rw [show 5 * t + (j + 1) = 5 * t + j + 1 by omega]; exact Sh.step (Xc := X27) hs46 (by omega) (by rw [hX27, u3_k _ _ _ _ (by decide)]) (by rw [(funext fun y9 => funext fun j9 => hGXb 46 y9 j9 (show 4600 ∉ [5600] by decide) : Xb 46 = X36 46), hX36, u3_k _ _ _ _ (by decide), hX33, u3_k _ _ _ _ (by decide), hX30]) (by first | rfl | (congr 1))) (by rw [show 5 * t + (j + 1) = 5 * t + j + 1 by omega]; exact Sh.step (Xc := X30) hs47 (by omega) (by rw [hX30, u3_k _ _ _ _ (by decide), hX27, u3_k _ _ _ _ (by decide)]) (by rw [(funext fun y9 => funext fun j9 => hGXb 47 y9 j9 (show 4700 ∉ [5600] by decide) : Xb 47 = X36 47), hX36, u3_k _ _ _ _ (by decide), hX33]) (by first | rfl | (congr 1))) (by rw [show 5 * t + (j + 1) = 5 * t + j + 1 by omega]; exact Sh.step (Xc := X33) hs48 (by omega) (by rw [hX33, u3_k _ _ _ _ (by decide), hX30, u3_k _ _ _ _ (by decide), hX27, u3_k _ _ _ _ (by decide)]) (by rw [(funext fun y9 => funext fun j9 => hGXb 48 y9 j9 (show 4800 ∉ [5600] by decide) : Xb 48 = X36 48), hX36]) (by first | rfl | (congr 1))) (DrI.out hDb (by omega)) hw hS (lv_sub hl [1, 2, 3, 0] rfl)
                    · refine lv_aload_n hx hb dX9_drop_153 rfl (lv_at hl 0 rfl) ?_
                      refine x_geto hx hb hf9 hw (by first | exact Int.le_refl 0 | omega) (by first | exact zlt hc40 | omega) sl_40_15 lk48 dX9_drop_154 ?_
                      refine lv_iconst (v := jI 5) hx hb dX9_drop_157 rfl ?_
                      refine lv_iload hx hb dX9_drop_158 (lv_at hl 4 rfl) ?_
                      refine x_imul hx hb dX9_drop_160 ?_
                      refine lv_iload_n hx hb dX9_drop_161 rfl (lv_at hl 3 rfl) ?_
                      refine x_iadd hx hb dX9_drop_162 ?_
                      refine lv_aload_n hx hb dX9_drop_163 rfl (lv_at hl 0 rfl) ?_
                      refine x_geto hx hb hf9 hw (by first | exact Int.le_refl 0 | omega) (by first | exact zlt hc40 | omega) sl_40_14 lk45 dX9_drop_164 ?_
                      refine lv_iload hx hb dX9_drop_167 (lv_at hl 4 rfl) ?_
                      refine x_iald hx hb hK.1 hw (by first | exact Int.le_refl 0 | omega) (by first | exact zlt hc55 | omega) ar_55 (len_E ar_55 (by decide)) (by omega) (by omega) (by omega) dX9_drop_169 ?_
                      have e46 : ∀ p9 q9 : Int, Xb 55 p9 q9 = X 55 p9 q9 := fun p9 q9 => by rw [hGXb 55 p9 q9 (show 5500 ∉ [5600] by decide), hX36, u3_k _ _ _ _ (by decide), hX33, u3_k _ _ _ _ (by decide), hX30, u3_k _ _ _ _ (by decide), hX27, u3_k _ _ _ _ (by decide), hGXa 55 p9 q9 (show 5500 ∉ [4500, 4600, 4700, 4800, 5600] by decide), hX1, u3_k _ _ _ _ (by decide)]
                      rw [e46 0 x]
                      have f47 : 0 ≤ X 55 0 x ∧ X 55 0 x ≤ 7 := hR 55 0 x
                      refine lv_iload_n hx hb dX9_drop_170 rfl (lv_at hl 1 rfl) ?_
                      refine x_icmp_ne (tgt := 190) hx hb (by omega) (by omega) dX9_drop_171 (by decide) (fun c48 => ?_) (fun c48 => ?_)
                      · refine lv_aload_n hx hb dX9_drop_190 rfl (lv_at hl 0 rfl) ?_
                        refine x_geto hx hb hf9 hw (by first | exact Int.le_refl 0 | omega) (by first | exact zlt hc40 | omega) sl_40_15 lk48 dX9_drop_191 ?_
                        refine lv_iconst (v := jI 5) hx hb dX9_drop_194 rfl ?_
                        refine lv_iload hx hb dX9_drop_195 (lv_at hl 4 rfl) ?_
                        refine x_imul hx hb dX9_drop_197 ?_
                        refine lv_iload_n hx hb dX9_drop_198 rfl (lv_at hl 3 rfl) ?_
                        refine x_iadd hx hb dX9_drop_199 ?_
                        refine x_lald hx hb hK.1 hw (by first | exact Int.le_refl 0 | omega) (by first | exact zlt hc56 | omega) ar_56 (len_E ar_56 (by decide)) (by omega) (by omega) (by omega) dX9_drop_200 ?_
                        have f49 : (-9223372036854775808) ≤ Xb 56 0 ((5 * x) + j) ∧ Xb 56 0 ((5 * x) + j) ≤ 9223372036854775807 := hRXb 56 0 ((5 * x) + j)
                        refine x_last hx hb hK.1 hw hS (by first | exact Int.le_refl 0 | omega) (by first | exact zlt hc56 | omega) ar_56 (len_E ar_56 (by decide)) (by omega) (by omega) (by omega) dX9_drop_201 (fun H locs hw hS => ?_)
                        obtain ⟨X50, hX50⟩ : ∃ Xq, Xq = u3 Xb 56 0 ((5 * x) + j) (Xb 56 0 ((5 * x) + j)) := ⟨_, rfl⟩
                        rw [← hX50] at hw
                        have hRX50 : Rng X50 := by rw [hX50]; exact rng_set hRXb (show (-9223372036854775808) ≤ (Xb 56 0 ((5 * x) + j)) ∧ (Xb 56 0 ((5 * x) + j)) ≤ 9223372036854775807 by omega)
                        have hVX50 : X50 56 0 ((5 * x) + j) = (Xb 56 0 ((5 * x) + j)) := by rw [hX50]; exact u3_s _ _ _ _ _
                        have hFX50 : Frm [4001, 4500, 4600, 4700, 4800, 4400, 5600] X X50 := by rw [hX50]; exact Frm.set hFXb (show 5600 ∈ [4001, 4500, 4600, 4700, 4800, 4400, 5600] by decide)
                        refine lv_iinc (v := jI (x + 1)) (lv' := [(4, .int (jI (x + 1))), (0, .ref (ad 40 0)), (1, .int (jI t)), (2, .int (jI k)), (3, .int (jI j))]) hx hb dX9_drop_202 hl (k := 4) rfl (jI_add _ _) (by decide) rfl (fun ls hl => ?_)
                        refine lv_goto (tgt := 144) hx hb dX9_drop_205 (by decide) ?_
                        have q51 : Frm [5600] X36 Xb := Frm.tr Frm.rf (Frm.mono hGXb (by decide))
                        have q52 : Frm [5600] X36 X50 := by rw [hX50]; exact Frm.set q51 (show 5600 ∈ [5600] by decide)
                        exact ih144 (x + 1) X50 _ _ _ (by omega) hRX50 q52 (by omega) ((by first | (rw [hX50, u3_id]; exact hFl.skip (by rw [hGXb 55 0 x (show 5500 ∉ [5600] by decide), hX36, u3_k _ _ _ _ (by decide), hX33, u3_k _ _ _ _ (by decide), hX30, u3_k _ _ _ _ (by decide), hX27, u3_k _ _ _ _ (by decide), hGXa 55 0 x (show 5500 ∉ [4500, 4600, 4700, 4800, 5600] by decide), hX1, u3_k _ _ _ _ (by decide)]; omega)) | (rw [hX50]; exact hFl.step_drop hRXb ⟨by omega, (by rw [hGXb 40 0 13 (show 4014 ∉ [5600] by decide), hX36, u3_k _ _ _ _ (by decide), hX33, u3_k _ _ _ _ (by decide), hX30, u3_k _ _ _ _ (by decide), hX27, u3_k _ _ _ _ (by decide), hGXa 40 0 13 (show 4014 ∉ [4500, 4600, 4700, 4800, 5600] by decide), hX1, u3_j _ _ _ _ (by decide)]; omega)⟩ (by rw [hGXb 55 0 x (show 5500 ∉ [5600] by decide), hX36, u3_k _ _ _ _ (by decide), hX33, u3_k _ _ _ _ (by decide), hX30, u3_k _ _ _ _ (by decide), hX27, u3_k _ _ _ _ (by decide), hGXa 55 0 x (show 5500 ∉ [4500, 4600, 4700, 4800, 5600] by decide), hX1, u3_k _ _ _ _ (by decide)]; omega) ⟨by omega, (by rw [hGXb 44 0 t (show 4400 ∉ [5600] by decide), hX36, u3_k _ _ _ _ (by decide), hX33, u3_k _ _ _ _ (by decide), hX30, u3_k _ _ _ _ (by decide), hX27, u3_k _ _ _ _ (by decide), hGXa 44 0 t (show 4400 ∉ [4500, 4600, 4700, 4800, 5600] by decide), hX1, u3_k _ _ _ _ (by decide)]; omega)⟩ (by rw [show Xb 46 0 (5 * t + j) = Xa 46 0 (5 * t + (j + 1)) from (by rw [hGXb 46 0 (5 * t + j) (show 4600 ∉ [5600] by decide), hX36, u3_k _ _ _ _ (by decide), hX33, u3_k _ _ _ _ (by decide)]; rw [hVX30, Int.add_assoc]), show Xb 46 0 (5 * t + (j + 1)) = Xa 46 0 (5 * t + (j + 1)) from (by rw [hGXb 46 0 (5 * t + (j + 1)) (show 4600 ∉ [5600] by decide), hX36, u3_k _ _ _ _ (by decide), hX33, u3_k _ _ _ _ (by decide), hX30, u3_j _ _ _ _ (by omega), hX27, u3_k _ _ _ _ (by decide)])])))) ((by first | exact DrI.no hDb (fun q => by omega) hX50 | exact DrI.yes (v := (Xb 56 0 ((5 * x) + j))) hDb ⟨by omega, by omega⟩ ⟨by omega, by omega⟩ (by omega) (by omega) hX50 rfl)) hw hS (lv_sub hl [1, 2, 3, 4, 0] rfl)
                      · refine lv_aload_n hx hb dX9_drop_174 rfl (lv_at hl 0 rfl) ?_
                        refine x_geto hx hb hf9 hw (by first | exact Int.le_refl 0 | omega) (by first | exact zlt hc40 | omega) sl_40_15 lk48 dX9_drop_175 ?_
                        refine lv_iconst (v := jI 5) hx hb dX9_drop_178 rfl ?_
                        refine lv_iload hx hb dX9_drop_179 (lv_at hl 4 rfl) ?_
                        refine x_imul hx hb dX9_drop_181 ?_
                        refine lv_iload_n hx hb dX9_drop_182 rfl (lv_at hl 3 rfl) ?_
                        refine x_iadd hx hb dX9_drop_183 ?_
                        refine lv_iconst (v := jI 1) hx hb dX9_drop_184 rfl ?_
                        refine x_iadd hx hb dX9_drop_185 ?_
                        refine x_lald hx hb hK.1 hw (by first | exact Int.le_refl 0 | omega) (by first | exact zlt hc56 | omega) ar_56 (len_E ar_56 (by decide)) (by omega) (by omega) (by omega) dX9_drop_186 ?_
                        have f53 : (-9223372036854775808) ≤ Xb 56 0 (((5 * x) + j) + 1) ∧ Xb 56 0 (((5 * x) + j) + 1) ≤ 9223372036854775807 := hRXb 56 0 (((5 * x) + j) + 1)
                        refine lv_goto (tgt := 201) hx hb dX9_drop_187 (by decide) ?_
                        refine x_last hx hb hK.1 hw hS (by first | exact Int.le_refl 0 | omega) (by first | exact zlt hc56 | omega) ar_56 (len_E ar_56 (by decide)) (by omega) (by omega) (by omega) dX9_drop_201 (fun H locs hw hS => ?_)
                        obtain ⟨X54, hX54⟩ : ∃ Xq, Xq = u3 Xb 56 0 ((5 * x) + j) (Xb 56 0 (((5 * x) + j) + 1)) := ⟨_, rfl⟩
                        rw [← hX54] at hw
                        have hRX54 : Rng X54 := by rw [hX54]; exact rng_set hRXb (show (-9223372036854775808) ≤ (Xb 56 0 (((5 * x) + j) + 1)) ∧ (Xb 56 0 (((5 * x) + j) + 1)) ≤ 9223372036854775807 by omega)
                        have hVX54 : X54 56 0 ((5 * x) + j) = (Xb 56 0 (((5 * x) + j) + 1)) := by rw [hX54]; exact u3_s _ _ _ _ _
                        have hFX54 : Frm [4001, 4500, 4600, 4700, 4800, 4400, 5600] X X54 := by rw [hX54]; exact Frm.set hFXb (show 5600 ∈ [4001, 4500, 4600, 4700, 4800, 4400, 5600] by decide)
                        refine lv_iinc (v := jI (x + 1)) (lv' := [(4, .int (jI (x + 1))), (0, .ref (ad 40 0)), (1, .int (jI t)), (2, .int (jI k)), (3, .int (jI j))]) hx hb dX9_drop_202 hl (k := 4) rfl (jI_add _ _) (by decide) rfl (fun ls hl => ?_)
                        refine lv_goto (tgt := 144) hx hb dX9_drop_205 (by decide) ?_
                        have q55 : Frm [5600] X36 Xb := Frm.tr Frm.rf (Frm.mono hGXb (by decide))
                        have q56 : Frm [5600] X36 X54 := by rw [hX54]; exact Frm.set q55 (show 5600 ∈ [5600] by decide)
                        exact ih144 (x + 1) X54 _ _ _ (by omega) hRX54 q56 (by omega) ((by first | (rw [hX54, u3_id]; exact hFl.skip (by rw [hGXb 55 0 x (show 5500 ∉ [5600] by decide), hX36, u3_k _ _ _ _ (by decide), hX33, u3_k _ _ _ _ (by decide), hX30, u3_k _ _ _ _ (by decide), hX27, u3_k _ _ _ _ (by decide), hGXa 55 0 x (show 5500 ∉ [4500, 4600, 4700, 4800, 5600] by decide), hX1, u3_k _ _ _ _ (by decide)]; omega)) | (rw [hX54]; exact hFl.step_drop hRXb ⟨by omega, (by rw [hGXb 40 0 13 (show 4014 ∉ [5600] by decide), hX36, u3_k _ _ _ _ (by decide), hX33, u3_k _ _ _ _ (by decide), hX30, u3_k _ _ _ _ (by decide), hX27, u3_k _ _ _ _ (by decide), hGXa 40 0 13 (show 4014 ∉ [4500, 4600, 4700, 4800, 5600] by decide), hX1, u3_j _ _ _ _ (by decide)]; omega)⟩ (by rw [hGXb 55 0 x (show 5500 ∉ [5600] by decide), hX36, u3_k _ _ _ _ (by decide), hX33, u3_k _ _ _ _ (by decide), hX30, u3_k _ _ _ _ (by decide), hX27, u3_k _ _ _ _ (by decide), hGXa 55 0 x (show 5500 ∉ [4500, 4600, 4700, 4800, 5600] by decide), hX1, u3_k _ _ _ _ (by decide)]; omega) ⟨by omega, (by rw [hGXb 44 0 t (show 4400 ∉ [5600] by decide), hX36, u3_k _ _ _ _ (by decide), hX33, u3_k _ _ _ _ (by decide), hX30, u3_k _ _ _ _ (by decide), hX27, u3_k _ _ _ _ (by decide), hGXa 44 0 t (show 4400 ∉ [4500, 4600, 4700, 4800, 5600] by decide), hX1, u3_k _ _ _ _ (by decide)]; omega)⟩ (by rw [show Xb 46 0 (5 * t + j) = Xa 46 0 (5 * t + (j + 1)) from (by rw [hGXb 46 0 (5 * t + j) (show 4600 ∉ [5600] by decide), hX36, u3_k _ _ _ _ (by decide), hX33, u3_k _ _ _ _ (by decide)]; rw [hVX30, Int.add_assoc]), show Xb 46 0 (5 * t + (j + 1)) = Xa 46 0 (5 * t + (j + 1)) from (by rw [hGXb 46 0 (5 * t + (j + 1)) (show 4600 ∉ [5600] by decide), hX36, u3_k _ _ _ _ (by decide), hX33, u3_k _ _ _ _ (by decide), hX30, u3_j _ _ _ _ (by omega), hX27, u3_k _ _ _ _ (by decide)])])))) ((by first | exact DrI.no hDb (fun q => by omega) hX54 | exact DrI.yes (v := (Xb 56 0 (((5 * x) + j) + 1))) hDb ⟨by omega, by omega⟩ ⟨by omega, by omega⟩ (by omega) (by omega) hX54 rfl)) hw hS (lv_sub hl [1, 2, 3, 4, 0] rfl)
                have q57 : Frm [4500, 4600, 4700, 4800] Xa X27 := by rw [hX27]; exact Frm.set Frm.rf (show 4500 ∈ [4500, 4600, 4700, 4800] by decide)
                have q58 : Frm [4500, 4600, 4700, 4800] Xa X30 := by rw [hX30]; exact Frm.set q57 (show 4600 ∈ [4500, 4600, 4700, 4800] by decide)
                have q59 : Frm [4500, 4600, 4700, 4800] Xa X33 := by rw [hX33]; exact Frm.set q58 (show 4700 ∈ [4500, 4600, 4700, 4800] by decide)
                have q60 : Frm [4500, 4600, 4700, 4800] Xa X36 := by rw [hX36]; exact Frm.set q59 (show 4800 ∈ [4500, 4600, 4700, 4800] by decide)
                exact lp144 (30 - 0 : Int).toNat.succ 0 X36 _ _ _ (by omega) hRX36 Frm.rf (by omega) (Fld.in_drop hMIXa hRXa (by rw [hGXa 40 0 20 (show 4021 ∉ [4500, 4600, 4700, 4800, 5600] by decide), hX1, u3_j _ _ _ _ (by decide)]; omega) (by omega) ⟨by omega, (by rw [hGXa 44 0 t (show 4400 ∉ [4500, 4600, 4700, 4800, 5600] by decide), hX1, u3_k _ _ _ _ (by decide)]; omega)⟩ q60 (fun q hq => ⟨(by rw [hX36, u3_k _ _ _ _ (by decide), hX33, u3_k _ _ _ _ (by decide), hX30, u3_j _ _ _ _ hq, hX27, u3_k _ _ _ _ (by decide)]), (by rw [hX36, u3_k _ _ _ _ (by decide), hX33, u3_j _ _ _ _ hq, hX30, u3_k _ _ _ _ (by decide), hX27, u3_k _ _ _ _ (by decide)])⟩) ⟨(by rw [hX36, u3_k _ _ _ _ (by decide), hX33, u3_k _ _ _ _ (by decide)]; rw [hVX30, Int.add_assoc]), (by rw [hX36, u3_k _ _ _ _ (by decide)]; rw [hVX33, Int.add_assoc])⟩) (DrI.of hDa (fun p => (by rw [hX36, u3_k _ _ _ _ (by decide), hX33, u3_k _ _ _ _ (by decide), hX30, u3_k _ _ _ _ (by decide), hX27, u3_k _ _ _ _ (by decide)]))) hw hS (lv_sub hl [1, 2, 3, 4, 0] rfl)
          have q62 : Frm [4001] X X1 := by rw [hX1]; exact Frm.set Frm.rf (show 4001 ∈ [4001] by decide)
          have hMq61 : MInv X1 := minv_frm hMI q62 (by decide)
          exact lp41 (5 - k : Int).toNat.succ k X1 _ _ _ (by omega) hRX1 Frm.rf (by omega) (hMq61) (Sh.in_ (by rw [hX1, u3_k _ _ _ _ (by decide)])) (Sh.in_ (by rw [hX1, u3_k _ _ _ _ (by decide)])) (Sh.in_ (by rw [hX1, u3_k _ _ _ _ (by decide)])) (Sh.in_ (by rw [hX1, u3_k _ _ _ _ (by decide)])) (DrI.in_ (fun p => (by rw [hX1, u3_k _ _ _ _ (by decide)]))) hw hS (lv_sub hl [1, 2, 3, 0] rfl)
        · refine lv_bipush (v := jI (-3)) hx hb dX9_drop_36 (by decide) ?_
          rw [hQ9]
          refine ret_i (mc := 0) (ms := 0) hx hb hr hlocks hw hS (by first | exact Nat.le_of_ble_eq_true rfl | omega) (by first | exact Nat.le_of_ble_eq_true rfl | omega) dX9_drop_38 ?_
          have q64 : Frm [4001] X X1 := by rw [hX1]; exact Frm.set Frm.rf (show 4001 ∈ [4001] by decide)
          have hMq63 : MInv X1 := minv_frm hMI q64 (by decide)
          have e65 : X1 44 0 t = X 44 0 t := (by rw [hX1, u3_k _ _ _ _ (by decide)])
          have q66 : Frm [4001] X X1 := by rw [hX1]; exact Frm.set Frm.rf (show 4001 ∈ [4001] by decide)
          exact ⟨X1, rfl, hRX1, hFX1, hMq63, by omega, (by (try delta Hid at *); first | exact Or.inr (Or.inl ⟨by omega, by omega, by omega, by omega, by omega, by omega, by omega⟩) | exact Or.inr (Or.inr ((⟨by omega, by omega, by omega, by omega, by omega, by omega, by omega⟩))) | omega), fun h => (by exfalso; omega), fun _ y => ⟨(by rw [hX1, u3_k _ _ _ _ (by decide)]), (by rw [hX1, u3_k _ _ _ _ (by decide)]), (by rw [hX1, u3_k _ _ _ _ (by decide)]), (by rw [hX1, u3_k _ _ _ _ (by decide)])⟩, fun y h => (by rw [hX1, u3_k _ _ _ _ (by decide)]), fun q => (by exfalso; omega), fun _ => q66⟩
      · refine lv_iconst (v := jI (-1)) hx hb dX9_drop_27 rfl ?_
        rw [hQ9]
        refine ret_i (mc := 0) (ms := 0) hx hb hr hlocks hw hS (by first | exact Nat.le_of_ble_eq_true rfl | omega) (by first | exact Nat.le_of_ble_eq_true rfl | omega) dX9_drop_28 ?_
        have q68 : Frm [4001] X X1 := by rw [hX1]; exact Frm.set Frm.rf (show 4001 ∈ [4001] by decide)
        have hMq67 : MInv X1 := minv_frm hMI q68 (by decide)
        have e69 : X1 44 0 t = X 44 0 t := (by rw [hX1, u3_k _ _ _ _ (by decide)])
        have q70 : Frm [4001] X X1 := by rw [hX1]; exact Frm.set Frm.rf (show 4001 ∈ [4001] by decide)
        exact ⟨X1, rfl, hRX1, hFX1, hMq67, by omega, (by (try delta Hid at *); first | exact Or.inl ⟨(fun q => by omega), by omega, by omega⟩ | exact Or.inr (Or.inr ((⟨by omega, by omega, by omega, by omega, by omega, by omega, by omega⟩))) | omega), fun h => (by exfalso; omega), fun _ y => ⟨(by rw [hX1, u3_k _ _ _ _ (by decide)]), (by rw [hX1, u3_k _ _ _ _ (by decide)]), (by rw [hX1, u3_k _ _ _ _ (by decide)]), (by rw [hX1, u3_k _ _ _ _ (by decide)])⟩, fun y h => (by rw [hX1, u3_k _ _ _ _ (by decide)]), fun q => (by exfalso; omega), fun _ => q70⟩
  · subst ez2
    refine x_if_eqT (tgt := 27) hx hb (by omega) (by decide) dX9_drop_10 (by decide) ?_
    refine lv_iconst (v := jI (-1)) hx hb dX9_drop_27 rfl ?_
    rw [hQ9]
    refine ret_i (mc := 0) (ms := 0) hx hb hr hlocks hw hS (by first | exact Nat.le_of_ble_eq_true rfl | omega) (by first | exact Nat.le_of_ble_eq_true rfl | omega) dX9_drop_28 ?_
    have q72 : Frm [4001] X X1 := by rw [hX1]; exact Frm.set Frm.rf (show 4001 ∈ [4001] by decide)
    have hMq71 : MInv X1 := minv_frm hMI q72 (by decide)
    have e73 : X1 44 0 t = X 44 0 t := (by rw [hX1, u3_k _ _ _ _ (by decide)])
    have q74 : Frm [4001] X X1 := by rw [hX1]; exact Frm.set Frm.rf (show 4001 ∈ [4001] by decide)
    exact ⟨X1, rfl, hRX1, hFX1, hMq71, by omega, (by (try delta Hid at *); first | exact Or.inl ⟨(fun q => by omega), by omega, by omega⟩ | exact Or.inr (Or.inr ((⟨by omega, by omega, by omega, by omega, by omega, by omega, by omega⟩))) | omega), fun h => (by exfalso; omega), fun _ y => ⟨(by rw [hX1, u3_k _ _ _ _ (by decide)]), (by rw [hX1, u3_k _ _ _ _ (by decide)]), (by rw [hX1, u3_k _ _ _ _ (by decide)]), (by rw [hX1, u3_k _ _ _ _ (by decide)])⟩, fun y h => (by rw [hX1, u3_k _ _ _ _ (by decide)]), fun q => (by exfalso; omega), fun _ => q74⟩
