set_option maxHeartbeats 4000000 in
set_option maxRecDepth 100000 in
theorem c_X8_forgetNumbers (l : Launch) (D : va_G) (tc : Nat → ClassId) (base : Nat) (ad : Nat → Int → Nat) (cnt : Nat → Int) (X : Nat → Int → Int → Int) (Y : Nat → Int → Int → Option Int) (ln : Int → Int) (hR : Rng X) (hFx : Fx cnt) (hLn : LnOK ln) (hCI : CInv cnt X Y ln)  : KV l D tc base yX8_forgetNumbers wsX8_forgetNumbers ({ frames := 1, cells := 0, slots := 0, locals := 21 } : Room) [.ref (ad 0 0)] (ad, cnt, X, Y, ln) 0 0 (fun u => ∃ (X1 : Nat → Int → Int → Int), u = (ad, cnt, X1, Y, ln) ∧ Rng X1 ∧ Frm [1504, 2602] X X1 ∧ CInv cnt X1 Y ln ∧ (0 : Int) ≤ 0 ∧ (∀ x, 0 ≤ x → x < X 0 0 3 → X1 15 x 3 = -1) ∧ ∀ y k w9, 0 ≤ y → y < X 0 0 3 → 0 ≤ k → k < cFc X Y y → Y 17 y k = some w9 → X1 26 w9 1 = -1) := by
  refine K_of (cc := cX8_forgetNumbers) (maxL := 2) (ret := none) (by decide) rfl (Nat.le_of_ble_eq_true rfl) ?_
  intro p e s m below meth c ls hx hb hr hml hown hts hlocks hl hK hw hS
  have hown : s.vm.findClass RX8 = some m.cls := hown
  obtain ⟨av9, hav9⟩ : ∃ a9 : Array Value, a9 = ([.ref (ad 0 0)] : List Value).toArray := ⟨_, rfl⟩
  rw [← hav9] at hts ⊢
  obtain ⟨Q9, hQ9⟩ : ∃ q9Q : State → Prop, q9Q = MQ below (QV D tc base (fun u => ∃ (X1 : Nat → Int → Int → Int), u = (ad, cnt, X1, Y, ln) ∧ Rng X1 ∧ Frm [1504, 2602] X X1 ∧ CInv cnt X1 Y ln ∧ (0 : Int) ≤ 0 ∧ (∀ x, 0 ≤ x → x < X 0 0 3 → X1 15 x 3 = -1) ∧ ∀ y k w9, 0 ≤ y → y < X 0 0 3 → 0 ≤ k → k < cFc X Y y → Y 17 y k = some w9 → X1 26 w9 1 = -1)) av9 s 0 0 (frA base) := ⟨_, rfl⟩
  rw [← hQ9]
  have hi8 : ∀ w ∈ wsX80, w ∈ wsX8_forgetNumbers := fun w h => List.mem_cons_of_mem _ (List.mem_append_left _ (List.mem_append_left _ (List.mem_append_left _ (List.mem_append_right _ h))))
  have hf8 : fctx s m _ RX8 wsX8_forgetNumbers D tc RX8 TX8 12 8 := ⟨hts, hi8, hown, hK.1, rfl⟩
  have lk17 := hts (.fieldLink RX8 17 (TX8 2).1 (TX8 2).2.1 (TX8 2).2.2.1) (gj_X8_forgetNumbers_0 _ (gp_1 gp_h))
  have lk94 := hts (.fieldLink RX8 94 (TX8 3).1 (TX8 3).2.1 (TX8 3).2.2.1) (gj_X8_forgetNumbers_0 _ (gp_h))
  have hc0 : cnt 0 = 1 := hFx.at 0 1 (by decide)
  have hc2 : cnt 2 = 1 := hFx.at 2 1 (by decide)
  have hc15 : cnt 15 = 30 := hFx.at 15 30 (by decide)
  have hl : lv_has ls 2 [(0, .ref (ad 0 0))] := hl
  have ftc : 0 ≤ X 0 0 3 ∧ X 0 0 3 ≤ 30 := hR 0 0 3
  have fty : 0 ≤ X 0 0 1 ∧ X 0 0 1 ≤ 8 := hR 0 0 1
  have hct : cnt 19 = X 0 0 1 := hCI.2.2.2.1.1
  have hfj : 0 ≤ X 29 0 3 ∧ X 29 0 3 ≤ 4 := hR 29 0 3
  have hfn : 0 ≤ X 29 0 1 ∧ X 29 0 1 ≤ 80 := hR 29 0 1
  refine lv_iconst (v := jI 0) hx hb dX8_forgetNumbers_0 rfl ?_
  refine lv_istore_n (lv' := [(1, .int (jI 0)), (0, .ref (ad 0 0))]) hx hb dX8_forgetNumbers_1 rfl hl (by decide) rfl (fun ls hl => ?_)
  have lp2 : ∀ (nn : Nat) (x : Int) (Xa : Nat → Int → Int → Int) (H : Heap) (locs : List Loc) (ls : Array Slot), (30 - x) < (nn : Int) → (Rng Xa) → (Frm [1504, 2602] X Xa) → (0 ≤ x ∧ x ≤ 30) → (CInv cnt Xa Y ln) → (∀ y, 0 ≤ y → y < x → Xa 15 y 3 = -1) → (∀ y k w9, 0 ≤ y → y < x → 0 ≤ k → k < cFc X Y y → Y 17 y k = some w9 → Xa 26 w9 1 = -1) → wd D tc base (ad, cnt, Xa, Y, ln) H → va_S (frA base) s.heap H locs → lv_has ls 2 [(0, .ref (ad 0 0)), (1, .int (jI x))] → W p l e ({ frames := 1, cells := 0, slots := 0, locals := 21 } : Room) s m av9 below meth c H locs 0 0 Q9 (F0 m 2 ls []) := by
    intro nn
    induction nn with
    | zero => intro x Xa H locs ls hm hRXa hGXa hx1 hCIXa hfn9 hrw hw hS hl; exfalso; omega
    | succ nn ih2 =>
      intro x Xa H locs ls hm hRXa hGXa hx1 hCIXa hfn9 hrw hw hS hl
      have hFXa : Frm [1504, 2602] X Xa := Frm.tr Frm.rf (Frm.mono hGXa (by decide))
      refine lv_iload_n hx hb dX8_forgetNumbers_2 rfl (lv_at hl 1 rfl) ?_
      refine lv_aload_n hx hb dX8_forgetNumbers_3 rfl (lv_at hl 0 rfl) ?_
      refine x_geti (jz := 3) hx hb hf8 hw (by first | exact Int.le_refl 0 | omega) (by first | exact zlt hc0 | omega) sl_0_3 rfl lk94 dX8_forgetNumbers_4 ?_
      have e1 : Xa 0 0 3 = X 0 0 3 := by rw [hGXa 0 0 3 (show 4 ∉ [1504, 2602] by decide)]
      rw [e1]
      have f2 : 0 ≤ X 0 0 3 ∧ X 0 0 3 ≤ 30 := hR 0 0 3
      refine x_icmp_ge (tgt := 25) hx hb (by omega) (by omega) dX8_forgetNumbers_7 (by decide) (fun c3 => ?_) (fun c3 => ?_)
      · rw [hQ9]
        refine ret_v (mc := 0) (ms := 0) hx hb hr hlocks hw hS (by first | exact Nat.le_of_ble_eq_true rfl | omega) (by first | exact Nat.le_of_ble_eq_true rfl | omega) dX8_forgetNumbers_25 ?_
        exact ⟨Xa, rfl, hRXa, hFXa, hCIXa, by omega, (fun x9 a b => hfn9 x9 a (by omega)), (fun y k w9 a b c d e9 => hrw y k w9 a (by omega) c d e9)⟩
      · refine lv_aload_n hx hb dX8_forgetNumbers_10 rfl (lv_at hl 0 rfl) ?_
        refine x_geto hx hb hf8 hw (by first | exact Int.le_refl 0 | omega) (by first | exact zlt hc0 | omega) sl_0_2 lk17 dX8_forgetNumbers_11 ?_
        refine lv_iload_n hx hb dX8_forgetNumbers_14 rfl (lv_at hl 1 rfl) ?_
        refine x_aald hx hb hK.1 hw (by first | exact Int.le_refl 0 | omega) (by first | exact zlt hc2 | omega) ar_2 rfl (len_E ar_2 (by decide)) (by omega) (by omega) (by omega) dX8_forgetNumbers_15 (fun y4 => ?_) (fun r5 y4 gr5 lr5 => ?_)
        · exfalso
          have h9 := hCI.1 x (by omega) (by omega); rw [h9] at y4; cases y4
        · have er5 : r5 = x := by have h9 := hCI.1 x (by omega) (by omega); rw [h9] at y4; cases y4; rfl
          rw [er5]
          have e6 : Xa 0 0 3 = X 0 0 3 := by rw [hGXa 0 0 3 (show 4 ∉ [1504, 2602] by decide)]
          refine gos_v (run_V (As := []) (rest := []) hx hb hml hown hts (c_X6_forgetNumbers l D tc base ad cnt Xa Y ln hRXa hFx hLn hCIXa x (by omega) (by simp only [e6]; omega)) (cwV 0 hts gX8_forgetNumbers_X6_forgetNumbers rfl rfl rfl (by first | exact hd_X6_forgetNumbers | decide +kernel) ⟨Nat.le_of_ble_eq_true rfl, Nat.le_of_ble_eq_true rfl⟩) hK hw (by first | exact Int.le_refl 0 | omega) (by first | exact zlt hc15 | omega) sl_15_0 rfl rfl hl.1 rfl (Nat.le_of_ble_eq_true rfl) dX8_forgetNumbers_16 ⟨Nat.le_of_ble_eq_true rfl, Nat.le_of_ble_eq_true rfl⟩) hS (fun u8 H locs p9 hw hS => ?_)
          obtain ⟨X10, eu8, hRX10, hG11, hCIX10, p9, hfsX10, hfoX10, hfrX10, hfmX10⟩ := p9
          subst eu8
          have hFX10 : Frm [1504, 2602] X X10 := Frm.tr hFXa (Frm.mono hG11 (by decide))
          refine lv_iinc (v := jI (x + 1)) (lv' := [(1, .int (jI (x + 1))), (0, .ref (ad 0 0))]) hx hb dX8_forgetNumbers_19 hl (k := 1) rfl (jI_add _ _) (by decide) rfl (fun ls hl => ?_)
          refine lv_goto (tgt := 2) hx hb dX8_forgetNumbers_22 (by decide) ?_
          have q12 : Frm [1504, 2602] X Xa := Frm.tr Frm.rf (Frm.mono hGXa (by decide))
          have q13 : Frm [1504, 2602] X X10 := Frm.tr q12 (Frm.mono hG11 (by decide))
          exact ih2 (x + 1) X10 _ _ _ (by omega) hRX10 q13 (by omega) (hCIX10) (fun y a b => if hy : y = x then (by rw [hy]; exact hfsX10) else (by rw [hfoX10 y hy]; exact hfn9 y a (by omega))) (fun y k w9 a b c d e9 => if hy : y = x then (by rw [hy] at d e9; exact hfrX10 k c (by have h8 := d; unfold cFc at h8; rw [hGXa 19 (tyo (Y 15 x 0)) 1 (show 1902 ∉ [1504, 2602] by decide)]; exact h8) w9 e9) else hfmX10 w9 (hrw y k w9 a (by omega) c d e9)) hw hS (lv_sub hl [1, 0] rfl)
  exact lp2 (30 - 0 : Int).toNat.succ 0 X _ _ _ (by omega) hR Frm.rf (by omega) (hCI) (fun y a b => by omega) (fun y k w9 a b => by omega) hw hS (lv_sub hl [1, 0] rfl)
