set_option maxHeartbeats 4000000 in
set_option maxRecDepth 100000 in
theorem c_X8_undo (l : Launch) (D : va_G) (tc : Nat → ClassId) (base : Nat) (ad : Nat → Int → Nat) (cnt : Nat → Int) (X : Nat → Int → Int → Int) (Y : Nat → Int → Int → Option Int) (ln : Int → Int) (hR : Rng X) (hFx : Fx cnt) (hLn : LnOK ln) (hCI : CInv cnt X Y ln)  : KI l D tc base yX8_undo wsX8_undo ({ frames := 2, cells := 0, slots := 0, locals := 43 } : Room) [.ref (ad 0 0)] (ad, cnt, X, Y, ln) 0 0 (fun z u => ∃ (X1 : Nat → Int → Int → Int) (Y1 : Nat → Int → Int → Option Int), u = (ad, cnt, X1, Y1, ln) ∧ Rng X1 ∧ Frm [2904, 2902, 1600, 2700] X X1 ∧ Frm [1700] Y Y1 ∧ CInv cnt X1 Y1 ln ∧ (-2147483648 ≤ z ∧ z ≤ 2147483647) ∧ ((X 29 0 3 = 0 ∧ X1 29 0 3 = 0) ∨ (1 ≤ X 29 0 3 ∧ X1 29 0 3 = X 29 0 3 - 1)) ∧ (X 29 0 3 = 0 → X1 = X ∧ Y1 = Y ∧ z = -3) ∧ (1 ≤ X 29 0 3 → ∃ (V Xa : Nat → Int → Int → Int) (iz : Int), Frm [2904] X V ∧ uTrC (X 29 0 1) ((X 29 0 1 - 1 - iz).toNat) V Y Xa Y1 ∧ (X 31 0 (X 29 0 3 - 1) - 1 ≤ iz ∨ iz = X 29 0 1 - 1) ∧ iz < X 31 0 (X 29 0 3 - 1) ∧ (-1 ≤ iz ∧ iz < X 29 0 1 ∨ iz = -1) ∧ Frm [2902] Xa X1 ∧ X1 29 0 1 = X 31 0 (X 29 0 3 - 1) ∧ z = X 29 0 1 - X 31 0 (X 29 0 3 - 1))) := by
  refine K_of (cc := cX8_undo) (maxL := 1) (ret := (some .int)) (by decide) rfl (Nat.le_of_ble_eq_true rfl) ?_
  intro p e s m below meth c ls hx hb hr hml hown hts hlocks hl hK hw hS
  have hown : s.vm.findClass RX8 = some m.cls := hown
  obtain ⟨av9, hav9⟩ : ∃ a9 : Array Value, a9 = ([.ref (ad 0 0)] : List Value).toArray := ⟨_, rfl⟩
  rw [← hav9] at hts ⊢
  obtain ⟨Q9, hQ9⟩ : ∃ q9Q : State → Prop, q9Q = MQ below (QI D tc base (fun z u => ∃ (X1 : Nat → Int → Int → Int) (Y1 : Nat → Int → Int → Option Int), u = (ad, cnt, X1, Y1, ln) ∧ Rng X1 ∧ Frm [2904, 2902, 1600, 2700] X X1 ∧ Frm [1700] Y Y1 ∧ CInv cnt X1 Y1 ln ∧ (-2147483648 ≤ z ∧ z ≤ 2147483647) ∧ ((X 29 0 3 = 0 ∧ X1 29 0 3 = 0) ∨ (1 ≤ X 29 0 3 ∧ X1 29 0 3 = X 29 0 3 - 1)) ∧ (X 29 0 3 = 0 → X1 = X ∧ Y1 = Y ∧ z = -3) ∧ (1 ≤ X 29 0 3 → ∃ (V Xa : Nat → Int → Int → Int) (iz : Int), Frm [2904] X V ∧ uTrC (X 29 0 1) ((X 29 0 1 - 1 - iz).toNat) V Y Xa Y1 ∧ (X 31 0 (X 29 0 3 - 1) - 1 ≤ iz ∨ iz = X 29 0 1 - 1) ∧ iz < X 31 0 (X 29 0 3 - 1) ∧ (-1 ≤ iz ∧ iz < X 29 0 1 ∨ iz = -1) ∧ Frm [2902] Xa X1 ∧ X1 29 0 1 = X 31 0 (X 29 0 3 - 1) ∧ z = X 29 0 1 - X 31 0 (X 29 0 3 - 1)))) av9 s 0 0 (frA base) := ⟨_, rfl⟩
  rw [← hQ9]
  have hi2 : ∀ w ∈ wsX20, w ∈ wsX8_undo := fun w h => List.mem_cons_of_mem _ (List.mem_append_left _ (List.mem_append_left _ (List.mem_append_left _ (List.mem_append_right _ h))))
  have hf2 : fctx s m _ RX8 wsX8_undo D tc RX2 TX2 4 2 := ⟨hts, hi2, hown, hK.1, rfl⟩
  have hi8 : ∀ w ∈ wsX80, w ∈ wsX8_undo := fun w h => List.mem_cons_of_mem _ (List.mem_append_left _ (List.mem_append_left _ (List.mem_append_left _ (List.mem_append_left _ (List.mem_append_right _ h)))))
  have hf8 : fctx s m _ RX8 wsX8_undo D tc RX8 TX8 12 8 := ⟨hts, hi8, hown, hK.1, rfl⟩
  have lk51 := hts (.fieldLink RX8 51 (TX8 10).1 (TX8 10).2.1 (TX8 10).2.2.1) (gj_X8_undo_0 _ (gp_h))
  have lk82 := hts (.fieldLink RX8 82 (TX2 3).1 (TX2 3).2.1 (TX2 3).2.2.1) (gj_X8_undo_0 _ (gp_1 gp_h))
  have hc0 : cnt 0 = 1 := hFx.at 0 1 (by decide)
  have hc29 : cnt 29 = 1 := hFx.at 29 1 (by decide)
  have hl : lv_has ls 1 [(0, .ref (ad 0 0))] := hl
  have ftc : 0 ≤ X 0 0 3 ∧ X 0 0 3 ≤ 30 := hR 0 0 3
  have fty : 0 ≤ X 0 0 1 ∧ X 0 0 1 ≤ 8 := hR 0 0 1
  have hct : cnt 19 = X 0 0 1 := hCI.2.2.2.1.1
  have hfj : 0 ≤ X 29 0 3 ∧ X 29 0 3 ≤ 4 := hR 29 0 3
  have hfn : 0 ≤ X 29 0 1 ∧ X 29 0 1 ≤ 80 := hR 29 0 1
  refine lv_aload_n hx hb dX8_undo_0 rfl (lv_at hl 0 rfl) ?_
  refine x_geto hx hb hf8 hw (by first | exact Int.le_refl 0 | omega) (by first | exact zlt hc0 | omega) sl_0_10 lk51 dX8_undo_1 ?_
  refine x_geti (jz := 3) hx hb hf2 hw (by first | exact Int.le_refl 0 | omega) (by first | exact zlt hc29 | omega) sl_29_3 rfl lk82 dX8_undo_4 ?_
  have f1 : 0 ≤ X 29 0 3 ∧ X 29 0 3 ≤ 4 := hR 29 0 3
  refine x_if_ne (tgt := 15) hx hb (by omega) dX8_undo_7 (by decide) (fun c2 => ?_) (fun c2 => ?_)
  · refine lv_aload_n hx hb dX8_undo_15 rfl (lv_at hl 0 rfl) ?_
    refine x_geto hx hb hf8 hw (by first | exact Int.le_refl 0 | omega) (by first | exact zlt hc0 | omega) sl_0_10 lk51 dX8_undo_16 ?_
    refine gos_i (run_V (As := []) (rest := []) hx hb hml hown hts (c_X2_undoLatestMark l D tc base ad cnt X Y ln hR hFx hLn hCI (by omega)) (cwV 0 hts gX8_undo_X2_undoLatestMark rfl rfl rfl (by first | exact hd_X2_undoLatestMark | decide +kernel) ⟨Nat.le_of_ble_eq_true rfl, Nat.le_of_ble_eq_true rfl⟩) hK hw (by first | exact Int.le_refl 0 | omega) (by first | exact zlt hc29 | omega) sl_29_0 rfl rfl hl.1 rfl (Nat.le_of_ble_eq_true rfl) dX8_undo_19 ⟨Nat.le_of_ble_eq_true rfl, Nat.le_of_ble_eq_true rfl⟩) hS (fun z3 u4 H locs p5 hw hS => ?_)
    obtain ⟨X6, Y7, eu4, hRX6, hG8, hJ9, hCIX6, p5, humX6, hunX6⟩ := p5
    subst eu4
    have hFX6 : Frm [2904, 2902, 1600, 2700] X X6 := Frm.tr Frm.rf (Frm.mono hG8 (by decide))
    have hHY7 : Frm [1700] Y Y7 := Frm.tr Frm.rf (Frm.mono hJ9 (by decide))
    rw [hQ9]
    refine ret_i (mc := 0) (ms := 0) hx hb hr hlocks hw hS (by first | exact Nat.le_of_ble_eq_true rfl | omega) (by first | exact Nat.le_of_ble_eq_true rfl | omega) dX8_undo_22 ?_
    exact ⟨X6, Y7, rfl, hRX6, hFX6, hHY7, hCIX6, by omega, by omega, fun q => (by exfalso; omega), fun _ => hunX6⟩
  · refine lv_bipush (v := jI (-3)) hx hb dX8_undo_10 (by decide) ?_
    refine lv_goto (tgt := 22) hx hb dX8_undo_12 (by decide) ?_
    rw [hQ9]
    refine ret_i (mc := 0) (ms := 0) hx hb hr hlocks hw hS (by first | exact Nat.le_of_ble_eq_true rfl | omega) (by first | exact Nat.le_of_ble_eq_true rfl | omega) dX8_undo_22 ?_
    exact ⟨X, Y, rfl, hR, Frm.rf, Frm.rf, hCI, by omega, by omega, fun _ => ⟨rfl, rfl, by omega⟩, fun q => (by exfalso; omega)⟩
