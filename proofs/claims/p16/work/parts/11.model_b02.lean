set_option maxHeartbeats 4000000 in
set_option maxRecDepth 100000 in
theorem c_X9_unchecked (l : Launch) (D : va_G) (tc : Nat → ClassId) (base : Nat) (ad : Nat → Int → Nat) (cnt : Nat → Int) (X : Nat → Int → Int → Int) (Y : Nat → Int → Int → Option Int) (ln : Int → Int) (hR : Rng X) (hFx : Fx cnt) (hMI : MInv X) (t : Int) (ht : -2147483648 ≤ t ∧ t ≤ 2147483647) : KI l D tc base yX9_unchecked wsX9_unchecked ({ frames := 1, cells := 0, slots := 0, locals := 21 } : Room) [.ref (ad 40 0), .int (jI t)] (ad, cnt, X, Y, ln) 0 0 (fun z u => ∃ X1 : Nat → Int → Int → Int, u = (ad, cnt, X1, Y, ln) ∧ Rng X1 ∧ Frm [4001, 4900] X X1 ∧ MInv X1 ∧ (-2147483648 ≤ z ∧ z ≤ 2147483647) ∧ ((0 ≤ t ∧ t < X 40 0 2 ∧ z = X 49 0 t ∧ X1 49 0 t = 0) ∨ (¬ (0 ≤ t ∧ t < X 40 0 2) ∧ z = -1 ∧ X1 49 0 t = X 49 0 t)) ∧ ∀ y, y ≠ t → X1 49 0 y = X 49 0 y) := by
  refine K_of (cc := cX9_unchecked) (maxL := 3) (ret := (some .int)) (by decide) rfl (Nat.le_of_ble_eq_true rfl) ?_
  intro p e s m below meth c ls hx hb hr hml hown hts hlocks hl hK hw hS
  have hown : s.vm.findClass RX9 = some m.cls := hown
  obtain ⟨av9, hav9⟩ : ∃ a9 : Array Value, a9 = ([.ref (ad 40 0), .int (jI t)] : List Value).toArray := ⟨_, rfl⟩
  rw [← hav9] at hts ⊢
  obtain ⟨Q9, hQ9⟩ : ∃ q9Q : State → Prop, q9Q = MQ below (QI D tc base (fun z u => ∃ X1 : Nat → Int → Int → Int, u = (ad, cnt, X1, Y, ln) ∧ Rng X1 ∧ Frm [4001, 4900] X X1 ∧ MInv X1 ∧ (-2147483648 ≤ z ∧ z ≤ 2147483647) ∧ ((0 ≤ t ∧ t < X 40 0 2 ∧ z = X 49 0 t ∧ X1 49 0 t = 0) ∨ (¬ (0 ≤ t ∧ t < X 40 0 2) ∧ z = -1 ∧ X1 49 0 t = X 49 0 t)) ∧ ∀ y, y ≠ t → X1 49 0 y = X 49 0 y)) av9 s 0 0 (frA base) := ⟨_, rfl⟩
  rw [← hQ9]
  have hi9 : ∀ w ∈ wsX90, w ∈ wsX9_unchecked := fun w h => List.mem_cons_of_mem _ (List.mem_append_right _ h)
  have hf9 : fctx s m _ RX9 wsX9_unchecked D tc RX9 TX9 51 9 := ⟨hts, hi9, hown, hK.1, rfl⟩
  have lk30 := hts (.fieldLink RX9 30 (TX9 8).1 (TX9 8).2.1 (TX9 8).2.2.1) (gj_X9_unchecked_0 _ (gp_1 gp_h))
  have lk145 := hts (.fieldLink RX9 145 (TX9 0).1 (TX9 0).2.1 (TX9 0).2.2.1) (gj_X9_unchecked_0 _ (gp_h))
  have hc40 : cnt 40 = 1 := hFx.at 40 1 (by decide)
  have hc49 : cnt 49 = 1 := hFx.at 49 1 (by decide)
  have hl : lv_has ls 3 [(0, .ref (ad 40 0)), (1, .int (jI t))] := hl
  have fstypes : 0 ≤ X 40 0 2 ∧ X 40 0 2 ≤ 8 := hR 40 0 2
  have fsthings : 0 ≤ X 40 0 13 ∧ X 40 0 13 ≤ 30 := hR 40 0 13
  have fsmarks : 0 ≤ X 40 0 20 ∧ X 40 0 20 ≤ 4 := hR 40 0 20
  have fsnotes : 0 ≤ X 40 0 22 ∧ X 40 0 22 ≤ 80 := hR 40 0 22
  refine lv_aload_n hx hb dX9_unchecked_0 rfl (lv_at hl 0 rfl) ?_
  refine lv_iconst (v := jI 0) hx hb dX9_unchecked_1 rfl ?_
  refine x_puti (jz := 0) hx hb hf9 ⟨tyX9_ok, nmX9⟩ hw hS (by first | exact Int.le_refl 0 | omega) (by first | exact zlt hc40 | omega) sl_40_0 rfl lk145 rfl (tyX9_ok 0 (by decide)) rfl rfl dX9_unchecked_2 (fun H locs hw hS => ?_)
  obtain ⟨X1, hX1⟩ : ∃ Xq, Xq = u3 X 40 0 0 0 := ⟨_, rfl⟩
  rw [← hX1] at hw
  have hRX1 : Rng X1 := by rw [hX1]; exact rng_set hR (show (-2147483648) ≤ 0 ∧ 0 ≤ 2147483647 by omega)
  have hVX1 : X1 40 0 0 = 0 := by rw [hX1]; exact u3_s _ _ _ _ _
  have hFX1 : Frm [4001, 4900] X X1 := by rw [hX1]; exact Frm.set Frm.rf (show 4001 ∈ [4001, 4900] by decide)
  refine lv_aload_n hx hb dX9_unchecked_5 rfl (lv_at hl 0 rfl) ?_
  refine lv_iload_n hx hb dX9_unchecked_6 rfl (lv_at hl 1 rfl) ?_
  refine gos_i (run_V (As := [.int (jI t)]) (rest := []) hx hb hml hown hts (c_X9_isType l D tc base ad cnt X1 Y ln hRX1 hFx t (by omega)) (cwV 1 hts gX9_unchecked_X9_isType rfl rfl rfl (by first | exact hd_X9_isType | decide +kernel) ⟨Nat.le_of_ble_eq_true rfl, Nat.le_of_ble_eq_true rfl⟩) hK hw (by first | exact Int.le_refl 0 | omega) (by first | exact zlt hc40 | omega) sl_40_0 rfl rfl hl.1 rfl (Nat.le_of_ble_eq_true rfl) dX9_unchecked_7 ⟨Nat.le_of_ble_eq_true rfl, Nat.le_of_ble_eq_true rfl⟩) hS (fun z2 u3 H locs p4 hw hS => ?_)
  obtain ⟨eu3, p4⟩ := p4
  subst eu3
  have e5 : X1 40 0 2 = X 40 0 2 := by rw [hX1, u3_j _ _ _ _ (by decide)]
  simp only [e5] at p4
  rcases p4 with ⟨ez2, p4⟩ | ⟨ez2, p4⟩
  · subst ez2
    refine x_if_neT (tgt := 15) hx hb (by omega) (by decide) dX9_unchecked_10 (by decide) ?_
    refine lv_aload_n hx hb dX9_unchecked_15 rfl (lv_at hl 0 rfl) ?_
    refine x_geto hx hb hf9 hw (by first | exact Int.le_refl 0 | omega) (by first | exact zlt hc40 | omega) sl_40_8 lk30 dX9_unchecked_16 ?_
    refine lv_iload_n hx hb dX9_unchecked_19 rfl (lv_at hl 1 rfl) ?_
    refine x_iald hx hb hK.1 hw (by first | exact Int.le_refl 0 | omega) (by first | exact zlt hc49 | omega) ar_49 (len_E ar_49 (by decide)) (by omega) (by omega) (by omega) dX9_unchecked_20 ?_
    have e6 : ∀ p9 q9 : Int, X1 49 p9 q9 = X 49 p9 q9 := fun p9 q9 => by rw [hX1, u3_k _ _ _ _ (by decide)]
    rw [e6 0 t]
    have f7 : 0 ≤ X 49 0 t ∧ X 49 0 t ≤ 4 := hR 49 0 t
    refine lv_istore_n (lv' := [(2, .int (jI (X 49 0 t))), (0, .ref (ad 40 0)), (1, .int (jI t))]) hx hb dX9_unchecked_21 rfl hl (by decide) rfl (fun ls hl => ?_)
    refine lv_aload_n hx hb dX9_unchecked_22 rfl (lv_at hl 1 rfl) ?_
    refine x_geto hx hb hf9 hw (by first | exact Int.le_refl 0 | omega) (by first | exact zlt hc40 | omega) sl_40_8 lk30 dX9_unchecked_23 ?_
    refine lv_iload_n hx hb dX9_unchecked_26 rfl (lv_at hl 2 rfl) ?_
    refine lv_iconst (v := jI 0) hx hb dX9_unchecked_27 rfl ?_
    refine x_iast hx hb hK.1 hw hS (by first | exact Int.le_refl 0 | omega) (by first | exact zlt hc49 | omega) ar_49 (len_E ar_49 (by decide)) (by omega) (by omega) (by omega) dX9_unchecked_28 (fun H locs hw hS => ?_)
    obtain ⟨X8, hX8⟩ : ∃ Xq, Xq = u3 X1 49 0 t 0 := ⟨_, rfl⟩
    rw [← hX8] at hw
    have hRX8 : Rng X8 := by rw [hX8]; exact rng_set hRX1 (show 0 ≤ 0 ∧ 0 ≤ 4 by omega)
    have hVX8 : X8 49 0 t = 0 := by rw [hX8]; exact u3_s _ _ _ _ _
    have hFX8 : Frm [4001, 4900] X X8 := by rw [hX8]; exact Frm.set hFX1 (show 4900 ∈ [4001, 4900] by decide)
    refine lv_iload_n hx hb dX9_unchecked_29 rfl (lv_at hl 0 rfl) ?_
    rw [hQ9]
    refine ret_i (mc := 0) (ms := 0) hx hb hr hlocks hw hS (by first | exact Nat.le_of_ble_eq_true rfl | omega) (by first | exact Nat.le_of_ble_eq_true rfl | omega) dX9_unchecked_30 ?_
    have q10 : Frm [4001, 4900] X X1 := by rw [hX1]; exact Frm.set Frm.rf (show 4001 ∈ [4001, 4900] by decide)
    have q11 : Frm [4001, 4900] X X8 := by rw [hX8]; exact Frm.set q10 (show 4900 ∈ [4001, 4900] by decide)
    have hMq9 : MInv X8 := minv_frm hMI q11 (by decide)
    have e12 : X8 49 0 t = 0 := (by exact hVX8)
    exact ⟨X8, rfl, hRX8, hFX8, hMq9, by omega, (by (try delta Hid at *); first | exact Or.inl ⟨by omega, by omega, by omega, by omega⟩ | omega), fun y hy => (by rw [hX8, u3_j _ _ _ _ hy, hX1, u3_k _ _ _ _ (by decide)])⟩
  · subst ez2
    refine x_if_neF (tgt := 15) hx hb (by omega) (by decide) dX9_unchecked_10 (by decide) ?_
    refine lv_iconst (v := jI (-1)) hx hb dX9_unchecked_13 rfl ?_
    rw [hQ9]
    refine ret_i (mc := 0) (ms := 0) hx hb hr hlocks hw hS (by first | exact Nat.le_of_ble_eq_true rfl | omega) (by first | exact Nat.le_of_ble_eq_true rfl | omega) dX9_unchecked_14 ?_
    have q14 : Frm [4001] X X1 := by rw [hX1]; exact Frm.set Frm.rf (show 4001 ∈ [4001] by decide)
    have hMq13 : MInv X1 := minv_frm hMI q14 (by decide)
    have e15 : X1 49 0 t = X 49 0 t := (by rw [hX1, u3_k _ _ _ _ (by decide)])
    exact ⟨X1, rfl, hRX1, hFX1, hMq13, by omega, (by (try delta Hid at *); first | exact Or.inr ((⟨(fun q => by omega), by omega, by omega⟩)) | exact Or.inl ⟨by omega, by omega, by omega, by omega⟩ | omega), fun y hy => (by rw [hX1, u3_k _ _ _ _ (by decide)])⟩
