set_option maxHeartbeats 4000000 in
set_option maxRecDepth 100000 in
theorem c_X9_faulty (l : Launch) (D : va_G) (tc : Nat → ClassId) (base : Nat) (ad : Nat → Int → Nat) (cnt : Nat → Int) (X : Nat → Int → Int → Int) (Y : Nat → Int → Int → Option Int) (ln : Int → Int) (hR : Rng X) (hFx : Fx cnt) (hMI : MInv X) (kind r name cq : Int) (hkind : 0 ≤ kind ∧ kind ≤ 10) (hr : -2147483648 ≤ r ∧ r ≤ 2147483647) (hname : -2147483648 ≤ name ∧ name ≤ 2147483647) (hcq : -2147483648 ≤ cq ∧ cq ≤ 2147483647) : KI l D tc base yX9_faulty wsX9_faulty ({ frames := 0, cells := 0, slots := 0, locals := 0 } : Room) [.ref (ad 40 0), .int (jI kind), .int (jI r), .int (jI name), .int (jI cq)] (ad, cnt, X, Y, ln) 0 0 (fun z u => ∃ X1 : Nat → Int → Int → Int, u = (ad, cnt, X1, Y, ln) ∧ Rng X1 ∧ Frm [4042, 4043, 4044] X X1 ∧ MInv X1 ∧ z = -10 - kind) := by
  refine K_of (cc := cX9_faulty) (maxL := 5) (ret := (some .int)) (by decide) rfl (Nat.le_of_ble_eq_true rfl) ?_
  intro p e s m below meth c ls hx hb hr hml hown hts hlocks hl hK hw hS
  have hown : s.vm.findClass RX9 = some m.cls := hown
  obtain ⟨av9, hav9⟩ : ∃ a9 : Array Value, a9 = ([.ref (ad 40 0), .int (jI kind), .int (jI r), .int (jI name), .int (jI cq)] : List Value).toArray := ⟨_, rfl⟩
  rw [← hav9] at hts ⊢
  obtain ⟨Q9, hQ9⟩ : ∃ q9Q : State → Prop, q9Q = MQ below (QI D tc base (fun z u => ∃ X1 : Nat → Int → Int → Int, u = (ad, cnt, X1, Y, ln) ∧ Rng X1 ∧ Frm [4042, 4043, 4044] X X1 ∧ MInv X1 ∧ z = -10 - kind)) av9 s 0 0 (frA base) := ⟨_, rfl⟩
  rw [← hQ9]
  have hi9 : ∀ w ∈ wsX90, w ∈ wsX9_faulty := fun w h => List.mem_cons_of_mem _ (List.mem_append_right _ h)
  have hf9 : fctx s m _ RX9 wsX9_faulty D tc RX9 TX9 51 9 := ⟨hts, hi9, hown, hK.1, rfl⟩
  have lk117 := hts (.fieldLink RX9 117 (TX9 41).1 (TX9 41).2.1 (TX9 41).2.2.1) (gj_X9_faulty_0 _ (gp_h))
  have lk121 := hts (.fieldLink RX9 121 (TX9 42).1 (TX9 42).2.1 (TX9 42).2.2.1) (gj_X9_faulty_0 _ (gp_1 gp_h))
  have lk124 := hts (.fieldLink RX9 124 (TX9 43).1 (TX9 43).2.1 (TX9 43).2.2.1) (gj_X9_faulty_0 _ (gp_1 (gp_1 gp_h)))
  have hc40 : cnt 40 = 1 := hFx.at 40 1 (by decide)
  have hl : lv_has ls 5 [(0, .ref (ad 40 0)), (1, .int (jI kind)), (2, .int (jI r)), (3, .int (jI name)), (4, .int (jI cq))] := hl
  have fstypes : 0 ≤ X 40 0 2 ∧ X 40 0 2 ≤ 8 := hR 40 0 2
  have fsthings : 0 ≤ X 40 0 13 ∧ X 40 0 13 ≤ 30 := hR 40 0 13
  have fsmarks : 0 ≤ X 40 0 20 ∧ X 40 0 20 ≤ 4 := hR 40 0 20
  have fsnotes : 0 ≤ X 40 0 22 ∧ X 40 0 22 ≤ 80 := hR 40 0 22
  refine lv_aload_n hx hb dX9_faulty_0 rfl (lv_at hl 0 rfl) ?_
  refine lv_iload_n hx hb dX9_faulty_1 rfl (lv_at hl 2 rfl) ?_
  refine x_puti (jz := 41) hx hb hf9 ⟨tyX9_ok, nmX9⟩ hw hS (by first | exact Int.le_refl 0 | omega) (by first | exact zlt hc40 | omega) sl_40_41 rfl lk117 rfl (tyX9_ok 41 (by decide)) rfl rfl dX9_faulty_2 (fun H locs hw hS => ?_)
  obtain ⟨X1, hX1⟩ : ∃ Xq, Xq = u3 X 40 0 41 r := ⟨_, rfl⟩
  rw [← hX1] at hw
  have hRX1 : Rng X1 := by rw [hX1]; exact rng_set hR (show (-2147483648) ≤ r ∧ r ≤ 2147483647 by omega)
  have hVX1 : X1 40 0 41 = r := by rw [hX1]; exact u3_s _ _ _ _ _
  have hFX1 : Frm [4042, 4043, 4044] X X1 := by rw [hX1]; exact Frm.set Frm.rf (show 4042 ∈ [4042, 4043, 4044] by decide)
  refine lv_aload_n hx hb dX9_faulty_5 rfl (lv_at hl 0 rfl) ?_
  refine lv_iload_n hx hb dX9_faulty_6 rfl (lv_at hl 3 rfl) ?_
  refine x_puti (jz := 42) hx hb hf9 ⟨tyX9_ok, nmX9⟩ hw hS (by first | exact Int.le_refl 0 | omega) (by first | exact zlt hc40 | omega) sl_40_42 rfl lk121 rfl (tyX9_ok 42 (by decide)) rfl rfl dX9_faulty_7 (fun H locs hw hS => ?_)
  obtain ⟨X2, hX2⟩ : ∃ Xq, Xq = u3 X1 40 0 42 name := ⟨_, rfl⟩
  rw [← hX2] at hw
  have hRX2 : Rng X2 := by rw [hX2]; exact rng_set hRX1 (show (-2147483648) ≤ name ∧ name ≤ 2147483647 by omega)
  have hVX2 : X2 40 0 42 = name := by rw [hX2]; exact u3_s _ _ _ _ _
  have hFX2 : Frm [4042, 4043, 4044] X X2 := by rw [hX2]; exact Frm.set hFX1 (show 4043 ∈ [4042, 4043, 4044] by decide)
  refine lv_aload_n hx hb dX9_faulty_10 rfl (lv_at hl 0 rfl) ?_
  refine lv_iload hx hb dX9_faulty_11 (lv_at hl 4 rfl) ?_
  refine x_puti (jz := 43) hx hb hf9 ⟨tyX9_ok, nmX9⟩ hw hS (by first | exact Int.le_refl 0 | omega) (by first | exact zlt hc40 | omega) sl_40_43 rfl lk124 rfl (tyX9_ok 43 (by decide)) rfl rfl dX9_faulty_13 (fun H locs hw hS => ?_)
  obtain ⟨X3, hX3⟩ : ∃ Xq, Xq = u3 X2 40 0 43 cq := ⟨_, rfl⟩
  rw [← hX3] at hw
  have hRX3 : Rng X3 := by rw [hX3]; exact rng_set hRX2 (show (-2147483648) ≤ cq ∧ cq ≤ 2147483647 by omega)
  have hVX3 : X3 40 0 43 = cq := by rw [hX3]; exact u3_s _ _ _ _ _
  have hFX3 : Frm [4042, 4043, 4044] X X3 := by rw [hX3]; exact Frm.set hFX2 (show 4044 ∈ [4042, 4043, 4044] by decide)
  refine lv_bipush (v := jI (-10)) hx hb dX9_faulty_16 (by decide) ?_
  refine lv_iload_n hx hb dX9_faulty_18 rfl (lv_at hl 1 rfl) ?_
  refine x_isub hx hb dX9_faulty_19 ?_
  rw [hQ9]
  refine ret_i (mc := 0) (ms := 0) hx hb hr hlocks hw hS (by first | exact Nat.le_of_ble_eq_true rfl | omega) (by first | exact Nat.le_of_ble_eq_true rfl | omega) dX9_faulty_20 ?_
  have q5 : Frm [4042, 4043, 4044] X X1 := by rw [hX1]; exact Frm.set Frm.rf (show 4042 ∈ [4042, 4043, 4044] by decide)
  have q6 : Frm [4042, 4043, 4044] X X2 := by rw [hX2]; exact Frm.set q5 (show 4043 ∈ [4042, 4043, 4044] by decide)
  have q7 : Frm [4042, 4043, 4044] X X3 := by rw [hX3]; exact Frm.set q6 (show 4044 ∈ [4042, 4043, 4044] by decide)
  have hMq4 : MInv X3 := minv_frm hMI q7 (by decide)
  exact ⟨X3, rfl, hRX3, hFX3, hMq4, by omega⟩
