set_option maxHeartbeats 4000000 in
set_option maxRecDepth 100000 in
theorem c_X1_tell (l : Launch) (D : va_G) (tc : Nat → ClassId) (base : Nat) (ad : Nat → Int → Nat) (cnt : Nat → Int) (X : Nat → Int → Int → Int) (Y : Nat → Int → Int → Option Int) (ln : Int → Int) (hR : Rng X) (hFx : Fx cnt) (hLn : LnOK ln) (hCI : CInv cnt X Y ln) (a b d : Int) (ha : -2147483648 ≤ a ∧ a ≤ 2147483647) (hb : -2147483648 ≤ b ∧ b ≤ 2147483647) (hd : -2147483648 ≤ d ∧ d ≤ 2147483647) : KV l D tc base yX1_tell wsX1_tell ({ frames := 0, cells := 0, slots := 0, locals := 0 } : Room) [.ref (ad 32 0), .int (jI a), .int (jI b), .int (jI d)] (ad, cnt, X, Y, ln) 0 0 (fun u => ∃ (X1 : Nat → Int → Int → Int), u = (ad, cnt, X1, Y, ln) ∧ Rng X1 ∧ Frm [3201, 3202, 3203, 3204] X X1 ∧ CInv cnt X1 Y ln ∧ (0 : Int) ≤ 0) := by
  refine K_of (cc := cX1_tell) (maxL := 4) (ret := none) (by decide) rfl (Nat.le_of_ble_eq_true rfl) ?_
  intro p e s m below meth c ls hx hb hr hml hown hts hlocks hl hK hw hS
  have hown : s.vm.findClass RX1 = some m.cls := hown
  obtain ⟨av9, hav9⟩ : ∃ a9 : Array Value, a9 = ([.ref (ad 32 0), .int (jI a), .int (jI b), .int (jI d)] : List Value).toArray := ⟨_, rfl⟩
  rw [← hav9] at hts ⊢
  obtain ⟨Q9, hQ9⟩ : ∃ q9Q : State → Prop, q9Q = MQ below (QV D tc base (fun u => ∃ (X1 : Nat → Int → Int → Int), u = (ad, cnt, X1, Y, ln) ∧ Rng X1 ∧ Frm [3201, 3202, 3203, 3204] X X1 ∧ CInv cnt X1 Y ln ∧ (0 : Int) ≤ 0)) av9 s 0 0 (frA base) := ⟨_, rfl⟩
  rw [← hQ9]
  have hi1 : ∀ w ∈ wsX10, w ∈ wsX1_tell := fun w h => List.mem_cons_of_mem _ (List.mem_append_right _ h)
  have hf1 : fctx s m _ RX1 wsX1_tell D tc RX1 TX1 4 1 := ⟨hts, hi1, hown, hK.1, rfl⟩
  have lk7 := hts (.fieldLink RX1 7 (TX1 0).1 (TX1 0).2.1 (TX1 0).2.2.1) (gj_X1_tell_0 _ (gp_h))
  have lk13 := hts (.fieldLink RX1 13 (TX1 1).1 (TX1 1).2.1 (TX1 1).2.2.1) (gj_X1_tell_0 _ (gp_1 gp_h))
  have lk17 := hts (.fieldLink RX1 17 (TX1 2).1 (TX1 2).2.1 (TX1 2).2.2.1) (gj_X1_tell_0 _ (gp_1 (gp_1 gp_h)))
  have lk20 := hts (.fieldLink RX1 20 (TX1 3).1 (TX1 3).2.1 (TX1 3).2.2.1) (gj_X1_tell_0 _ (gp_1 (gp_1 (gp_1 gp_h))))
  have hc32 : cnt 32 = 1 := hFx.at 32 1 (by decide)
  have hl : lv_has ls 4 [(0, .ref (ad 32 0)), (1, .int (jI a)), (2, .int (jI b)), (3, .int (jI d))] := hl
  have ftc : 0 ≤ X 0 0 3 ∧ X 0 0 3 ≤ 30 := hR 0 0 3
  have fty : 0 ≤ X 0 0 1 ∧ X 0 0 1 ≤ 8 := hR 0 0 1
  have hct : cnt 19 = X 0 0 1 := hCI.2.2.2.1.1
  have hfj : 0 ≤ X 29 0 3 ∧ X 29 0 3 ≤ 4 := hR 29 0 3
  have hfn : 0 ≤ X 29 0 1 ∧ X 29 0 1 ≤ 80 := hR 29 0 1
  refine lv_aload_n hx hb dX1_tell_0 rfl (lv_at hl 0 rfl) ?_
  refine lv_iconst (v := jI 1) hx hb dX1_tell_1 rfl ?_
  refine x_puti (jz := 0) hx hb hf1 ⟨tyX1_ok, nmX1⟩ hw hS (by first | exact Int.le_refl 0 | omega) (by first | exact zlt hc32 | omega) sl_32_0 rfl lk7 rfl (tyX1_ok 0 (by decide)) (by decide) (by decide) dX1_tell_2 (fun H locs hw hS => ?_)
  obtain ⟨X1, hX1⟩ : ∃ Xq, Xq = u3 X 32 0 0 1 := ⟨_, rfl⟩
  rw [← hX1] at hw
  have hRX1 : Rng X1 := by rw [hX1]; exact rng_set hR (show 0 ≤ 1 ∧ 1 ≤ 1 by omega)
  have hVX1 : X1 32 0 0 = 1 := by rw [hX1]; exact u3_s _ _ _ _ _
  have hFX1 : Frm [3201, 3202, 3203, 3204] X X1 := by rw [hX1]; exact Frm.set Frm.rf (show 3201 ∈ [3201, 3202, 3203, 3204] by decide)
  refine lv_aload_n hx hb dX1_tell_5 rfl (lv_at hl 0 rfl) ?_
  refine lv_iload_n hx hb dX1_tell_6 rfl (lv_at hl 1 rfl) ?_
  refine x_puti (jz := 1) hx hb hf1 ⟨tyX1_ok, nmX1⟩ hw hS (by first | exact Int.le_refl 0 | omega) (by first | exact zlt hc32 | omega) sl_32_1 rfl lk13 rfl (tyX1_ok 1 (by decide)) rfl rfl dX1_tell_7 (fun H locs hw hS => ?_)
  obtain ⟨X2, hX2⟩ : ∃ Xq, Xq = u3 X1 32 0 1 a := ⟨_, rfl⟩
  rw [← hX2] at hw
  have hRX2 : Rng X2 := by rw [hX2]; exact rng_set hRX1 (show (-2147483648) ≤ a ∧ a ≤ 2147483647 by omega)
  have hVX2 : X2 32 0 1 = a := by rw [hX2]; exact u3_s _ _ _ _ _
  have hFX2 : Frm [3201, 3202, 3203, 3204] X X2 := by rw [hX2]; exact Frm.set hFX1 (show 3202 ∈ [3201, 3202, 3203, 3204] by decide)
  refine lv_aload_n hx hb dX1_tell_10 rfl (lv_at hl 0 rfl) ?_
  refine lv_iload_n hx hb dX1_tell_11 rfl (lv_at hl 2 rfl) ?_
  refine x_puti (jz := 2) hx hb hf1 ⟨tyX1_ok, nmX1⟩ hw hS (by first | exact Int.le_refl 0 | omega) (by first | exact zlt hc32 | omega) sl_32_2 rfl lk17 rfl (tyX1_ok 2 (by decide)) rfl rfl dX1_tell_12 (fun H locs hw hS => ?_)
  obtain ⟨X3, hX3⟩ : ∃ Xq, Xq = u3 X2 32 0 2 b := ⟨_, rfl⟩
  rw [← hX3] at hw
  have hRX3 : Rng X3 := by rw [hX3]; exact rng_set hRX2 (show (-2147483648) ≤ b ∧ b ≤ 2147483647 by omega)
  have hVX3 : X3 32 0 2 = b := by rw [hX3]; exact u3_s _ _ _ _ _
  have hFX3 : Frm [3201, 3202, 3203, 3204] X X3 := by rw [hX3]; exact Frm.set hFX2 (show 3203 ∈ [3201, 3202, 3203, 3204] by decide)
  refine lv_aload_n hx hb dX1_tell_15 rfl (lv_at hl 0 rfl) ?_
  refine lv_iload_n hx hb dX1_tell_16 rfl (lv_at hl 3 rfl) ?_
  refine x_puti (jz := 3) hx hb hf1 ⟨tyX1_ok, nmX1⟩ hw hS (by first | exact Int.le_refl 0 | omega) (by first | exact zlt hc32 | omega) sl_32_3 rfl lk20 rfl (tyX1_ok 3 (by decide)) rfl rfl dX1_tell_17 (fun H locs hw hS => ?_)
  obtain ⟨X4, hX4⟩ : ∃ Xq, Xq = u3 X3 32 0 3 d := ⟨_, rfl⟩
  rw [← hX4] at hw
  have hRX4 : Rng X4 := by rw [hX4]; exact rng_set hRX3 (show (-2147483648) ≤ d ∧ d ≤ 2147483647 by omega)
  have hVX4 : X4 32 0 3 = d := by rw [hX4]; exact u3_s _ _ _ _ _
  have hFX4 : Frm [3201, 3202, 3203, 3204] X X4 := by rw [hX4]; exact Frm.set hFX3 (show 3204 ∈ [3201, 3202, 3203, 3204] by decide)
  rw [hQ9]
  refine ret_v (mc := 0) (ms := 0) hx hb hr hlocks hw hS (by omega) (by omega) dX1_tell_20 ?_
  have q5 : Frm [3201, 3202, 3203, 3204] X X1 := by rw [hX1]; exact Frm.set Frm.rf (show 3201 ∈ [3201, 3202, 3203, 3204] by decide)
  have q6 : Frm [3201, 3202, 3203, 3204] X X2 := by rw [hX2]; exact Frm.set q5 (show 3202 ∈ [3201, 3202, 3203, 3204] by decide)
  have q7 : Frm [3201, 3202, 3203, 3204] X X3 := by rw [hX3]; exact Frm.set q6 (show 3203 ∈ [3201, 3202, 3203, 3204] by decide)
  have q8 : Frm [3201, 3202, 3203, 3204] X X4 := by rw [hX4]; exact Frm.set q7 (show 3204 ∈ [3201, 3202, 3203, 3204] by decide)
  have hCq9 : CInv cnt X4 Y ln := cinv_frm (M := [3201, 3202, 3203, 3204]) (N := []) hCI q8 Frm.rf (by decide) (by decide)
  exact ⟨X4, rfl, hRX4, hFX4, hCq9, by omega⟩

set_option maxHeartbeats 4000000 in
set_option maxRecDepth 100000 in
theorem c_X2_isFull (l : Launch) (D : va_G) (tc : Nat → ClassId) (base : Nat) (ad : Nat → Int → Nat) (cnt : Nat → Int) (X : Nat → Int → Int → Int) (Y : Nat → Int → Int → Option Int) (ln : Int → Int) (hR : Rng X) (hFx : Fx cnt) (hLn : LnOK ln) (hCI : CInv cnt X Y ln) : KI l D tc base yX2_isFull wsX2_isFull ({ frames := 0, cells := 0, slots := 0, locals := 0 } : Room) [.ref (ad 29 0)] (ad, cnt, X, Y, ln) 0 0 (fun z u => u = (ad, cnt, X, Y, ln) ∧ ((z = 1 ∧ 80 ≤ X 29 0 1) ∨ (z = 0 ∧ X 29 0 1 ≤ 79))) := by
  refine K_of (cc := cX2_isFull) (maxL := 1) (ret := (some .boolean)) (by decide) rfl (Nat.le_of_ble_eq_true rfl) ?_
  intro p e s m below meth c ls hx hb hr hml hown hts hlocks hl hK hw hS
  have hown : s.vm.findClass RX2 = some m.cls := hown
  obtain ⟨av9, hav9⟩ : ∃ a9 : Array Value, a9 = ([.ref (ad 29 0)] : List Value).toArray := ⟨_, rfl⟩
  rw [← hav9] at hts ⊢
  obtain ⟨Q9, hQ9⟩ : ∃ q9Q : State → Prop, q9Q = MQ below (QI D tc base (fun z u => u = (ad, cnt, X, Y, ln) ∧ ((z = 1 ∧ 80 ≤ X 29 0 1) ∨ (z = 0 ∧ X 29 0 1 ≤ 79)))) av9 s 0 0 (frA base) := ⟨_, rfl⟩
  rw [← hQ9]
  have hi2 : ∀ w ∈ wsX20, w ∈ wsX2_isFull := fun w h => List.mem_cons_of_mem _ (List.mem_append_right _ h)
  have hf2 : fctx s m _ RX2 wsX2_isFull D tc RX2 TX2 4 2 := ⟨hts, hi2, hown, hK.1, rfl⟩
  have lk22 := hts (.fieldLink RX2 22 (TX2 1).1 (TX2 1).2.1 (TX2 1).2.2.1) (gj_X2_isFull_0 _ (gp_h))
  have hc29 : cnt 29 = 1 := hFx.at 29 1 (by decide)
  have hl : lv_has ls 1 [(0, .ref (ad 29 0))] := hl
  have ftc : 0 ≤ X 0 0 3 ∧ X 0 0 3 ≤ 30 := hR 0 0 3
  have fty : 0 ≤ X 0 0 1 ∧ X 0 0 1 ≤ 8 := hR 0 0 1
  have hct : cnt 19 = X 0 0 1 := hCI.2.2.2.1.1
  have hfj : 0 ≤ X 29 0 3 ∧ X 29 0 3 ≤ 4 := hR 29 0 3
  have hfn : 0 ≤ X 29 0 1 ∧ X 29 0 1 ≤ 80 := hR 29 0 1
  refine lv_aload_n hx hb dX2_isFull_0 rfl (lv_at hl 0 rfl) ?_
  refine x_geti (jz := 1) hx hb hf2 hw (by first | exact Int.le_refl 0 | omega) (by first | exact zlt hc29 | omega) sl_29_1 rfl lk22 dX2_isFull_1 ?_
  have f1 : 0 ≤ X 29 0 1 ∧ X 29 0 1 ≤ 80 := hR 29 0 1
  refine lv_bipush (v := jI 80) hx hb dX2_isFull_4 (by decide) ?_
  refine x_icmp_lt (tgt := 13) hx hb (by omega) (by omega) dX2_isFull_6 (by decide) (fun c2 => ?_) (fun c2 => ?_)
  · refine lv_iconst (v := jI 0) hx hb dX2_isFull_13 rfl ?_
    rw [hQ9]
    refine ret_z (mc := 0) (ms := 0) hx hb hr hlocks hw hS (by omega) (by omega) dX2_isFull_14 (by omega) ?_
    exact ⟨rfl, Or.inr ⟨rfl, (by first | omega | (intro q; first | omega | (simp only [Hid] at *; omega)))⟩⟩
  · refine lv_iconst (v := jI 1) hx hb dX2_isFull_9 rfl ?_
    refine lv_goto (tgt := 14) hx hb dX2_isFull_10 (by decide) ?_
    rw [hQ9]
    refine ret_z (mc := 0) (ms := 0) hx hb hr hlocks hw hS (by omega) (by omega) dX2_isFull_14 (by omega) ?_
    exact ⟨rfl, Or.inl ⟨rfl, by omega⟩⟩

set_option maxHeartbeats 4000000 in
set_option maxRecDepth 100000 in
theorem c_X2_write_rr (l : Launch) (D : va_G) (tc : Nat → ClassId) (base : Nat) (ad : Nat → Int → Nat) (cnt : Nat → Int) (X : Nat → Int → Int → Int) (Y : Nat → Int → Int → Option Int) (ln : Int → Int) (hR : Rng X) (hFx : Fx cnt) (hLn : LnOK ln) (hCI : CInv cnt X Y ln) (x i v g : Int) (hx0 : 0 ≤ x ∧ x ≤ 29) (hi : 0 ≤ i ∧ i ≤ 4) (hv : -9223372036854775808 ≤ v ∧ v ≤ 9223372036854775807) (hg : 0 ≤ g ∧ g < cnt 26) (hnf : X 29 0 1 ≤ 79) : KV l D tc base yX2_write wsX2_write ({ frames := 1, cells := 0, slots := 0, locals := 20 } : Room) [.ref (ad 29 0), .ref (ad 15 x), .int (jI i), .long (jL v), .ref (ad 26 g)] (ad, cnt, X, Y, ln) 0 0 (fun u => ∃ (X1 : Nat → Int → Int → Int) (Y1 : Nat → Int → Int → Option Int), u = (ad, cnt, X1, Y1, ln) ∧ Rng X1 ∧ Frm [2802, 2803, 2902] X X1 ∧ Frm [2801, 2804] Y Y1 ∧ CInv cnt X1 Y1 ln ∧ (0 : Int) ≤ 0 ∧ eNoteC X X1 Y Y1 (some x) i v (some g)) := by
  refine K_of (cc := cX2_write) (maxL := 7) (ret := none) (by decide) rfl (Nat.le_of_ble_eq_true rfl) ?_
  intro p e s m below meth c ls hx hb hr hml hown hts hlocks hl hK hw hS
  have hown : s.vm.findClass RX2 = some m.cls := hown
  obtain ⟨av9, hav9⟩ : ∃ a9 : Array Value, a9 = ([.ref (ad 29 0), .ref (ad 15 x), .int (jI i), .long (jL v), .ref (ad 26 g)] : List Value).toArray := ⟨_, rfl⟩
  rw [← hav9] at hts ⊢
  obtain ⟨Q9, hQ9⟩ : ∃ q9Q : State → Prop, q9Q = MQ below (QV D tc base (fun u => ∃ (X1 : Nat → Int → Int → Int) (Y1 : Nat → Int → Int → Option Int), u = (ad, cnt, X1, Y1, ln) ∧ Rng X1 ∧ Frm [2802, 2803, 2902] X X1 ∧ Frm [2801, 2804] Y Y1 ∧ CInv cnt X1 Y1 ln ∧ (0 : Int) ≤ 0 ∧ eNoteC X X1 Y Y1 (some x) i v (some g))) av9 s 0 0 (frA base) := ⟨_, rfl⟩
  rw [← hQ9]
  have hi2 : ∀ w ∈ wsX20, w ∈ wsX2_write := fun w h => List.mem_cons_of_mem _ (List.mem_append_left _ (List.mem_append_right _ h))
  have hf2 : fctx s m _ RX2 wsX2_write D tc RX2 TX2 4 2 := ⟨hts, hi2, hown, hK.1, rfl⟩
  have hi3 : ∀ w ∈ wsX30, w ∈ wsX2_write := fun w h => List.mem_cons_of_mem _ (List.mem_append_right _ h)
  have hf3 : fctx s m _ RX2 wsX2_write D tc RX3 TX3 4 3 := ⟨hts, hi3, hown, hK.1, rfl⟩
  have lk11 := hts (.fieldLink RX2 11 (TX2 0).1 (TX2 0).2.1 (TX2 0).2.2.1) (gj_X2_write_0 _ (gp_1 gp_h))
  have lk22 := hts (.fieldLink RX2 22 (TX2 1).1 (TX2 1).2.1 (TX2 1).2.2.1) (gj_X2_write_0 _ (gp_1 (gp_1 gp_h)))
  have lk45 := hts (.fieldLink RX2 45 (TX2 3).1 (TX2 3).2.1 (TX2 3).2.2.1) (gj_X2_write_0 _ (gp_h))
  have lk52 := hts (.fieldLink RX2 52 (TX3 0).1 (TX3 0).2.1 (TX3 0).2.2.1) (gj_X2_write_0 _ (gp_1 (gp_1 (gp_1 gp_h))))
  have lk56 := hts (.fieldLink RX2 56 (TX3 1).1 (TX3 1).2.1 (TX3 1).2.2.1) (gj_X2_write_0 _ (gp_4 gp_h))
  have lk59 := hts (.fieldLink RX2 59 (TX3 2).1 (TX3 2).2.1 (TX3 2).2.2.1) (gj_X2_write_0 _ (gp_4 (gp_1 gp_h)))
  have lk63 := hts (.fieldLink RX2 63 (TX3 3).1 (TX3 3).2.1 (TX3 3).2.2.1) (gj_X2_write_0 _ (gp_4 (gp_1 (gp_1 gp_h))))
  have hc15 : cnt 15 = 30 := hFx.at 15 30 (by decide)
  have hc28 : cnt 28 = 80 := hFx.at 28 80 (by decide)
  have hc29 : cnt 29 = 1 := hFx.at 29 1 (by decide)
  have hc30 : cnt 30 = 1 := hFx.at 30 1 (by decide)
  have hl : lv_has ls 7 [(0, .ref (ad 29 0)), (1, .ref (ad 15 x)), (2, .int (jI i)), (3, .long (jL v)), (5, .ref (ad 26 g))] := hl
  have ftc : 0 ≤ X 0 0 3 ∧ X 0 0 3 ≤ 30 := hR 0 0 3
  have fty : 0 ≤ X 0 0 1 ∧ X 0 0 1 ≤ 8 := hR 0 0 1
  have hct : cnt 19 = X 0 0 1 := hCI.2.2.2.1.1
  have hfj : 0 ≤ X 29 0 3 ∧ X 29 0 3 ≤ 4 := hR 29 0 3
  have hfn : 0 ≤ X 29 0 1 ∧ X 29 0 1 ≤ 80 := hR 29 0 1
  refine lv_aload_n hx hb dX2_write_0 rfl (lv_at hl 0 rfl) ?_
  refine x_geti (jz := 3) hx hb hf2 hw (by first | exact Int.le_refl 0 | omega) (by first | exact zlt hc29 | omega) sl_29_3 rfl lk45 dX2_write_1 ?_
  have f1 : 0 ≤ X 29 0 3 ∧ X 29 0 3 ≤ 4 := hR 29 0 3
  refine x_if_eq (tgt := 14) hx hb (by omega) dX2_write_4 (by decide) (fun c2 => ?_) (fun c2 => ?_)
  · rw [hQ9]
    refine ret_v (mc := 0) (ms := 0) hx hb hr hlocks hw hS (by omega) (by omega) dX2_write_14 ?_
    exact ⟨X, Y, rfl, hR, Frm.rf, Frm.rf, hCI, by omega, (by first | exact Or.inl ⟨by omega, rfl, rfl, rfl⟩ | (exfalso; omega))⟩
  · refine lv_aload_n hx hb dX2_write_7 rfl (lv_at hl 0 rfl) ?_
    refine gos_i (run_V (As := []) (rest := []) hx hb hml hown hts (c_X2_isFull l D tc base ad cnt X Y ln hR hFx hLn hCI) (cwV 0 hts gX2_write_X2_isFull rfl rfl rfl (by decide +kernel) ⟨Nat.le_of_ble_eq_true rfl, Nat.le_of_ble_eq_true rfl⟩) hK hw (by omega) (by omega) sl_29_0 rfl rfl hl.1 rfl (Nat.le_of_ble_eq_true rfl) dX2_write_8 ⟨Nat.le_of_ble_eq_true rfl, Nat.le_of_ble_eq_true rfl⟩) hS (fun z3 u4 H locs p5 hw hS => ?_)
    obtain ⟨eu4, p5⟩ := p5
    subst eu4
    rcases p5 with ⟨ez3, p5⟩ | ⟨ez3, p5⟩
    · subst ez3
      refine x_if_eqF (tgt := 15) hx hb (by omega) (by decide) dX2_write_11 (by decide) ?_
      rw [hQ9]
      refine ret_v (mc := 0) (ms := 0) hx hb hr hlocks hw hS (by omega) (by omega) dX2_write_14 ?_
      exact ⟨X, Y, rfl, hR, Frm.rf, Frm.rf, hCI, by omega, (by first | exact Or.inl ⟨by omega, rfl, rfl, rfl⟩ | (exfalso; omega))⟩
    · subst ez3
      refine x_if_eqT (tgt := 15) hx hb (by omega) (by decide) dX2_write_11 (by decide) ?_
      refine lv_aload_n hx hb dX2_write_15 rfl (lv_at hl 0 rfl) ?_
      refine x_geto hx hb hf2 hw (by first | exact Int.le_refl 0 | omega) (by first | exact zlt hc29 | omega) sl_29_0 lk11 dX2_write_16 ?_
      refine lv_aload_n hx hb dX2_write_19 rfl (lv_at hl 0 rfl) ?_
      refine x_geti (jz := 1) hx hb hf2 hw (by first | exact Int.le_refl 0 | omega) (by first | exact zlt hc29 | omega) sl_29_1 rfl lk22 dX2_write_20 ?_
      have f6 : 0 ≤ X 29 0 1 ∧ X 29 0 1 ≤ 80 := hR 29 0 1
      refine x_aald hx hb hK.1 hw (by first | exact Int.le_refl 0 | omega) (by first | exact zlt hc30 | omega) ar_30 rfl (len_E ar_30 (by decide)) (by omega) (by omega) (by omega) dX2_write_23 (fun y7 => ?_) (fun r8 y7 gr8 lr8 => ?_)
      · exfalso
        have h9 := hCI.2.1 (X 29 0 1) (by omega) (by omega); rw [h9] at y7; cases y7
      · have er8 : r8 = (X 29 0 1) := by have h9 := hCI.2.1 (X 29 0 1) (by omega) (by omega); rw [h9] at y7; cases y7; rfl
        rw [er8]
        refine lv_astore (lv' := [(6, .ref (ad 28 (X 29 0 1))), (0, .ref (ad 29 0)), (1, .ref (ad 15 x)), (2, .int (jI i)), (3, .long (jL v)), (5, .ref (ad 26 g))]) hx hb dX2_write_24 hl (by decide) rfl (fun ls hl => ?_)
        refine lv_aload hx hb dX2_write_26 (lv_at hl 0 rfl) ?_
        refine lv_aload_n hx hb dX2_write_28 rfl (lv_at hl 2 rfl) ?_
        refine x_putr (jz := 0) hx hb hf3 ⟨tyX3_ok, nmX3⟩ hw hS (by omega) (by omega) sl_28_0 rfl lk52 rfl (by omega) (by omega) (tyX3_ok 0 (by decide)) dX2_write_29 (fun H locs hw hS => ?_)
        obtain ⟨Y9, hY9⟩ : ∃ Yq, Yq = u3 Y 28 (X 29 0 1) 0 (some x) := ⟨_, rfl⟩
        rw [← hY9] at hw
        have hVY9 : Y9 28 (X 29 0 1) 0 = (some x) := by rw [hY9]; exact u3_s _ _ _ _ _
        have hHY9 : Frm [2801, 2804] Y Y9 := by rw [hY9]; exact Frm.set Frm.rf (show 2801 ∈ [2801, 2804] by decide)
        refine lv_aload hx hb dX2_write_32 (lv_at hl 0 rfl) ?_
        refine lv_iload_n hx hb dX2_write_34 rfl (lv_at hl 3 rfl) ?_
        refine x_puti (jz := 1) hx hb hf3 ⟨tyX3_ok, nmX3⟩ hw hS (by omega) (by omega) sl_28_1 rfl lk56 rfl (tyX3_ok 1 (by decide)) rfl rfl dX2_write_35 (fun H locs hw hS => ?_)
        obtain ⟨X10, hX10⟩ : ∃ Xq, Xq = u3 X 28 (X 29 0 1) 1 i := ⟨_, rfl⟩
        rw [← hX10] at hw
        have hRX10 : Rng X10 := by rw [hX10]; exact rng_set hR (show 0 ≤ i ∧ i ≤ 11 by omega)
        have hVX10 : X10 28 (X 29 0 1) 1 = i := by rw [hX10]; exact u3_s _ _ _ _ _
        have hFX10 : Frm [2802, 2803, 2902] X X10 := by rw [hX10]; exact Frm.set Frm.rf (show 2802 ∈ [2802, 2803, 2902] by decide)
        refine lv_aload hx hb dX2_write_38 (lv_at hl 0 rfl) ?_
        refine lv_lload_n hx hb dX2_write_40 rfl (lv_at hl 4 rfl) ?_
        refine x_putl (jz := 2) hx hb hf3 ⟨tyX3_ok, nmX3⟩ hw hS (by omega) (by omega) sl_28_2 rfl lk59 rfl (tyX3_ok 2 (by decide)) dX2_write_41 (fun H locs hw hS => ?_)
        obtain ⟨X11, hX11⟩ : ∃ Xq, Xq = u3 X10 28 (X 29 0 1) 2 v := ⟨_, rfl⟩
        rw [← hX11] at hw
        have hRX11 : Rng X11 := by rw [hX11]; exact rng_set hRX10 (show (-9223372036854775808) ≤ v ∧ v ≤ 9223372036854775807 by omega)
        have hVX11 : X11 28 (X 29 0 1) 2 = v := by rw [hX11]; exact u3_s _ _ _ _ _
        have hFX11 : Frm [2802, 2803, 2902] X X11 := by rw [hX11]; exact Frm.set hFX10 (show 2803 ∈ [2802, 2803, 2902] by decide)
        refine lv_aload hx hb dX2_write_44 (lv_at hl 0 rfl) ?_
        refine lv_aload hx hb dX2_write_46 (lv_at hl 5 rfl) ?_
        refine x_putr (jz := 3) hx hb hf3 ⟨tyX3_ok, nmX3⟩ hw hS (by omega) (by omega) sl_28_3 rfl lk63 rfl (by omega) (by omega) (tyX3_ok 3 (by decide)) dX2_write_48 (fun H locs hw hS => ?_)
        obtain ⟨Y12, hY12⟩ : ∃ Yq, Yq = u3 Y9 28 (X 29 0 1) 3 (some g) := ⟨_, rfl⟩
        rw [← hY12] at hw
        have hVY12 : Y12 28 (X 29 0 1) 3 = (some g) := by rw [hY12]; exact u3_s _ _ _ _ _
        have hHY12 : Frm [2801, 2804] Y Y12 := by rw [hY12]; exact Frm.set hHY9 (show 2804 ∈ [2801, 2804] by decide)
        refine lv_aload_n hx hb dX2_write_51 rfl (lv_at hl 1 rfl) ?_
        refine lv_dup hx hb dX2_write_52 rfl ?_
        refine x_geti (jz := 1) hx hb hf2 hw (by first | exact Int.le_refl 0 | omega) (by first | exact zlt hc29 | omega) sl_29_1 rfl lk22 dX2_write_53 ?_
        have e13 : X11 29 0 1 = X 29 0 1 := by rw [hX11, u3_k _ _ _ _ (by decide), hX10, u3_k _ _ _ _ (by decide)]
        rw [e13]
        have f14 : 0 ≤ X 29 0 1 ∧ X 29 0 1 ≤ 80 := hR 29 0 1
        refine lv_iconst (v := jI 1) hx hb dX2_write_56 rfl ?_
        refine x_iadd hx hb dX2_write_57 ?_
        refine x_puti (jz := 1) hx hb hf2 ⟨tyX2_ok, nmX2⟩ hw hS (by first | exact Int.le_refl 0 | omega) (by first | exact zlt hc29 | omega) sl_29_1 rfl lk22 rfl (tyX2_ok 1 (by decide)) rfl rfl dX2_write_58 (fun H locs hw hS => ?_)
        obtain ⟨X15, hX15⟩ : ∃ Xq, Xq = u3 X11 29 0 1 ((X 29 0 1) + 1) := ⟨_, rfl⟩
        rw [← hX15] at hw
        have hRX15 : Rng X15 := by rw [hX15]; exact rng_set hRX11 (show 0 ≤ ((X 29 0 1) + 1) ∧ ((X 29 0 1) + 1) ≤ 80 by omega)
        have hVX15 : X15 29 0 1 = ((X 29 0 1) + 1) := by rw [hX15]; exact u3_s _ _ _ _ _
        have hFX15 : Frm [2802, 2803, 2902] X X15 := by rw [hX15]; exact Frm.set hFX11 (show 2902 ∈ [2802, 2803, 2902] by decide)
        rw [hQ9]
        refine ret_v (mc := 0) (ms := 0) hx hb hr hlocks hw hS (by omega) (by omega) dX2_write_61 ?_
        have e16 : X15 28 (X 29 0 1) 1 = i := (by rw [hX15, u3_k _ _ _ _ (by decide), hX11, u3_ij (by omega)]; exact hVX10)
        have e17 : Y12 28 (X 29 0 1) 0 = (some x) := (by rw [hY12, u3_ij (by omega)]; exact hVY9)
        have e18 : Y12 28 (X 29 0 1) 3 = (some g) := (by exact hVY12)
        exact ⟨X15, Y12, rfl, hRX15, hFX15, hHY12, cinv_note (n := (X 29 0 1)) hCI hFX15 hHY12 (fun m hm => ⟨(by rw [hX15, u3_k _ _ _ _ (by decide), hX11, u3_ij (by omega), hX10, u3_ij (by omega)]), (by rw [hY12, u3_ij (by omega), hY9, u3_ij (by omega)]), (by rw [hY12, u3_ij (by omega), hY9, u3_ij (by omega)])⟩) ⟨fun _ => by rw [e16]; omega, fun h => by rw [e17] at h; cases h⟩, by omega, Or.inr ⟨by omega, (by exact hVX15), ⟨(by rw [hY12, u3_ij (by omega)]; exact hVY9), (by rw [hX15, u3_k _ _ _ _ (by decide), hX11, u3_ij (by omega)]; exact hVX10), (by rw [hX15, u3_k _ _ _ _ (by decide)]; exact hVX11), (by exact hVY12)⟩, fun n hn => ⟨fun j => (by rw [hX15, u3_k _ _ _ _ (by decide), hX11, u3_ij (fun q => hn q.1), hX10, u3_ij (fun q => hn q.1)]), fun j => (by rw [hY12, u3_ij (fun q => hn q.1), hY9, u3_ij (fun q => hn q.1)])⟩⟩⟩

set_option maxHeartbeats 4000000 in
set_option maxRecDepth 100000 in
theorem c_X2_write_rn (l : Launch) (D : va_G) (tc : Nat → ClassId) (base : Nat) (ad : Nat → Int → Nat) (cnt : Nat → Int) (X : Nat → Int → Int → Int) (Y : Nat → Int → Int → Option Int) (ln : Int → Int) (hR : Rng X) (hFx : Fx cnt) (hLn : LnOK ln) (hCI : CInv cnt X Y ln) (x i v : Int) (hx0 : 0 ≤ x ∧ x ≤ 29) (hi : 0 ≤ i ∧ i ≤ 4) (hv : -9223372036854775808 ≤ v ∧ v ≤ 9223372036854775807) (hnf : X 29 0 1 ≤ 79) : KV l D tc base yX2_write wsX2_write ({ frames := 1, cells := 0, slots := 0, locals := 20 } : Room) [.ref (ad 29 0), .ref (ad 15 x), .int (jI i), .long (jL v), .null] (ad, cnt, X, Y, ln) 0 0 (fun u => ∃ (X1 : Nat → Int → Int → Int) (Y1 : Nat → Int → Int → Option Int), u = (ad, cnt, X1, Y1, ln) ∧ Rng X1 ∧ Frm [2802, 2803, 2902] X X1 ∧ Frm [2801, 2804] Y Y1 ∧ CInv cnt X1 Y1 ln ∧ (0 : Int) ≤ 0 ∧ eNoteC X X1 Y Y1 (some x) i v none) := by
  refine K_of (cc := cX2_write) (maxL := 7) (ret := none) (by decide) rfl (Nat.le_of_ble_eq_true rfl) ?_
  intro p e s m below meth c ls hx hb hr hml hown hts hlocks hl hK hw hS
  have hown : s.vm.findClass RX2 = some m.cls := hown
  obtain ⟨av9, hav9⟩ : ∃ a9 : Array Value, a9 = ([.ref (ad 29 0), .ref (ad 15 x), .int (jI i), .long (jL v), .null] : List Value).toArray := ⟨_, rfl⟩
  rw [← hav9] at hts ⊢
  obtain ⟨Q9, hQ9⟩ : ∃ q9Q : State → Prop, q9Q = MQ below (QV D tc base (fun u => ∃ (X1 : Nat → Int → Int → Int) (Y1 : Nat → Int → Int → Option Int), u = (ad, cnt, X1, Y1, ln) ∧ Rng X1 ∧ Frm [2802, 2803, 2902] X X1 ∧ Frm [2801, 2804] Y Y1 ∧ CInv cnt X1 Y1 ln ∧ (0 : Int) ≤ 0 ∧ eNoteC X X1 Y Y1 (some x) i v none)) av9 s 0 0 (frA base) := ⟨_, rfl⟩
  rw [← hQ9]
  have hi2 : ∀ w ∈ wsX20, w ∈ wsX2_write := fun w h => List.mem_cons_of_mem _ (List.mem_append_left _ (List.mem_append_right _ h))
  have hf2 : fctx s m _ RX2 wsX2_write D tc RX2 TX2 4 2 := ⟨hts, hi2, hown, hK.1, rfl⟩
  have hi3 : ∀ w ∈ wsX30, w ∈ wsX2_write := fun w h => List.mem_cons_of_mem _ (List.mem_append_right _ h)
  have hf3 : fctx s m _ RX2 wsX2_write D tc RX3 TX3 4 3 := ⟨hts, hi3, hown, hK.1, rfl⟩
  have lk11 := hts (.fieldLink RX2 11 (TX2 0).1 (TX2 0).2.1 (TX2 0).2.2.1) (gj_X2_write_0 _ (gp_1 gp_h))
  have lk22 := hts (.fieldLink RX2 22 (TX2 1).1 (TX2 1).2.1 (TX2 1).2.2.1) (gj_X2_write_0 _ (gp_1 (gp_1 gp_h)))
  have lk45 := hts (.fieldLink RX2 45 (TX2 3).1 (TX2 3).2.1 (TX2 3).2.2.1) (gj_X2_write_0 _ (gp_h))
  have lk52 := hts (.fieldLink RX2 52 (TX3 0).1 (TX3 0).2.1 (TX3 0).2.2.1) (gj_X2_write_0 _ (gp_1 (gp_1 (gp_1 gp_h))))
  have lk56 := hts (.fieldLink RX2 56 (TX3 1).1 (TX3 1).2.1 (TX3 1).2.2.1) (gj_X2_write_0 _ (gp_4 gp_h))
  have lk59 := hts (.fieldLink RX2 59 (TX3 2).1 (TX3 2).2.1 (TX3 2).2.2.1) (gj_X2_write_0 _ (gp_4 (gp_1 gp_h)))
  have lk63 := hts (.fieldLink RX2 63 (TX3 3).1 (TX3 3).2.1 (TX3 3).2.2.1) (gj_X2_write_0 _ (gp_4 (gp_1 (gp_1 gp_h))))
  have hc15 : cnt 15 = 30 := hFx.at 15 30 (by decide)
  have hc28 : cnt 28 = 80 := hFx.at 28 80 (by decide)
  have hc29 : cnt 29 = 1 := hFx.at 29 1 (by decide)
  have hc30 : cnt 30 = 1 := hFx.at 30 1 (by decide)
  have hl : lv_has ls 7 [(0, .ref (ad 29 0)), (1, .ref (ad 15 x)), (2, .int (jI i)), (3, .long (jL v)), (5, .null)] := hl
  have ftc : 0 ≤ X 0 0 3 ∧ X 0 0 3 ≤ 30 := hR 0 0 3
  have fty : 0 ≤ X 0 0 1 ∧ X 0 0 1 ≤ 8 := hR 0 0 1
  have hct : cnt 19 = X 0 0 1 := hCI.2.2.2.1.1
  have hfj : 0 ≤ X 29 0 3 ∧ X 29 0 3 ≤ 4 := hR 29 0 3
  have hfn : 0 ≤ X 29 0 1 ∧ X 29 0 1 ≤ 80 := hR 29 0 1
  refine lv_aload_n hx hb dX2_write_0 rfl (lv_at hl 0 rfl) ?_
  refine x_geti (jz := 3) hx hb hf2 hw (by first | exact Int.le_refl 0 | omega) (by first | exact zlt hc29 | omega) sl_29_3 rfl lk45 dX2_write_1 ?_
  have f1 : 0 ≤ X 29 0 3 ∧ X 29 0 3 ≤ 4 := hR 29 0 3
  refine x_if_eq (tgt := 14) hx hb (by omega) dX2_write_4 (by decide) (fun c2 => ?_) (fun c2 => ?_)
  · rw [hQ9]
    refine ret_v (mc := 0) (ms := 0) hx hb hr hlocks hw hS (by omega) (by omega) dX2_write_14 ?_
    exact ⟨X, Y, rfl, hR, Frm.rf, Frm.rf, hCI, by omega, (by first | exact Or.inl ⟨by omega, rfl, rfl, rfl⟩ | (exfalso; omega))⟩
  · refine lv_aload_n hx hb dX2_write_7 rfl (lv_at hl 0 rfl) ?_
    refine gos_i (run_V (As := []) (rest := []) hx hb hml hown hts (c_X2_isFull l D tc base ad cnt X Y ln hR hFx hLn hCI) (cwV 0 hts gX2_write_X2_isFull rfl rfl rfl (by decide +kernel) ⟨Nat.le_of_ble_eq_true rfl, Nat.le_of_ble_eq_true rfl⟩) hK hw (by omega) (by omega) sl_29_0 rfl rfl hl.1 rfl (Nat.le_of_ble_eq_true rfl) dX2_write_8 ⟨Nat.le_of_ble_eq_true rfl, Nat.le_of_ble_eq_true rfl⟩) hS (fun z3 u4 H locs p5 hw hS => ?_)
    obtain ⟨eu4, p5⟩ := p5
    subst eu4
    rcases p5 with ⟨ez3, p5⟩ | ⟨ez3, p5⟩
    · subst ez3
      refine x_if_eqF (tgt := 15) hx hb (by omega) (by decide) dX2_write_11 (by decide) ?_
      rw [hQ9]
      refine ret_v (mc := 0) (ms := 0) hx hb hr hlocks hw hS (by omega) (by omega) dX2_write_14 ?_
      exact ⟨X, Y, rfl, hR, Frm.rf, Frm.rf, hCI, by omega, (by first | exact Or.inl ⟨by omega, rfl, rfl, rfl⟩ | (exfalso; omega))⟩
    · subst ez3
      refine x_if_eqT (tgt := 15) hx hb (by omega) (by decide) dX2_write_11 (by decide) ?_
      refine lv_aload_n hx hb dX2_write_15 rfl (lv_at hl 0 rfl) ?_
      refine x_geto hx hb hf2 hw (by first | exact Int.le_refl 0 | omega) (by first | exact zlt hc29 | omega) sl_29_0 lk11 dX2_write_16 ?_
      refine lv_aload_n hx hb dX2_write_19 rfl (lv_at hl 0 rfl) ?_
      refine x_geti (jz := 1) hx hb hf2 hw (by first | exact Int.le_refl 0 | omega) (by first | exact zlt hc29 | omega) sl_29_1 rfl lk22 dX2_write_20 ?_
      have f6 : 0 ≤ X 29 0 1 ∧ X 29 0 1 ≤ 80 := hR 29 0 1
      refine x_aald hx hb hK.1 hw (by first | exact Int.le_refl 0 | omega) (by first | exact zlt hc30 | omega) ar_30 rfl (len_E ar_30 (by decide)) (by omega) (by omega) (by omega) dX2_write_23 (fun y7 => ?_) (fun r8 y7 gr8 lr8 => ?_)
      · exfalso
        have h9 := hCI.2.1 (X 29 0 1) (by omega) (by omega); rw [h9] at y7; cases y7
      · have er8 : r8 = (X 29 0 1) := by have h9 := hCI.2.1 (X 29 0 1) (by omega) (by omega); rw [h9] at y7; cases y7; rfl
        rw [er8]
        refine lv_astore (lv' := [(6, .ref (ad 28 (X 29 0 1))), (0, .ref (ad 29 0)), (1, .ref (ad 15 x)), (2, .int (jI i)), (3, .long (jL v)), (5, .null)]) hx hb dX2_write_24 hl (by decide) rfl (fun ls hl => ?_)
        refine lv_aload hx hb dX2_write_26 (lv_at hl 0 rfl) ?_
        refine lv_aload_n hx hb dX2_write_28 rfl (lv_at hl 2 rfl) ?_
        refine x_putr (jz := 0) hx hb hf3 ⟨tyX3_ok, nmX3⟩ hw hS (by omega) (by omega) sl_28_0 rfl lk52 rfl (by omega) (by omega) (tyX3_ok 0 (by decide)) dX2_write_29 (fun H locs hw hS => ?_)
        obtain ⟨Y9, hY9⟩ : ∃ Yq, Yq = u3 Y 28 (X 29 0 1) 0 (some x) := ⟨_, rfl⟩
        rw [← hY9] at hw
        have hVY9 : Y9 28 (X 29 0 1) 0 = (some x) := by rw [hY9]; exact u3_s _ _ _ _ _
        have hHY9 : Frm [2801, 2804] Y Y9 := by rw [hY9]; exact Frm.set Frm.rf (show 2801 ∈ [2801, 2804] by decide)
        refine lv_aload hx hb dX2_write_32 (lv_at hl 0 rfl) ?_
        refine lv_iload_n hx hb dX2_write_34 rfl (lv_at hl 3 rfl) ?_
        refine x_puti (jz := 1) hx hb hf3 ⟨tyX3_ok, nmX3⟩ hw hS (by omega) (by omega) sl_28_1 rfl lk56 rfl (tyX3_ok 1 (by decide)) rfl rfl dX2_write_35 (fun H locs hw hS => ?_)
        obtain ⟨X10, hX10⟩ : ∃ Xq, Xq = u3 X 28 (X 29 0 1) 1 i := ⟨_, rfl⟩
        rw [← hX10] at hw
        have hRX10 : Rng X10 := by rw [hX10]; exact rng_set hR (show 0 ≤ i ∧ i ≤ 11 by omega)
        have hVX10 : X10 28 (X 29 0 1) 1 = i := by rw [hX10]; exact u3_s _ _ _ _ _
        have hFX10 : Frm [2802, 2803, 2902] X X10 := by rw [hX10]; exact Frm.set Frm.rf (show 2802 ∈ [2802, 2803, 2902] by decide)
        refine lv_aload hx hb dX2_write_38 (lv_at hl 0 rfl) ?_
        refine lv_lload_n hx hb dX2_write_40 rfl (lv_at hl 4 rfl) ?_
        refine x_putl (jz := 2) hx hb hf3 ⟨tyX3_ok, nmX3⟩ hw hS (by omega) (by omega) sl_28_2 rfl lk59 rfl (tyX3_ok 2 (by decide)) dX2_write_41 (fun H locs hw hS => ?_)
        obtain ⟨X11, hX11⟩ : ∃ Xq, Xq = u3 X10 28 (X 29 0 1) 2 v := ⟨_, rfl⟩
        rw [← hX11] at hw
        have hRX11 : Rng X11 := by rw [hX11]; exact rng_set hRX10 (show (-9223372036854775808) ≤ v ∧ v ≤ 9223372036854775807 by omega)
        have hVX11 : X11 28 (X 29 0 1) 2 = v := by rw [hX11]; exact u3_s _ _ _ _ _
        have hFX11 : Frm [2802, 2803, 2902] X X11 := by rw [hX11]; exact Frm.set hFX10 (show 2803 ∈ [2802, 2803, 2902] by decide)
        refine lv_aload hx hb dX2_write_44 (lv_at hl 0 rfl) ?_
        refine lv_aloadN hx hb dX2_write_46 (lv_at hl 5 rfl) ?_
        refine x_putn (jz := 3) hx hb hf3 ⟨tyX3_ok, nmX3⟩ hw hS (by omega) (by omega) sl_28_3 rfl lk63 rfl (tyX3_ok 3 (by decide)) dX2_write_48 (fun H locs hw hS => ?_)
        obtain ⟨Y12, hY12⟩ : ∃ Yq, Yq = u3 Y9 28 (X 29 0 1) 3 none := ⟨_, rfl⟩
        rw [← hY12] at hw
        have hVY12 : Y12 28 (X 29 0 1) 3 = none := by rw [hY12]; exact u3_s _ _ _ _ _
        have hHY12 : Frm [2801, 2804] Y Y12 := by rw [hY12]; exact Frm.set hHY9 (show 2804 ∈ [2801, 2804] by decide)
        refine lv_aload_n hx hb dX2_write_51 rfl (lv_at hl 1 rfl) ?_
        refine lv_dup hx hb dX2_write_52 rfl ?_
        refine x_geti (jz := 1) hx hb hf2 hw (by first | exact Int.le_refl 0 | omega) (by first | exact zlt hc29 | omega) sl_29_1 rfl lk22 dX2_write_53 ?_
        have e13 : X11 29 0 1 = X 29 0 1 := by rw [hX11, u3_k _ _ _ _ (by decide), hX10, u3_k _ _ _ _ (by decide)]
        rw [e13]
        have f14 : 0 ≤ X 29 0 1 ∧ X 29 0 1 ≤ 80 := hR 29 0 1
        refine lv_iconst (v := jI 1) hx hb dX2_write_56 rfl ?_
        refine x_iadd hx hb dX2_write_57 ?_
        refine x_puti (jz := 1) hx hb hf2 ⟨tyX2_ok, nmX2⟩ hw hS (by first | exact Int.le_refl 0 | omega) (by first | exact zlt hc29 | omega) sl_29_1 rfl lk22 rfl (tyX2_ok 1 (by decide)) rfl rfl dX2_write_58 (fun H locs hw hS => ?_)
        obtain ⟨X15, hX15⟩ : ∃ Xq, Xq = u3 X11 29 0 1 ((X 29 0 1) + 1) := ⟨_, rfl⟩
        rw [← hX15] at hw
        have hRX15 : Rng X15 := by rw [hX15]; exact rng_set hRX11 (show 0 ≤ ((X 29 0 1) + 1) ∧ ((X 29 0 1) + 1) ≤ 80 by omega)
        have hVX15 : X15 29 0 1 = ((X 29 0 1) + 1) := by rw [hX15]; exact u3_s _ _ _ _ _
        have hFX15 : Frm [2802, 2803, 2902] X X15 := by rw [hX15]; exact Frm.set hFX11 (show 2902 ∈ [2802, 2803, 2902] by decide)
        rw [hQ9]
        refine ret_v (mc := 0) (ms := 0) hx hb hr hlocks hw hS (by omega) (by omega) dX2_write_61 ?_
        have e16 : X15 28 (X 29 0 1) 1 = i := (by rw [hX15, u3_k _ _ _ _ (by decide), hX11, u3_ij (by omega)]; exact hVX10)
        have e17 : Y12 28 (X 29 0 1) 0 = (some x) := (by rw [hY12, u3_ij (by omega)]; exact hVY9)
        have e18 : Y12 28 (X 29 0 1) 3 = none := (by exact hVY12)
        exact ⟨X15, Y12, rfl, hRX15, hFX15, hHY12, cinv_note (n := (X 29 0 1)) hCI hFX15 hHY12 (fun m hm => ⟨(by rw [hX15, u3_k _ _ _ _ (by decide), hX11, u3_ij (by omega), hX10, u3_ij (by omega)]), (by rw [hY12, u3_ij (by omega), hY9, u3_ij (by omega)]), (by rw [hY12, u3_ij (by omega), hY9, u3_ij (by omega)])⟩) ⟨fun _ => by rw [e16]; omega, fun h => by rw [e17] at h; cases h⟩, by omega, Or.inr ⟨by omega, (by exact hVX15), ⟨(by rw [hY12, u3_ij (by omega)]; exact hVY9), (by rw [hX15, u3_k _ _ _ _ (by decide), hX11, u3_ij (by omega)]; exact hVX10), (by rw [hX15, u3_k _ _ _ _ (by decide)]; exact hVX11), (by exact hVY12)⟩, fun n hn => ⟨fun j => (by rw [hX15, u3_k _ _ _ _ (by decide), hX11, u3_ij (fun q => hn q.1), hX10, u3_ij (fun q => hn q.1)]), fun j => (by rw [hY12, u3_ij (fun q => hn q.1), hY9, u3_ij (fun q => hn q.1)])⟩⟩⟩

set_option maxHeartbeats 4000000 in
set_option maxRecDepth 100000 in
theorem c_X2_write_nr (l : Launch) (D : va_G) (tc : Nat → ClassId) (base : Nat) (ad : Nat → Int → Nat) (cnt : Nat → Int) (X : Nat → Int → Int → Int) (Y : Nat → Int → Int → Option Int) (ln : Int → Int) (hR : Rng X) (hFx : Fx cnt) (hLn : LnOK ln) (hCI : CInv cnt X Y ln) (i v g : Int) (hi : 0 ≤ i ∧ i < ln g ∧ i ≤ 11) (hv : -9223372036854775808 ≤ v ∧ v ≤ 9223372036854775807) (hg : 0 ≤ g ∧ g < cnt 26) (hnf : X 29 0 1 ≤ 79) : KV l D tc base yX2_write wsX2_write ({ frames := 1, cells := 0, slots := 0, locals := 20 } : Room) [.ref (ad 29 0), .null, .int (jI i), .long (jL v), .ref (ad 26 g)] (ad, cnt, X, Y, ln) 0 0 (fun u => ∃ (X1 : Nat → Int → Int → Int) (Y1 : Nat → Int → Int → Option Int), u = (ad, cnt, X1, Y1, ln) ∧ Rng X1 ∧ Frm [2802, 2803, 2902] X X1 ∧ Frm [2801, 2804] Y Y1 ∧ CInv cnt X1 Y1 ln ∧ (0 : Int) ≤ 0 ∧ eNoteC X X1 Y Y1 none i v (some g)) := by
  refine K_of (cc := cX2_write) (maxL := 7) (ret := none) (by decide) rfl (Nat.le_of_ble_eq_true rfl) ?_
  intro p e s m below meth c ls hx hb hr hml hown hts hlocks hl hK hw hS
  have hown : s.vm.findClass RX2 = some m.cls := hown
  obtain ⟨av9, hav9⟩ : ∃ a9 : Array Value, a9 = ([.ref (ad 29 0), .null, .int (jI i), .long (jL v), .ref (ad 26 g)] : List Value).toArray := ⟨_, rfl⟩
  rw [← hav9] at hts ⊢
  obtain ⟨Q9, hQ9⟩ : ∃ q9Q : State → Prop, q9Q = MQ below (QV D tc base (fun u => ∃ (X1 : Nat → Int → Int → Int) (Y1 : Nat → Int → Int → Option Int), u = (ad, cnt, X1, Y1, ln) ∧ Rng X1 ∧ Frm [2802, 2803, 2902] X X1 ∧ Frm [2801, 2804] Y Y1 ∧ CInv cnt X1 Y1 ln ∧ (0 : Int) ≤ 0 ∧ eNoteC X X1 Y Y1 none i v (some g))) av9 s 0 0 (frA base) := ⟨_, rfl⟩
  rw [← hQ9]
  have hi2 : ∀ w ∈ wsX20, w ∈ wsX2_write := fun w h => List.mem_cons_of_mem _ (List.mem_append_left _ (List.mem_append_right _ h))
  have hf2 : fctx s m _ RX2 wsX2_write D tc RX2 TX2 4 2 := ⟨hts, hi2, hown, hK.1, rfl⟩
  have hi3 : ∀ w ∈ wsX30, w ∈ wsX2_write := fun w h => List.mem_cons_of_mem _ (List.mem_append_right _ h)
  have hf3 : fctx s m _ RX2 wsX2_write D tc RX3 TX3 4 3 := ⟨hts, hi3, hown, hK.1, rfl⟩
  have lk11 := hts (.fieldLink RX2 11 (TX2 0).1 (TX2 0).2.1 (TX2 0).2.2.1) (gj_X2_write_0 _ (gp_1 gp_h))
  have lk22 := hts (.fieldLink RX2 22 (TX2 1).1 (TX2 1).2.1 (TX2 1).2.2.1) (gj_X2_write_0 _ (gp_1 (gp_1 gp_h)))
  have lk45 := hts (.fieldLink RX2 45 (TX2 3).1 (TX2 3).2.1 (TX2 3).2.2.1) (gj_X2_write_0 _ (gp_h))
  have lk52 := hts (.fieldLink RX2 52 (TX3 0).1 (TX3 0).2.1 (TX3 0).2.2.1) (gj_X2_write_0 _ (gp_1 (gp_1 (gp_1 gp_h))))
  have lk56 := hts (.fieldLink RX2 56 (TX3 1).1 (TX3 1).2.1 (TX3 1).2.2.1) (gj_X2_write_0 _ (gp_4 gp_h))
  have lk59 := hts (.fieldLink RX2 59 (TX3 2).1 (TX3 2).2.1 (TX3 2).2.2.1) (gj_X2_write_0 _ (gp_4 (gp_1 gp_h)))
  have lk63 := hts (.fieldLink RX2 63 (TX3 3).1 (TX3 3).2.1 (TX3 3).2.2.1) (gj_X2_write_0 _ (gp_4 (gp_1 (gp_1 gp_h))))
  have hc15 : cnt 15 = 30 := hFx.at 15 30 (by decide)
  have hc28 : cnt 28 = 80 := hFx.at 28 80 (by decide)
  have hc29 : cnt 29 = 1 := hFx.at 29 1 (by decide)
  have hc30 : cnt 30 = 1 := hFx.at 30 1 (by decide)
  have hl : lv_has ls 7 [(0, .ref (ad 29 0)), (1, .null), (2, .int (jI i)), (3, .long (jL v)), (5, .ref (ad 26 g))] := hl
  have ftc : 0 ≤ X 0 0 3 ∧ X 0 0 3 ≤ 30 := hR 0 0 3
  have fty : 0 ≤ X 0 0 1 ∧ X 0 0 1 ≤ 8 := hR 0 0 1
  have hct : cnt 19 = X 0 0 1 := hCI.2.2.2.1.1
  have hfj : 0 ≤ X 29 0 3 ∧ X 29 0 3 ≤ 4 := hR 29 0 3
  have hfn : 0 ≤ X 29 0 1 ∧ X 29 0 1 ≤ 80 := hR 29 0 1
  refine lv_aload_n hx hb dX2_write_0 rfl (lv_at hl 0 rfl) ?_
  refine x_geti (jz := 3) hx hb hf2 hw (by first | exact Int.le_refl 0 | omega) (by first | exact zlt hc29 | omega) sl_29_3 rfl lk45 dX2_write_1 ?_
  have f1 : 0 ≤ X 29 0 3 ∧ X 29 0 3 ≤ 4 := hR 29 0 3
  refine x_if_eq (tgt := 14) hx hb (by omega) dX2_write_4 (by decide) (fun c2 => ?_) (fun c2 => ?_)
  · rw [hQ9]
    refine ret_v (mc := 0) (ms := 0) hx hb hr hlocks hw hS (by omega) (by omega) dX2_write_14 ?_
    exact ⟨X, Y, rfl, hR, Frm.rf, Frm.rf, hCI, by omega, (by first | exact Or.inl ⟨by omega, rfl, rfl, rfl⟩ | (exfalso; omega))⟩
  · refine lv_aload_n hx hb dX2_write_7 rfl (lv_at hl 0 rfl) ?_
    refine gos_i (run_V (As := []) (rest := []) hx hb hml hown hts (c_X2_isFull l D tc base ad cnt X Y ln hR hFx hLn hCI) (cwV 0 hts gX2_write_X2_isFull rfl rfl rfl (by decide +kernel) ⟨Nat.le_of_ble_eq_true rfl, Nat.le_of_ble_eq_true rfl⟩) hK hw (by omega) (by omega) sl_29_0 rfl rfl hl.1 rfl (Nat.le_of_ble_eq_true rfl) dX2_write_8 ⟨Nat.le_of_ble_eq_true rfl, Nat.le_of_ble_eq_true rfl⟩) hS (fun z3 u4 H locs p5 hw hS => ?_)
    obtain ⟨eu4, p5⟩ := p5
    subst eu4
    rcases p5 with ⟨ez3, p5⟩ | ⟨ez3, p5⟩
    · subst ez3
      refine x_if_eqF (tgt := 15) hx hb (by omega) (by decide) dX2_write_11 (by decide) ?_
      rw [hQ9]
      refine ret_v (mc := 0) (ms := 0) hx hb hr hlocks hw hS (by omega) (by omega) dX2_write_14 ?_
      exact ⟨X, Y, rfl, hR, Frm.rf, Frm.rf, hCI, by omega, (by first | exact Or.inl ⟨by omega, rfl, rfl, rfl⟩ | (exfalso; omega))⟩
    · subst ez3
      refine x_if_eqT (tgt := 15) hx hb (by omega) (by decide) dX2_write_11 (by decide) ?_
      refine lv_aload_n hx hb dX2_write_15 rfl (lv_at hl 0 rfl) ?_
      refine x_geto hx hb hf2 hw (by first | exact Int.le_refl 0 | omega) (by first | exact zlt hc29 | omega) sl_29_0 lk11 dX2_write_16 ?_
      refine lv_aload_n hx hb dX2_write_19 rfl (lv_at hl 0 rfl) ?_
      refine x_geti (jz := 1) hx hb hf2 hw (by first | exact Int.le_refl 0 | omega) (by first | exact zlt hc29 | omega) sl_29_1 rfl lk22 dX2_write_20 ?_
      have f6 : 0 ≤ X 29 0 1 ∧ X 29 0 1 ≤ 80 := hR 29 0 1
      refine x_aald hx hb hK.1 hw (by first | exact Int.le_refl 0 | omega) (by first | exact zlt hc30 | omega) ar_30 rfl (len_E ar_30 (by decide)) (by omega) (by omega) (by omega) dX2_write_23 (fun y7 => ?_) (fun r8 y7 gr8 lr8 => ?_)
      · exfalso
        have h9 := hCI.2.1 (X 29 0 1) (by omega) (by omega); rw [h9] at y7; cases y7
      · have er8 : r8 = (X 29 0 1) := by have h9 := hCI.2.1 (X 29 0 1) (by omega) (by omega); rw [h9] at y7; cases y7; rfl
        rw [er8]
        refine lv_astore (lv' := [(6, .ref (ad 28 (X 29 0 1))), (0, .ref (ad 29 0)), (1, .null), (2, .int (jI i)), (3, .long (jL v)), (5, .ref (ad 26 g))]) hx hb dX2_write_24 hl (by decide) rfl (fun ls hl => ?_)
        refine lv_aload hx hb dX2_write_26 (lv_at hl 0 rfl) ?_
        refine lv_aload_nN hx hb dX2_write_28 rfl (lv_at hl 2 rfl) ?_
        refine x_putn (jz := 0) hx hb hf3 ⟨tyX3_ok, nmX3⟩ hw hS (by omega) (by omega) sl_28_0 rfl lk52 rfl (tyX3_ok 0 (by decide)) dX2_write_29 (fun H locs hw hS => ?_)
        obtain ⟨Y9, hY9⟩ : ∃ Yq, Yq = u3 Y 28 (X 29 0 1) 0 none := ⟨_, rfl⟩
        rw [← hY9] at hw
        have hVY9 : Y9 28 (X 29 0 1) 0 = none := by rw [hY9]; exact u3_s _ _ _ _ _
        have hHY9 : Frm [2801, 2804] Y Y9 := by rw [hY9]; exact Frm.set Frm.rf (show 2801 ∈ [2801, 2804] by decide)
        refine lv_aload hx hb dX2_write_32 (lv_at hl 0 rfl) ?_
        refine lv_iload_n hx hb dX2_write_34 rfl (lv_at hl 3 rfl) ?_
        refine x_puti (jz := 1) hx hb hf3 ⟨tyX3_ok, nmX3⟩ hw hS (by omega) (by omega) sl_28_1 rfl lk56 rfl (tyX3_ok 1 (by decide)) rfl rfl dX2_write_35 (fun H locs hw hS => ?_)
        obtain ⟨X10, hX10⟩ : ∃ Xq, Xq = u3 X 28 (X 29 0 1) 1 i := ⟨_, rfl⟩
        rw [← hX10] at hw
        have hRX10 : Rng X10 := by rw [hX10]; exact rng_set hR (show 0 ≤ i ∧ i ≤ 11 by omega)
        have hVX10 : X10 28 (X 29 0 1) 1 = i := by rw [hX10]; exact u3_s _ _ _ _ _
        have hFX10 : Frm [2802, 2803, 2902] X X10 := by rw [hX10]; exact Frm.set Frm.rf (show 2802 ∈ [2802, 2803, 2902] by decide)
        refine lv_aload hx hb dX2_write_38 (lv_at hl 0 rfl) ?_
        refine lv_lload_n hx hb dX2_write_40 rfl (lv_at hl 4 rfl) ?_
        refine x_putl (jz := 2) hx hb hf3 ⟨tyX3_ok, nmX3⟩ hw hS (by omega) (by omega) sl_28_2 rfl lk59 rfl (tyX3_ok 2 (by decide)) dX2_write_41 (fun H locs hw hS => ?_)
        obtain ⟨X11, hX11⟩ : ∃ Xq, Xq = u3 X10 28 (X 29 0 1) 2 v := ⟨_, rfl⟩
        rw [← hX11] at hw
        have hRX11 : Rng X11 := by rw [hX11]; exact rng_set hRX10 (show (-9223372036854775808) ≤ v ∧ v ≤ 9223372036854775807 by omega)
        have hVX11 : X11 28 (X 29 0 1) 2 = v := by rw [hX11]; exact u3_s _ _ _ _ _
        have hFX11 : Frm [2802, 2803, 2902] X X11 := by rw [hX11]; exact Frm.set hFX10 (show 2803 ∈ [2802, 2803, 2902] by decide)
        refine lv_aload hx hb dX2_write_44 (lv_at hl 0 rfl) ?_
        refine lv_aload hx hb dX2_write_46 (lv_at hl 5 rfl) ?_
        refine x_putr (jz := 3) hx hb hf3 ⟨tyX3_ok, nmX3⟩ hw hS (by omega) (by omega) sl_28_3 rfl lk63 rfl (by omega) (by omega) (tyX3_ok 3 (by decide)) dX2_write_48 (fun H locs hw hS => ?_)
        obtain ⟨Y12, hY12⟩ : ∃ Yq, Yq = u3 Y9 28 (X 29 0 1) 3 (some g) := ⟨_, rfl⟩
        rw [← hY12] at hw
        have hVY12 : Y12 28 (X 29 0 1) 3 = (some g) := by rw [hY12]; exact u3_s _ _ _ _ _
        have hHY12 : Frm [2801, 2804] Y Y12 := by rw [hY12]; exact Frm.set hHY9 (show 2804 ∈ [2801, 2804] by decide)
        refine lv_aload_n hx hb dX2_write_51 rfl (lv_at hl 1 rfl) ?_
        refine lv_dup hx hb dX2_write_52 rfl ?_
        refine x_geti (jz := 1) hx hb hf2 hw (by first | exact Int.le_refl 0 | omega) (by first | exact zlt hc29 | omega) sl_29_1 rfl lk22 dX2_write_53 ?_
        have e13 : X11 29 0 1 = X 29 0 1 := by rw [hX11, u3_k _ _ _ _ (by decide), hX10, u3_k _ _ _ _ (by decide)]
        rw [e13]
        have f14 : 0 ≤ X 29 0 1 ∧ X 29 0 1 ≤ 80 := hR 29 0 1
        refine lv_iconst (v := jI 1) hx hb dX2_write_56 rfl ?_
        refine x_iadd hx hb dX2_write_57 ?_
        refine x_puti (jz := 1) hx hb hf2 ⟨tyX2_ok, nmX2⟩ hw hS (by first | exact Int.le_refl 0 | omega) (by first | exact zlt hc29 | omega) sl_29_1 rfl lk22 rfl (tyX2_ok 1 (by decide)) rfl rfl dX2_write_58 (fun H locs hw hS => ?_)
        obtain ⟨X15, hX15⟩ : ∃ Xq, Xq = u3 X11 29 0 1 ((X 29 0 1) + 1) := ⟨_, rfl⟩
        rw [← hX15] at hw
        have hRX15 : Rng X15 := by rw [hX15]; exact rng_set hRX11 (show 0 ≤ ((X 29 0 1) + 1) ∧ ((X 29 0 1) + 1) ≤ 80 by omega)
        have hVX15 : X15 29 0 1 = ((X 29 0 1) + 1) := by rw [hX15]; exact u3_s _ _ _ _ _
        have hFX15 : Frm [2802, 2803, 2902] X X15 := by rw [hX15]; exact Frm.set hFX11 (show 2902 ∈ [2802, 2803, 2902] by decide)
        rw [hQ9]
        refine ret_v (mc := 0) (ms := 0) hx hb hr hlocks hw hS (by omega) (by omega) dX2_write_61 ?_
        have e16 : X15 28 (X 29 0 1) 1 = i := (by rw [hX15, u3_k _ _ _ _ (by decide), hX11, u3_ij (by omega)]; exact hVX10)
        have e17 : Y12 28 (X 29 0 1) 0 = none := (by rw [hY12, u3_ij (by omega)]; exact hVY9)
        have e18 : Y12 28 (X 29 0 1) 3 = (some g) := (by exact hVY12)
        exact ⟨X15, Y12, rfl, hRX15, hFX15, hHY12, cinv_note (n := (X 29 0 1)) hCI hFX15 hHY12 (fun m hm => ⟨(by rw [hX15, u3_k _ _ _ _ (by decide), hX11, u3_ij (by omega), hX10, u3_ij (by omega)]), (by rw [hY12, u3_ij (by omega), hY9, u3_ij (by omega)]), (by rw [hY12, u3_ij (by omega), hY9, u3_ij (by omega)])⟩) ⟨fun h => absurd e17 h, fun _ w h => by rw [e18] at h; cases h; rw [e16]; omega⟩, by omega, Or.inr ⟨by omega, (by exact hVX15), ⟨(by rw [hY12, u3_ij (by omega)]; exact hVY9), (by rw [hX15, u3_k _ _ _ _ (by decide), hX11, u3_ij (by omega)]; exact hVX10), (by rw [hX15, u3_k _ _ _ _ (by decide)]; exact hVX11), (by exact hVY12)⟩, fun n hn => ⟨fun j => (by rw [hX15, u3_k _ _ _ _ (by decide), hX11, u3_ij (fun q => hn q.1), hX10, u3_ij (fun q => hn q.1)]), fun j => (by rw [hY12, u3_ij (fun q => hn q.1), hY9, u3_ij (fun q => hn q.1)])⟩⟩⟩

set_option maxHeartbeats 4000000 in
set_option maxRecDepth 100000 in
theorem c_X2_noteField (l : Launch) (D : va_G) (tc : Nat → ClassId) (base : Nat) (ad : Nat → Int → Nat) (cnt : Nat → Int) (X : Nat → Int → Int → Int) (Y : Nat → Int → Int → Option Int) (ln : Int → Int) (hR : Rng X) (hFx : Fx cnt) (hLn : LnOK ln) (hCI : CInv cnt X Y ln) (x k : Int) (hx0 : 0 ≤ x ∧ x ≤ 29) (hk0 : 0 ≤ k ∧ k ≤ 4) (hnf : X 29 0 1 ≤ 79) : KV l D tc base yX2_noteField wsX2_noteField ({ frames := 2, cells := 0, slots := 0, locals := 46 } : Room) [.ref (ad 29 0), .ref (ad 15 x), .int (jI k)] (ad, cnt, X, Y, ln) 0 0 (fun u => ∃ (X1 : Nat → Int → Int → Int) (Y1 : Nat → Int → Int → Option Int), u = (ad, cnt, X1, Y1, ln) ∧ Rng X1 ∧ Frm [2802, 2803, 2902] X X1 ∧ Frm [2801, 2804] Y Y1 ∧ CInv cnt X1 Y1 ln ∧ (0 : Int) ≤ 0 ∧ eNoteC X X1 Y Y1 (some x) k (X 16 x k) (Y 17 x k)) := by
  refine K_of (cc := cX2_noteField) (maxL := 3) (ret := none) (by decide) rfl (Nat.le_of_ble_eq_true rfl) ?_
  intro p e s m below meth c ls hx hb hr hml hown hts hlocks hl hK hw hS
  have hown : s.vm.findClass RX2 = some m.cls := hown
  obtain ⟨av9, hav9⟩ : ∃ a9 : Array Value, a9 = ([.ref (ad 29 0), .ref (ad 15 x), .int (jI k)] : List Value).toArray := ⟨_, rfl⟩
  rw [← hav9] at hts ⊢
  obtain ⟨Q9, hQ9⟩ : ∃ q9Q : State → Prop, q9Q = MQ below (QV D tc base (fun u => ∃ (X1 : Nat → Int → Int → Int) (Y1 : Nat → Int → Int → Option Int), u = (ad, cnt, X1, Y1, ln) ∧ Rng X1 ∧ Frm [2802, 2803, 2902] X X1 ∧ Frm [2801, 2804] Y Y1 ∧ CInv cnt X1 Y1 ln ∧ (0 : Int) ≤ 0 ∧ eNoteC X X1 Y Y1 (some x) k (X 16 x k) (Y 17 x k))) av9 s 0 0 (frA base) := ⟨_, rfl⟩
  rw [← hQ9]
  have hi6 : ∀ w ∈ wsX60, w ∈ wsX2_noteField := fun w h => List.mem_cons_of_mem _ (List.mem_append_left _ (List.mem_append_left _ (List.mem_append_right _ h)))
  have hf6 : fctx s m _ RX2 wsX2_noteField D tc RX6 TX6 4 6 := ⟨hts, hi6, hown, hK.1, rfl⟩
  have lk26 := hts (.fieldLink RX2 26 (TX6 1).1 (TX6 1).2.1 (TX6 1).2.2.1) (gj_X2_noteField_0 _ (gp_h))
  have lk32 := hts (.fieldLink RX2 32 (TX6 2).1 (TX6 2).2.1 (TX6 2).2.2.1) (gj_X2_noteField_0 _ (gp_1 gp_h))
  have hc15 : cnt 15 = 30 := hFx.at 15 30 (by decide)
  have hc16 : cnt 16 = 30 := hFx.at 16 30 (by decide)
  have hc17 : cnt 17 = 30 := hFx.at 17 30 (by decide)
  have hc29 : cnt 29 = 1 := hFx.at 29 1 (by decide)
  have hl : lv_has ls 3 [(0, .ref (ad 29 0)), (1, .ref (ad 15 x)), (2, .int (jI k))] := hl
  have ftc : 0 ≤ X 0 0 3 ∧ X 0 0 3 ≤ 30 := hR 0 0 3
  have fty : 0 ≤ X 0 0 1 ∧ X 0 0 1 ≤ 8 := hR 0 0 1
  have hct : cnt 19 = X 0 0 1 := hCI.2.2.2.1.1
  have hfj : 0 ≤ X 29 0 3 ∧ X 29 0 3 ≤ 4 := hR 29 0 3
  have hfn : 0 ≤ X 29 0 1 ∧ X 29 0 1 ≤ 80 := hR 29 0 1
  refine lv_aload_n hx hb dX2_noteField_0 rfl (lv_at hl 0 rfl) ?_
  refine lv_aload_n hx hb dX2_noteField_1 rfl (lv_at hl 1 rfl) ?_
  refine lv_iload_n hx hb dX2_noteField_2 rfl (lv_at hl 2 rfl) ?_
  refine lv_aload_n hx hb dX2_noteField_3 rfl (lv_at hl 1 rfl) ?_
  refine x_geto hx hb hf6 hw (by omega) (by omega) sl_15_1 lk26 dX2_noteField_4 ?_
  refine lv_iload_n hx hb dX2_noteField_7 rfl (lv_at hl 2 rfl) ?_
  refine x_lald hx hb hK.1 hw (by omega) (by omega) ar_16 (len_E ar_16 (by decide)) (by omega) (by omega) (by omega) dX2_noteField_8 ?_
  have f1 : (-9223372036854775808) ≤ X 16 x k ∧ X 16 x k ≤ 9223372036854775807 := hR 16 x k
  refine lv_aload_n hx hb dX2_noteField_9 rfl (lv_at hl 1 rfl) ?_
  refine x_geto hx hb hf6 hw (by omega) (by omega) sl_15_2 lk32 dX2_noteField_10 ?_
  refine lv_iload_n hx hb dX2_noteField_13 rfl (lv_at hl 2 rfl) ?_
  refine x_aald hx hb hK.1 hw (by omega) (by omega) ar_17 rfl (len_E ar_17 (by decide)) (by omega) (by omega) (by omega) dX2_noteField_14 (fun y2 => ?_) (fun r3 y2 gr3 lr3 => ?_)
  · refine gos_v (run_V (As := [.ref (ad 15 x), .int (jI k), .long (jL (X 16 x k)), .null]) (rest := []) hx hb hml hown hts (c_X2_write_rn l D tc base ad cnt X Y ln hR hFx hLn hCI x k (X 16 x k) (by omega) (by omega) (by omega) (by omega)) (cwV 4 hts gX2_noteField_X2_write rfl rfl rfl (by decide +kernel) ⟨Nat.le_of_ble_eq_true rfl, Nat.le_of_ble_eq_true rfl⟩) hK hw (by omega) (by omega) sl_29_0 rfl rfl hl.1 rfl (Nat.le_of_ble_eq_true rfl) dX2_noteField_15 ⟨Nat.le_of_ble_eq_true rfl, Nat.le_of_ble_eq_true rfl⟩) hS (fun u5 H locs p6 hw hS => ?_)
    obtain ⟨X7, Y8, eu5, hRX7, hG9, hJ10, hCIX7, p6, hntX7⟩ := p6
    subst eu5
    have hFX7 : Frm [2802, 2803, 2902] X X7 := Frm.tr Frm.rf (Frm.mono hG9 (by decide))
    have hHY8 : Frm [2801, 2804] Y Y8 := Frm.tr Frm.rf (Frm.mono hJ10 (by decide))
    rw [hQ9]
    refine ret_v (mc := 0) (ms := 0) hx hb hr hlocks hw hS (by omega) (by omega) dX2_noteField_18 ?_
    exact ⟨X7, Y8, rfl, hRX7, hFX7, hHY8, hCIX7, by omega, (by rw [y2]; exact hntX7)⟩
  · refine gos_v (run_V (As := [.ref (ad 15 x), .int (jI k), .long (jL (X 16 x k)), .ref (ad 26 r3)]) (rest := []) hx hb hml hown hts (c_X2_write_rr l D tc base ad cnt X Y ln hR hFx hLn hCI x k (X 16 x k) r3 (by omega) (by omega) (by omega) (by omega) (by omega)) (cwV 4 hts gX2_noteField_X2_write rfl rfl rfl (by decide +kernel) ⟨Nat.le_of_ble_eq_true rfl, Nat.le_of_ble_eq_true rfl⟩) hK hw (by omega) (by omega) sl_29_0 rfl rfl hl.1 rfl (Nat.le_of_ble_eq_true rfl) dX2_noteField_15 ⟨Nat.le_of_ble_eq_true rfl, Nat.le_of_ble_eq_true rfl⟩) hS (fun u12 H locs p13 hw hS => ?_)
    obtain ⟨X14, Y15, eu12, hRX14, hG16, hJ17, hCIX14, p13, hntX14⟩ := p13
    subst eu12
    have hFX14 : Frm [2802, 2803, 2902] X X14 := Frm.tr Frm.rf (Frm.mono hG16 (by decide))
    have hHY15 : Frm [2801, 2804] Y Y15 := Frm.tr Frm.rf (Frm.mono hJ17 (by decide))
    rw [hQ9]
    refine ret_v (mc := 0) (ms := 0) hx hb hr hlocks hw hS (by omega) (by omega) dX2_noteField_18 ?_
    exact ⟨X14, Y15, rfl, hRX14, hFX14, hHY15, hCIX14, by omega, (by rw [y2]; exact hntX14)⟩

set_option maxHeartbeats 4000000 in
set_option maxRecDepth 100000 in
theorem c_X2_noteItem (l : Launch) (D : va_G) (tc : Nat → ClassId) (base : Nat) (ad : Nat → Int → Nat) (cnt : Nat → Int) (X : Nat → Int → Int → Int) (Y : Nat → Int → Int → Option Int) (ln : Int → Int) (hR : Rng X) (hFx : Fx cnt) (hLn : LnOK ln) (hCI : CInv cnt X Y ln) (g i : Int) (hg : 0 ≤ g ∧ g < cnt 26) (hi : 0 ≤ i ∧ i < ln g) (hnf : X 29 0 1 ≤ 79) : KV l D tc base yX2_noteItem wsX2_noteItem ({ frames := 2, cells := 0, slots := 0, locals := 46 } : Room) [.ref (ad 29 0), .ref (ad 26 g), .int (jI i)] (ad, cnt, X, Y, ln) 0 0 (fun u => ∃ (X1 : Nat → Int → Int → Int) (Y1 : Nat → Int → Int → Option Int), u = (ad, cnt, X1, Y1, ln) ∧ Rng X1 ∧ Frm [2802, 2803, 2902] X X1 ∧ Frm [2801, 2804] Y Y1 ∧ CInv cnt X1 Y1 ln ∧ (0 : Int) ≤ 0 ∧ eNoteC X X1 Y Y1 none i (X 27 g i) (some g)) := by
  refine K_of (cc := cX2_noteItem) (maxL := 3) (ret := none) (by decide) rfl (Nat.le_of_ble_eq_true rfl) ?_
  intro p e s m below meth c ls hx hb hr hml hown hts hlocks hl hK hw hS
  have hown : s.vm.findClass RX2 = some m.cls := hown
  obtain ⟨av9, hav9⟩ : ∃ a9 : Array Value, a9 = ([.ref (ad 29 0), .ref (ad 26 g), .int (jI i)] : List Value).toArray := ⟨_, rfl⟩
  rw [← hav9] at hts ⊢
  obtain ⟨Q9, hQ9⟩ : ∃ q9Q : State → Prop, q9Q = MQ below (QV D tc base (fun u => ∃ (X1 : Nat → Int → Int → Int) (Y1 : Nat → Int → Int → Option Int), u = (ad, cnt, X1, Y1, ln) ∧ Rng X1 ∧ Frm [2802, 2803, 2902] X X1 ∧ Frm [2801, 2804] Y Y1 ∧ CInv cnt X1 Y1 ln ∧ (0 : Int) ≤ 0 ∧ eNoteC X X1 Y Y1 none i (X 27 g i) (some g))) av9 s 0 0 (frA base) := ⟨_, rfl⟩
  rw [← hQ9]
  have hi5 : ∀ w ∈ wsX50, w ∈ wsX2_noteItem := fun w h => List.mem_cons_of_mem _ (List.mem_append_left _ (List.mem_append_left _ (List.mem_append_right _ h)))
  have hf5 : fctx s m _ RX2 wsX2_noteItem D tc RX5 TX5 2 5 := ⟨hts, hi5, hown, hK.1, rfl⟩
  have lk40 := hts (.fieldLink RX2 40 (TX5 0).1 (TX5 0).2.1 (TX5 0).2.2.1) (gj_X2_noteItem_0 _ (gp_h))
  have hc27 : cnt 27 = cnt 26 := hFx.2.2
  have hc29 : cnt 29 = 1 := hFx.at 29 1 (by decide)
  have hl : lv_has ls 3 [(0, .ref (ad 29 0)), (1, .ref (ad 26 g)), (2, .int (jI i))] := hl
  have ftc : 0 ≤ X 0 0 3 ∧ X 0 0 3 ≤ 30 := hR 0 0 3
  have fty : 0 ≤ X 0 0 1 ∧ X 0 0 1 ≤ 8 := hR 0 0 1
  have hct : cnt 19 = X 0 0 1 := hCI.2.2.2.1.1
  have hfj : 0 ≤ X 29 0 3 ∧ X 29 0 3 ≤ 4 := hR 29 0 3
  have hfn : 0 ≤ X 29 0 1 ∧ X 29 0 1 ≤ 80 := hR 29 0 1
  refine lv_aload_n hx hb dX2_noteItem_0 rfl (lv_at hl 0 rfl) ?_
  refine lv_null hx hb dX2_noteItem_1 ?_
  refine lv_iload_n hx hb dX2_noteItem_2 rfl (lv_at hl 2 rfl) ?_
  refine lv_aload_n hx hb dX2_noteItem_3 rfl (lv_at hl 1 rfl) ?_
  refine x_geto hx hb hf5 hw (by omega) (by omega) sl_26_0 lk40 dX2_noteItem_4 ?_
  refine lv_iload_n hx hb dX2_noteItem_7 rfl (lv_at hl 2 rfl) ?_
  have f1 : 0 ≤ ln g ∧ ln g ≤ 12 := hLn g
  refine x_lald hx hb hK.1 hw (by omega) (by omega) ar_27 (show lenE ln 27 g = ln g from rfl) (by omega) (by omega) (by omega) dX2_noteItem_8 ?_
  have f2 : (-9223372036854775808) ≤ X 27 g i ∧ X 27 g i ≤ 9223372036854775807 := hR 27 g i
  refine lv_aload_n hx hb dX2_noteItem_9 rfl (lv_at hl 1 rfl) ?_
  refine gos_v (run_V (As := [.null, .int (jI i), .long (jL (X 27 g i)), .ref (ad 26 g)]) (rest := []) hx hb hml hown hts (c_X2_write_nr l D tc base ad cnt X Y ln hR hFx hLn hCI i (X 27 g i) g (by omega) (by omega) (by omega) (by omega)) (cwV 4 hts gX2_noteItem_X2_write rfl rfl rfl (by decide +kernel) ⟨Nat.le_of_ble_eq_true rfl, Nat.le_of_ble_eq_true rfl⟩) hK hw (by omega) (by omega) sl_29_0 rfl rfl hl.1 rfl (Nat.le_of_ble_eq_true rfl) dX2_noteItem_10 ⟨Nat.le_of_ble_eq_true rfl, Nat.le_of_ble_eq_true rfl⟩) hS (fun u4 H locs p5 hw hS => ?_)
  obtain ⟨X6, Y7, eu4, hRX6, hG8, hJ9, hCIX6, p5, hntX6⟩ := p5
  subst eu4
  have hFX6 : Frm [2802, 2803, 2902] X X6 := Frm.tr Frm.rf (Frm.mono hG8 (by decide))
  have hHY7 : Frm [2801, 2804] Y Y7 := Frm.tr Frm.rf (Frm.mono hJ9 (by decide))
  rw [hQ9]
  refine ret_v (mc := 0) (ms := 0) hx hb hr hlocks hw hS (by omega) (by omega) dX2_noteItem_13 ?_
  exact ⟨X6, Y7, rfl, hRX6, hFX6, hHY7, hCIX6, by omega, hntX6⟩

set_option maxHeartbeats 4000000 in
set_option maxRecDepth 100000 in
theorem c_X2_addMark (l : Launch) (D : va_G) (tc : Nat → ClassId) (base : Nat) (ad : Nat → Int → Nat) (cnt : Nat → Int) (X : Nat → Int → Int → Int) (Y : Nat → Int → Int → Option Int) (ln : Int → Int) (hR : Rng X) (hFx : Fx cnt) (hLn : LnOK ln) (hCI : CInv cnt X Y ln) (hm4 : X 29 0 3 ≤ 3) : KV l D tc base yX2_addMark wsX2_addMark ({ frames := 0, cells := 0, slots := 0, locals := 0 } : Room) [.ref (ad 29 0)] (ad, cnt, X, Y, ln) 0 0 (fun u => ∃ (X1 : Nat → Int → Int → Int), u = (ad, cnt, X1, Y, ln) ∧ Rng X1 ∧ Frm [2904, 3100] X X1 ∧ CInv cnt X1 Y ln ∧ (0 : Int) ≤ 0 ∧ X1 29 0 3 = X 29 0 3 + 1 ∧ X1 31 0 (X 29 0 3) = X 29 0 1 ∧ ∀ j, j ≠ X 29 0 3 → X1 31 0 j = X 31 0 j) := by
  refine K_of (cc := cX2_addMark) (maxL := 1) (ret := none) (by decide) rfl (Nat.le_of_ble_eq_true rfl) ?_
  intro p e s m below meth c ls hx hb hr hml hown hts hlocks hl hK hw hS
  have hown : s.vm.findClass RX2 = some m.cls := hown
  obtain ⟨av9, hav9⟩ : ∃ a9 : Array Value, a9 = ([.ref (ad 29 0)] : List Value).toArray := ⟨_, rfl⟩
  rw [← hav9] at hts ⊢
  obtain ⟨Q9, hQ9⟩ : ∃ q9Q : State → Prop, q9Q = MQ below (QV D tc base (fun u => ∃ (X1 : Nat → Int → Int → Int), u = (ad, cnt, X1, Y, ln) ∧ Rng X1 ∧ Frm [2904, 3100] X X1 ∧ CInv cnt X1 Y ln ∧ (0 : Int) ≤ 0 ∧ X1 29 0 3 = X 29 0 3 + 1 ∧ X1 31 0 (X 29 0 3) = X 29 0 1 ∧ ∀ j, j ≠ X 29 0 3 → X1 31 0 j = X 31 0 j)) av9 s 0 0 (frA base) := ⟨_, rfl⟩
  rw [← hQ9]
  have hi2 : ∀ w ∈ wsX20, w ∈ wsX2_addMark := fun w h => List.mem_cons_of_mem _ (List.mem_append_right _ h)
  have hf2 : fctx s m _ RX2 wsX2_addMark D tc RX2 TX2 4 2 := ⟨hts, hi2, hown, hK.1, rfl⟩
  have lk17 := hts (.fieldLink RX2 17 (TX2 2).1 (TX2 2).2.1 (TX2 2).2.2.1) (gj_X2_addMark_0 _ (gp_h))
  have lk22 := hts (.fieldLink RX2 22 (TX2 1).1 (TX2 1).2.1 (TX2 1).2.2.1) (gj_X2_addMark_0 _ (gp_1 (gp_1 gp_h)))
  have lk45 := hts (.fieldLink RX2 45 (TX2 3).1 (TX2 3).2.1 (TX2 3).2.2.1) (gj_X2_addMark_0 _ (gp_1 gp_h))
  have hc29 : cnt 29 = 1 := hFx.at 29 1 (by decide)
  have hc31 : cnt 31 = 1 := hFx.at 31 1 (by decide)
  have hl : lv_has ls 1 [(0, .ref (ad 29 0))] := hl
  have ftc : 0 ≤ X 0 0 3 ∧ X 0 0 3 ≤ 30 := hR 0 0 3
  have fty : 0 ≤ X 0 0 1 ∧ X 0 0 1 ≤ 8 := hR 0 0 1
  have hct : cnt 19 = X 0 0 1 := hCI.2.2.2.1.1
  have hfj : 0 ≤ X 29 0 3 ∧ X 29 0 3 ≤ 4 := hR 29 0 3
  have hfn : 0 ≤ X 29 0 1 ∧ X 29 0 1 ≤ 80 := hR 29 0 1
  refine lv_aload_n hx hb dX2_addMark_0 rfl (lv_at hl 0 rfl) ?_
  refine x_geto hx hb hf2 hw (by first | exact Int.le_refl 0 | omega) (by first | exact zlt hc29 | omega) sl_29_2 lk17 dX2_addMark_1 ?_
  refine lv_aload_n hx hb dX2_addMark_4 rfl (lv_at hl 0 rfl) ?_
  refine x_geti (jz := 3) hx hb hf2 hw (by first | exact Int.le_refl 0 | omega) (by first | exact zlt hc29 | omega) sl_29_3 rfl lk45 dX2_addMark_5 ?_
  have f1 : 0 ≤ X 29 0 3 ∧ X 29 0 3 ≤ 4 := hR 29 0 3
  refine lv_aload_n hx hb dX2_addMark_8 rfl (lv_at hl 0 rfl) ?_
  refine x_geti (jz := 1) hx hb hf2 hw (by first | exact Int.le_refl 0 | omega) (by first | exact zlt hc29 | omega) sl_29_1 rfl lk22 dX2_addMark_9 ?_
  have f2 : 0 ≤ X 29 0 1 ∧ X 29 0 1 ≤ 80 := hR 29 0 1
  refine x_iast hx hb hK.1 hw hS (by first | exact Int.le_refl 0 | omega) (by first | exact zlt hc31 | omega) ar_31 (len_E ar_31 (by decide)) (by omega) (by omega) (by omega) dX2_addMark_12 (fun H locs hw hS => ?_)
  obtain ⟨X3, hX3⟩ : ∃ Xq, Xq = u3 X 31 0 (X 29 0 3) (X 29 0 1) := ⟨_, rfl⟩
  rw [← hX3] at hw
  have hRX3 : Rng X3 := by rw [hX3]; exact rng_set hR (show 0 ≤ (X 29 0 1) ∧ (X 29 0 1) ≤ 80 by omega)
  have hVX3 : X3 31 0 (X 29 0 3) = (X 29 0 1) := by rw [hX3]; exact u3_s _ _ _ _ _
  have hFX3 : Frm [2904, 3100] X X3 := by rw [hX3]; exact Frm.set Frm.rf (show 3100 ∈ [2904, 3100] by decide)
  refine lv_aload_n hx hb dX2_addMark_13 rfl (lv_at hl 0 rfl) ?_
  refine lv_dup hx hb dX2_addMark_14 rfl ?_
  refine x_geti (jz := 3) hx hb hf2 hw (by first | exact Int.le_refl 0 | omega) (by first | exact zlt hc29 | omega) sl_29_3 rfl lk45 dX2_addMark_15 ?_
  have e4 : X3 29 0 3 = X 29 0 3 := by rw [hX3, u3_k _ _ _ _ (by decide)]
  rw [e4]
  have f5 : 0 ≤ X 29 0 3 ∧ X 29 0 3 ≤ 4 := hR 29 0 3
  refine lv_iconst (v := jI 1) hx hb dX2_addMark_18 rfl ?_
  refine x_iadd hx hb dX2_addMark_19 ?_
  refine x_puti (jz := 3) hx hb hf2 ⟨tyX2_ok, nmX2⟩ hw hS (by first | exact Int.le_refl 0 | omega) (by first | exact zlt hc29 | omega) sl_29_3 rfl lk45 rfl (tyX2_ok 3 (by decide)) rfl rfl dX2_addMark_20 (fun H locs hw hS => ?_)
  obtain ⟨X6, hX6⟩ : ∃ Xq, Xq = u3 X3 29 0 3 ((X 29 0 3) + 1) := ⟨_, rfl⟩
  rw [← hX6] at hw
  have hRX6 : Rng X6 := by rw [hX6]; exact rng_set hRX3 (show 0 ≤ ((X 29 0 3) + 1) ∧ ((X 29 0 3) + 1) ≤ 4 by omega)
  have hVX6 : X6 29 0 3 = ((X 29 0 3) + 1) := by rw [hX6]; exact u3_s _ _ _ _ _
  have hFX6 : Frm [2904, 3100] X X6 := by rw [hX6]; exact Frm.set hFX3 (show 2904 ∈ [2904, 3100] by decide)
  rw [hQ9]
  refine ret_v (mc := 0) (ms := 0) hx hb hr hlocks hw hS (by omega) (by omega) dX2_addMark_23 ?_
  have q7 : Frm [2904, 3100] X X3 := by rw [hX3]; exact Frm.set Frm.rf (show 3100 ∈ [2904, 3100] by decide)
  have q8 : Frm [2904, 3100] X X6 := by rw [hX6]; exact Frm.set q7 (show 2904 ∈ [2904, 3100] by decide)
  have hCq9 : CInv cnt X6 Y ln := cinv_frm (M := [2904, 3100]) (N := []) hCI q8 Frm.rf (by decide) (by decide)
  exact ⟨X6, rfl, hRX6, hFX6, hCq9, by omega, by omega, (by rw [hX6, u3_k _ _ _ _ (by decide)]; exact hVX3), fun j hj => (by rw [hX6, u3_k _ _ _ _ (by decide), hX3, u3_ij (by omega)])⟩

